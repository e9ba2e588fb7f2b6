/-! names of members stay (laid by wip/p4/e27.py) -/
set_option maxHeartbeats 8000000 in
theorem rd_checkFields2 {g : xe_G} {m0 : Nat} {q : Nat → Nat} {z : Nat × Nat} {I : rI} {R : rR} {M : mi_H} {n : Nat} {f : Nat → Int32} {tx : List (List Nat)} {cN : Nat} {A : Nat → Nat} {N mj : Nat} {E : List (Nat × Nat)} {pF f0 cf : Nat} {B : List Nat} {E1 : Nat → Nat} (hR : RS g m0 q z I R M) (hi51 : I 51 = some 0) (hi52 : I 52 = some (nI N)) (hi53 : I 53 = some (nI mj)) (hi58 : I 58 = some (nI cf)) (hi55 : I 55 = some (nI pF)) (hi25 : I 25 = some (nI f0)) (hF : FK n f I R) (hY : SYT tx cN A I R) (hP : RPV f n E tx N I R) (hK : KX I R) (hEP : EP f n E) (hN : N < 65536) (hmj : mj < 65536) (hMB : MBS f n B pF E1) (hf0 : f0 ≤ 8300) (hcf : cf < 65536) : pt (mT g) 189 [.ref m0] M (fun v M' => (∃  (I' : rI) (R' : rR), (flS f n E cf B B.length 0 = none) ∧ v = some (.int 1) ∧ RS g m0 q z I' R' M' ∧ eqI [25, 47, 48] I I' ∧ eqR [27, 28, 29, 30, 31, 32, 33] R R' ∧ I' 25 = some (nI (f0 + B.length)) ∧ FN 28 29 f n E tx B f0 B.length I' R') ∨ (∃ (e9 : Nat × Nat) (I' : rI) (R' : rR), (flS f n E cf B B.length 0 = some e9) ∧ v = some (.int 0) ∧ RS g m0 q z I' R' M' ∧ eqI [25, 47, 48] I I' ∧ eqR [27, 28, 29, 30, 31, 32, 33] R R' ∧ I' 47 = some (nI e9.1) ∧ I' 48 = some (nI e9.2))) := by
  refine pt_in (b := mb_189 g) rfl (fun kf => ?_)
  show pl (mT g) kf (mb_189 g).2 (0, [(0, .ref m0)], [], M) _
  have hEI : eqI [25, 47, 48] I I := eqI.rf
  have hER : eqR [27, 28, 29, 30, 31, 32, 33] R R := eqR.rf
  have hn := hF.1
  have hBl := hMB.1
  have hp2 := hMB.2.1
  have hFN0 : FN 28 29 f n E tx B f0 0 I R := fun j hj => absurd hj (Nat.not_lt_zero _)
  have LL : ∀ (kf : Nat), (∀ (k p : Nat) (M1 : mi_H) (I1 : rI) (R1 : rR), (RS g m0 q z I1 R1 M1) → (eqI [25, 47, 48] I I1) → (eqR [27, 28, 29, 30, 31, 32, 33] R R1) → (I1 51 = some 0) → (I1 52 = some (nI N)) → (I1 53 = some (nI mj)) → (I1 58 = some (nI cf)) → (I1 55 = some (nI pF)) → (I1 25 = some (nI (f0 + k))) → (FK n f I1 R1) → (SYT tx cN A I1 R1) → (RPV f n E tx N I1 R1) → (KX I1 R1) → (FN 28 29 f n E tx B f0 k I1 R1) → (k ≤ by2 f pF) → (k < by2 f pF → p = B.getD k 0) → (p ≤ n) → (flS f n E cf B (B.length - k) k = flS f n E cf B B.length 0) →  pl (mT g) kf (mb_189 g).2 (22, [(0, .ref m0), (1, .int (nI p)), (2, .int (nI (by2 f pF))), (3, .int (nI f0)), (4, .int (nI k))], [], M1) (fun v M' => (∃  (I' : rI) (R' : rR), (flS f n E cf B B.length 0 = none) ∧ v = some (.int 1) ∧ RS g m0 q z I' R' M' ∧ eqI [25, 47, 48] I I' ∧ eqR [27, 28, 29, 30, 31, 32, 33] R R' ∧ I' 25 = some (nI (f0 + B.length)) ∧ FN 28 29 f n E tx B f0 B.length I' R') ∨ (∃ (e9 : Nat × Nat) (I' : rI) (R' : rR), (flS f n E cf B B.length 0 = some e9) ∧ v = some (.int 0) ∧ RS g m0 q z I' R' M' ∧ eqI [25, 47, 48] I I' ∧ eqR [27, 28, 29, 30, 31, 32, 33] R R' ∧ I' 47 = some (nI e9.1) ∧ I' 48 = some (nI e9.2)))) ∧ (∀ (k p j a d : Nat) (M1 : mi_H) (I1 : rI) (R1 : rR), (RS g m0 q z I1 R1 M1) → (eqI [25, 47, 48] I I1) → (eqR [27, 28, 29, 30, 31, 32, 33] R R1) → (I1 51 = some 0) → (I1 52 = some (nI N)) → (I1 53 = some (nI mj)) → (I1 58 = some (nI cf)) → (I1 55 = some (nI pF)) → (I1 25 = some (nI (f0 + k))) → (FK n f I1 R1) → (SYT tx cN A I1 R1) → (RPV f n E tx N I1 R1) → (KX I1 R1) → (FN 28 29 f n E tx B f0 k I1 R1) → (CE 27 (f0 + k) (nI (by2 f p)) I1 R1) → (CE 28 (f0 + k) (nI a) I1 R1) → (CE 29 (f0 + k) (nI d) I1 R1) → (k < by2 f pF) → (p = B.getD k 0) → (p + 8 ≤ n) → (flS f n E cf B (B.length - k) k = flS f n E cf B B.length 0) → (j ≤ k) → (f0 + k < 8300) → (a < tx.length ∧ tx.getD a [] = tX f n E (by2 f (p + 2))) → (d < tx.length ∧ tx.getD d [] = tX f n E (by2 f (p + 4))) → (tg f E (by2 f (p + 2)) = 1) → (tg f E (by2 f (p + 4)) = 1) → (¬ fflN cf (by2 f p) = 0) → (¬ unqN (tX f n E (by2 f (p + 2))) = 0) → (¬ fldN (tX f n E (by2 f (p + 4))) = 0) → (smeS f n E B (by2 f (p + 2)) (by2 f (p + 4)) (k - j) j = smeS f n E B (by2 f (p + 2)) (by2 f (p + 4)) k 0) →  pl (mT g) kf (mb_189 g).2 (277, [(0, .ref m0), (1, .int (nI p)), (2, .int (nI (by2 f pF))), (3, .int (nI f0)), (4, .int (nI k)), (6, .int (nI (f0 + k))), (7, .int (nI (f0 + j)))], [], M1) (fun v M' => (∃  (I' : rI) (R' : rR), (flS f n E cf B B.length 0 = none) ∧ v = some (.int 1) ∧ RS g m0 q z I' R' M' ∧ eqI [25, 47, 48] I I' ∧ eqR [27, 28, 29, 30, 31, 32, 33] R R' ∧ I' 25 = some (nI (f0 + B.length)) ∧ FN 28 29 f n E tx B f0 B.length I' R') ∨ (∃ (e9 : Nat × Nat) (I' : rI) (R' : rR), (flS f n E cf B B.length 0 = some e9) ∧ v = some (.int 0) ∧ RS g m0 q z I' R' M' ∧ eqI [25, 47, 48] I I' ∧ eqR [27, 28, 29, 30, 31, 32, 33] R R' ∧ I' 47 = some (nI e9.1) ∧ I' 48 = some (nI e9.2)))) := by
    intro kf
    induction kf with
    | zero => exact ⟨by intros; exact pl_0, by intros; exact pl_0⟩
    | succ kf ih =>
      refine ⟨?_, ?_⟩
      · skip
        intro k p M1 I1 R1 hR1 hEI1 hER1 hl51 hl52 hl53 hl58 hl55 hl25 hF1 hY1 hP1 hK1 hN91 hk hp hpn hs
        have hn := hF1.1
        have hu9 := by2_lt f pF
        have htl := hY1.1.2.2.1
        have hBl := hMB.1
        refine ps_st1 (S' := (24, [(0, .ref m0), (1, .int (nI p)), (2, .int (nI (by2 f pF))), (3, .int (nI f0)), (4, .int (nI k))], [.int (nI k)], M1)) rfl rfl rfl ?_
        refine ps_st (S' := (25, [(0, .ref m0), (1, .int (nI p)), (2, .int (nI (by2 f pF))), (3, .int (nI f0)), (4, .int (nI k))], [.int (nI (by2 f pF)), .int (nI k)], M1)) rfl rfl rfl ?_
        refine ps_if2 (S1 := (366, [(0, .ref m0), (1, .int (nI p)), (2, .int (nI (by2 f pF))), (3, .int (nI f0)), (4, .int (nI k))], [], M1)) (S2 := (28, [(0, .ref m0), (1, .int (nI p)), (2, .int (nI (by2 f pF))), (3, .int (nI f0)), (4, .int (nI k))], [], M1)) rfl rfl rfl (fun c_25 => ?_) (fun c_25 => ?_)
        · have c_25 : (nI (by2 f pF)) ≤ (nI k) := of_decide_eq_true c_25
          have n_25 : by2 f pF ≤ k := (le_nI (p := by2 f pF) (n := k) (Nat.lt_trans (by2_lt _ _) (by decide)) (by omega)).mp c_25
          refine ps_st (S' := (367, [(0, .ref m0), (1, .int (nI p)), (2, .int (nI (by2 f pF))), (3, .int (nI f0)), (4, .int (nI k))], [.int 1], M1)) rfl rfl rfl ?_
          exact ps_ret rfl rfl (Or.inl ⟨I1, R1, by
              rw [← hs, show B.length - k = 0 by omega]
              rfl, rfl, hR1, hEI1, hER1, by rw [show B.length = k by omega]; exact hl25, by rw [show B.length = k by omega]; exact hN91⟩)
        · have c_25 : ¬ ((nI (by2 f pF)) ≤ (nI k)) := of_decide_eq_false c_25
          have n_25 : ¬ (by2 f pF ≤ k) := fun h9 => c_25 ((le_nI (p := by2 f pF) (n := k) (Nat.lt_trans (by2_lt _ _) (by decide)) (by omega)).mpr h9)
          have hpk := hp (by omega)
          have hm8 := (hMB.2.2.2 k (by omega)).1
          have hm7 := (hMB.2.2.2 k (by omega)).2.1
          rw [← hpk] at hm8
          have hpe : p + 8 ≤ n := by omega
          have hu8 := by2_lt f p
          refine ps_st (S' := (29, [(0, .ref m0), (1, .int (nI p)), (2, .int (nI (by2 f pF))), (3, .int (nI f0)), (4, .int (nI k))], [.ref m0], M1)) rfl rfl rfl ?_
          refine ps_st (S' := (30, [(0, .ref m0), (1, .int (nI p)), (2, .int (nI (by2 f pF))), (3, .int (nI f0)), (4, .int (nI k))], [.int (nI p), .ref m0], M1)) rfl rfl rfl ?_
          refine pl_call (a := [.ref m0, .int (nI p)]) (rest := []) rfl rfl rfl (rd_u2 (n := n) (f := f) (p := p) hR1 hF1 (by omega)) (fun v1 M2 q3 => ?_)
          obtain ⟨rfl, rfl⟩ := q3
          show pl _ _ _ (33, [(0, .ref m0), (1, .int (nI p)), (2, .int (nI (by2 f pF))), (3, .int (nI f0)), (4, .int (nI k))], [.int (nI (by2 f p))], M1) _
          have hu_30 := by2_lt f p
          refine ps_st (S' := (35, [(5, .int (nI (by2 f p))), (0, .ref m0), (1, .int (nI p)), (2, .int (nI (by2 f pF))), (3, .int (nI f0)), (4, .int (nI k))], [], M1)) rfl rfl rfl ?_
          refine ps_st (S' := (37, [(5, .int (nI (by2 f p))), (0, .ref m0), (1, .int (nI p)), (2, .int (nI (by2 f pF))), (3, .int (nI f0)), (4, .int (nI k))], [.int (nI (by2 f p))], M1)) rfl rfl rfl ?_
          refine ps_st (S' := (38, [(5, .int (nI (by2 f p))), (0, .ref m0), (1, .int (nI p)), (2, .int (nI (by2 f pF))), (3, .int (nI f0)), (4, .int (nI k))], [.int 1, .int (nI (by2 f p))], M1)) rfl rfl rfl ?_
          refine ps_st (S' := (39, [(5, .int (nI (by2 f p))), (0, .ref m0), (1, .int (nI p)), (2, .int (nI (by2 f pF))), (3, .int (nI f0)), (4, .int (nI k))], [.int 2, .int 1, .int (nI (by2 f p))], M1)) rfl rfl rfl ?_
          refine ps_st (S' := (40, [(5, .int (nI (by2 f p))), (0, .ref m0), (1, .int (nI p)), (2, .int (nI (by2 f pF))), (3, .int (nI f0)), (4, .int (nI k))], [.int 4, .int 2, .int 1, .int (nI (by2 f p))], M1)) rfl rfl rfl ?_
          refine pl_call (a := [.int (nI (by2 f p)), .int 1, .int 2, .int 4]) (rest := []) rfl rfl rfl (rd_several (x := (by2 f p))) (fun v4 M5 q6 => ?_)
          obtain ⟨rfl, rfl⟩ := q6
          show pl _ _ _ (43, [(5, .int (nI (by2 f p))), (0, .ref m0), (1, .int (nI p)), (2, .int (nI (by2 f pF))), (3, .int (nI f0)), (4, .int (nI k))], [.int (nI (sevN (by2 f p)))], M1) _
          refine ps_if (S1 := (84, [(0, .ref m0), (1, .int (nI p))], [], M1)) (S2 := (46, [(5, .int (nI (by2 f p))), (0, .ref m0), (1, .int (nI p)), (2, .int (nI (by2 f pF))), (3, .int (nI f0)), (4, .int (nI k))], [], M1)) rfl rfl rfl (fun c_43 => ?_) (fun c_43 => ?_)
          · have c_43 : ¬ (nI (sevN (by2 f p))) = 0 := of_decide_eq_true c_43
            have n_43 : ¬ (sevN (by2 f p) = 0) := fun h9 => c_43 ((eq_nI (p := sevN (by2 f p)) (n := 0) (Nat.lt_trans (le1_sev _) (by decide)) (by decide)).mpr h9)
            refine ps_st (S' := (85, [(0, .ref m0), (1, .int (nI p))], [.ref m0], M1)) rfl rfl rfl ?_
            refine ps_st (S' := (87, [(0, .ref m0), (1, .int (nI p))], [.int 19, .ref m0], M1)) rfl rfl rfl ?_
            refine ps_st (S' := (88, [(0, .ref m0), (1, .int (nI p))], [.int (nI p), .int 19, .ref m0], M1)) rfl rfl rfl ?_
            refine pl_call (a := [.ref m0, .int 19, .int (nI p)]) (rest := []) rfl rfl rfl (rd_wrong (x1 := 19) (x2 := (nI p)) hR1) (fun v7 M8 q9 => ?_)
            obtain ⟨I10, R11, rfl, hR12, hI13, hX14, hi15, hi16⟩ := q9
            have hi17 := (hI13 51 (by decide)).trans hl51
            have hi18 := (hI13 52 (by decide)).trans hl52
            have hi19 := (hI13 53 (by decide)).trans hl53
            have hi20 := (hI13 58 (by decide)).trans hl58
            have hi21 := (hI13 55 (by decide)).trans hl55
            have hi22 := (hI13 25 (by decide)).trans hl25
            have hF_23 := hF1.mono (cIx hI13 (by decide)) (cRx hX14 (by decide))
            have hY_24 := hY1.mono (cIx hI13 (by decide)) (cRx hX14 (by decide))
            have hP_25 := hP1.mono (cIx hI13 (by decide)) (cRx hX14 (by decide))
            have hK_26 := hK1.mono (cIx hI13 (by decide)) (cRx hX14 (by decide))
            have hN9_27 := hN91.mono (cIx hI13 (by decide)) (cRx hX14 (by decide))
            have hEI28 := hEI1.tr hI13 (by decide)
            have hER29 := hER1.tr hX14 (by decide)
            show pl _ _ _ (91, [(0, .ref m0), (1, .int (nI p))], [.int 0], M8) _
            exact ps_ret rfl rfl (Or.inr ⟨(19, p), I10, R11, by
                rw [← hs, flS_st (i := k) (by omega), ← hpk, fh_19 (by have e1 := ffl_0 cf (by2 f p); have e2 := sev_0 (by2 f p); have e3 := hall_80 (by2 f p); omega)], rfl, hR12, hEI28, hER29, hi15, hi16⟩)
          · have c_43 : ¬ (¬ (nI (sevN (by2 f p))) = 0) := of_decide_eq_false c_43
            have n_43 : sevN (by2 f p) = 0 := (eq_nI (p := sevN (by2 f p)) (n := 0) (Nat.lt_trans (le1_sev _) (by decide)) (by decide)).mp (Decidable.not_not.mp c_43)
            refine ps_st (S' := (48, [(5, .int (nI (by2 f p))), (0, .ref m0), (1, .int (nI p)), (2, .int (nI (by2 f pF))), (3, .int (nI f0)), (4, .int (nI k))], [.int (nI (by2 f p))], M1)) rfl rfl rfl ?_
            refine ps_st (S' := (50, [(5, .int (nI (by2 f p))), (0, .ref m0), (1, .int (nI p)), (2, .int (nI (by2 f pF))), (3, .int (nI f0)), (4, .int (nI k))], [.int 16, .int (nI (by2 f p))], M1)) rfl rfl rfl ?_
            refine ps_st (S' := (51, [(5, .int (nI (by2 f p))), (0, .ref m0), (1, .int (nI p)), (2, .int (nI (by2 f pF))), (3, .int (nI f0)), (4, .int (nI k))], [.int ((nI (by2 f p)) &&& 16)], M1)) rfl rfl rfl ?_
            rw [nI_an (p := by2 f p) (k := 16) (x := 16) rfl]
            show pl _ _ _ (_, [(5, .int (nI (by2 f p))), (0, .ref m0), (1, .int (nI p)), (2, .int (nI (by2 f pF))), (3, .int (nI f0)), (4, .int (nI k))], [.int (nI (aN (by2 f p) 16))], M1) _
            refine ps_if (S1 := (62, [(0, .ref m0), (1, .int (nI p)), (2, .int (nI (by2 f pF))), (3, .int (nI f0)), (4, .int (nI k)), (5, .int (nI (by2 f p)))], [], M1)) (S2 := (54, [(5, .int (nI (by2 f p))), (0, .ref m0), (1, .int (nI p)), (2, .int (nI (by2 f pF))), (3, .int (nI f0)), (4, .int (nI k))], [], M1)) rfl rfl rfl (fun c_51 => ?_) (fun c_51 => ?_)
            · have c_51 : (nI (aN (by2 f p) 16)) = 0 := of_decide_eq_true c_51
              have n_51 : aN (by2 f p) 16 = 0 := (eq_nI (p := aN (by2 f p) 16) (n := 0) (Nat.lt_of_le_of_lt (an_le _ _) (by decide)) (by decide)).mp c_51
              refine ps_st (S' := (63, [(0, .ref m0), (1, .int (nI p)), (2, .int (nI (by2 f pF))), (3, .int (nI f0)), (4, .int (nI k)), (5, .int (nI (by2 f p)))], [.ref m0], M1)) rfl rfl rfl ?_
              refine pr_int (j := 58) (S' := (66, [(0, .ref m0), (1, .int (nI p)), (2, .int (nI (by2 f pF))), (3, .int (nI f0)), (4, .int (nI k)), (5, .int (nI (by2 f p)))], [.int (nI cf)], M1)) rfl hR1 rfl hl58 rfl ?_
              refine ps_st (S' := (69, [(0, .ref m0), (1, .int (nI p)), (2, .int (nI (by2 f pF))), (3, .int (nI f0)), (4, .int (nI k)), (5, .int (nI (by2 f p)))], [.int 512, .int (nI cf)], M1)) rfl rfl rfl ?_
              refine ps_st (S' := (70, [(0, .ref m0), (1, .int (nI p)), (2, .int (nI (by2 f pF))), (3, .int (nI f0)), (4, .int (nI k)), (5, .int (nI (by2 f p)))], [.int ((nI cf) &&& 512)], M1)) rfl rfl rfl ?_
              rw [nI_an (p := cf) (k := 512) (x := 512) rfl]
              show pl _ _ _ (_, [(0, .ref m0), (1, .int (nI p)), (2, .int (nI (by2 f pF))), (3, .int (nI f0)), (4, .int (nI k)), (5, .int (nI (by2 f p)))], [.int (nI (aN cf 512))], M1) _
              refine ps_if (S1 := (92, [(0, .ref m0), (1, .int (nI p)), (2, .int (nI (by2 f pF))), (3, .int (nI f0)), (4, .int (nI k)), (5, .int (nI (by2 f p)))], [], M1)) (S2 := (73, [(0, .ref m0), (1, .int (nI p)), (2, .int (nI (by2 f pF))), (3, .int (nI f0)), (4, .int (nI k)), (5, .int (nI (by2 f p)))], [], M1)) rfl rfl rfl (fun c_70 => ?_) (fun c_70 => ?_)
              · have c_70 : (nI (aN cf 512)) = 0 := of_decide_eq_true c_70
                have n_70 : aN cf 512 = 0 := (eq_nI (p := aN cf 512) (n := 0) (Nat.lt_of_le_of_lt (an_le _ _) (by decide)) (by decide)).mp c_70
                refine ps_st (S' := (93, [(0, .ref m0), (1, .int (nI p)), (2, .int (nI (by2 f pF))), (3, .int (nI f0)), (4, .int (nI k)), (5, .int (nI (by2 f p)))], [.ref m0], M1)) rfl rfl rfl ?_
                refine ps_st (S' := (94, [(0, .ref m0), (1, .int (nI p)), (2, .int (nI (by2 f pF))), (3, .int (nI f0)), (4, .int (nI k)), (5, .int (nI (by2 f p)))], [.ref m0, .ref m0], M1)) rfl rfl rfl ?_
                refine ps_st (S' := (95, [(0, .ref m0), (1, .int (nI p)), (2, .int (nI (by2 f pF))), (3, .int (nI f0)), (4, .int (nI k)), (5, .int (nI (by2 f p)))], [.int (nI p), .ref m0, .ref m0], M1)) rfl rfl rfl ?_
                refine ps_st (S' := (96, [(0, .ref m0), (1, .int (nI p)), (2, .int (nI (by2 f pF))), (3, .int (nI f0)), (4, .int (nI k)), (5, .int (nI (by2 f p)))], [.int 2, .int (nI p), .ref m0, .ref m0], M1)) rfl rfl rfl ?_
                refine ps_st (S' := (97, [(0, .ref m0), (1, .int (nI p)), (2, .int (nI (by2 f pF))), (3, .int (nI f0)), (4, .int (nI k)), (5, .int (nI (by2 f p)))], [.int ((nI p) + 2), .ref m0, .ref m0], M1)) rfl rfl rfl ?_
                rw [nI_add1 (p := p) (k := 2) (x := 2) rfl (by omega)]
                show pl _ _ _ (_, [(0, .ref m0), (1, .int (nI p)), (2, .int (nI (by2 f pF))), (3, .int (nI f0)), (4, .int (nI k)), (5, .int (nI (by2 f p)))], [.int (nI (p + 2)), .ref m0, .ref m0], M1) _
                refine pl_call (a := [.ref m0, .int (nI (p + 2))]) (rest := [.ref m0]) rfl rfl rfl (rd_u2 (n := n) (f := f) (p := (p + 2)) hR1 hF1 (by omega)) (fun v30 M31 q32 => ?_)
                obtain ⟨rfl, rfl⟩ := q32
                show pl _ _ _ (100, [(0, .ref m0), (1, .int (nI p)), (2, .int (nI (by2 f pF))), (3, .int (nI f0)), (4, .int (nI k)), (5, .int (nI (by2 f p)))], [.int (nI (by2 f (p + 2))), .ref m0], M1) _
                have hu_97 := by2_lt f (p + 2)
                refine pl_call (a := [.ref m0, .int (nI (by2 f (p + 2)))]) (rest := []) rfl rfl rfl (rd_tag (n := n) (f := f) (tx := tx) (cN := cN) (A := A) (N := N) (mj := mj) (E := E) (k := (by2 f (p + 2))) hR1 hl51 hl52 hl53 hF1 hY1 hP1 (hEP) (hN) (hmj) (by2_lt _ _)) (fun v33 M34 q35 => ?_)
                obtain ⟨rfl, rfl⟩ := q35
                show pl _ _ _ (103, [(0, .ref m0), (1, .int (nI p)), (2, .int (nI (by2 f pF))), (3, .int (nI f0)), (4, .int (nI k)), (5, .int (nI (by2 f p)))], [.int (nI (tg f E (by2 f (p + 2))))], M1) _
                have htg_100 := tg_lt f E (by2 f (p + 2))
                refine ps_st (S' := (104, [(0, .ref m0), (1, .int (nI p)), (2, .int (nI (by2 f pF))), (3, .int (nI f0)), (4, .int (nI k)), (5, .int (nI (by2 f p)))], [.int 1, .int (nI (tg f E (by2 f (p + 2))))], M1)) rfl rfl rfl ?_
                refine ps_if2 (S1 := (126, [(0, .ref m0), (1, .int (nI p))], [], M1)) (S2 := (107, [(0, .ref m0), (1, .int (nI p)), (2, .int (nI (by2 f pF))), (3, .int (nI f0)), (4, .int (nI k)), (5, .int (nI (by2 f p)))], [], M1)) rfl rfl rfl (fun c_104 => ?_) (fun c_104 => ?_)
                · have c_104 : ¬ (nI (tg f E (by2 f (p + 2)))) = 1 := of_decide_eq_true c_104
                  have n_104 : ¬ (tg f E (by2 f (p + 2)) = 1) := fun h9 => c_104 ((eq_nI (p := tg f E (by2 f (p + 2))) (n := 1) (Nat.lt_trans (tg_lt _ _ _) (by decide)) (by decide)).mpr h9)
                  refine ps_st (S' := (127, [(0, .ref m0), (1, .int (nI p))], [.ref m0], M1)) rfl rfl rfl ?_
                  refine ps_st (S' := (129, [(0, .ref m0), (1, .int (nI p))], [.int 20, .ref m0], M1)) rfl rfl rfl ?_
                  refine ps_st (S' := (130, [(0, .ref m0), (1, .int (nI p))], [.int (nI p), .int 20, .ref m0], M1)) rfl rfl rfl ?_
                  refine ps_st (S' := (131, [(0, .ref m0), (1, .int (nI p))], [.int 2, .int (nI p), .int 20, .ref m0], M1)) rfl rfl rfl ?_
                  refine ps_st (S' := (132, [(0, .ref m0), (1, .int (nI p))], [.int ((nI p) + 2), .int 20, .ref m0], M1)) rfl rfl rfl ?_
                  rw [nI_add1 (p := p) (k := 2) (x := 2) rfl (by omega)]
                  show pl _ _ _ (_, [(0, .ref m0), (1, .int (nI p))], [.int (nI (p + 2)), .int 20, .ref m0], M1) _
                  refine pl_call (a := [.ref m0, .int 20, .int (nI (p + 2))]) (rest := []) rfl rfl rfl (rd_wrong (x1 := 20) (x2 := (nI (p + 2))) hR1) (fun v36 M37 q38 => ?_)
                  obtain ⟨I39, R40, rfl, hR41, hI42, hX43, hi44, hi45⟩ := q38
                  have hi46 := (hI42 51 (by decide)).trans hl51
                  have hi47 := (hI42 52 (by decide)).trans hl52
                  have hi48 := (hI42 53 (by decide)).trans hl53
                  have hi49 := (hI42 58 (by decide)).trans hl58
                  have hi50 := (hI42 55 (by decide)).trans hl55
                  have hi54 := (hI42 25 (by decide)).trans hl25
                  have hF_55 := hF1.mono (cIx hI42 (by decide)) (cRx hX43 (by decide))
                  have hY_56 := hY1.mono (cIx hI42 (by decide)) (cRx hX43 (by decide))
                  have hP_57 := hP1.mono (cIx hI42 (by decide)) (cRx hX43 (by decide))
                  have hK_58 := hK1.mono (cIx hI42 (by decide)) (cRx hX43 (by decide))
                  have hN9_59 := hN91.mono (cIx hI42 (by decide)) (cRx hX43 (by decide))
                  have hEI60 := hEI1.tr hI42 (by decide)
                  have hER61 := hER1.tr hX43 (by decide)
                  show pl _ _ _ (135, [(0, .ref m0), (1, .int (nI p))], [.int 0], M37) _
                  exact ps_ret rfl rfl (Or.inr ⟨(20, p + 2), I39, R40, by
                      rw [← hs, flS_st (i := k) (by omega), ← hpk, fh_20 (by have e1 := ffl_0 cf (by2 f p); have e2 := sev_0 (by2 f p); have e3 := hall_80 (by2 f p); omega) (by rw [tx_no (by omega)]; decide)], rfl, hR41, hEI60, hER61, hi44, hi45⟩)
                · have c_104 : ¬ (¬ (nI (tg f E (by2 f (p + 2)))) = 1) := of_decide_eq_false c_104
                  have n_104 : tg f E (by2 f (p + 2)) = 1 := (eq_nI (p := tg f E (by2 f (p + 2))) (n := 1) (Nat.lt_trans (tg_lt _ _ _) (by decide)) (by decide)).mp (Decidable.not_not.mp c_104)
                  refine ps_st (S' := (108, [(0, .ref m0), (1, .int (nI p)), (2, .int (nI (by2 f pF))), (3, .int (nI f0)), (4, .int (nI k)), (5, .int (nI (by2 f p)))], [.ref m0], M1)) rfl rfl rfl ?_
                  refine ps_st (S' := (109, [(0, .ref m0), (1, .int (nI p)), (2, .int (nI (by2 f pF))), (3, .int (nI f0)), (4, .int (nI k)), (5, .int (nI (by2 f p)))], [.ref m0, .ref m0], M1)) rfl rfl rfl ?_
                  refine ps_st (S' := (110, [(0, .ref m0), (1, .int (nI p)), (2, .int (nI (by2 f pF))), (3, .int (nI f0)), (4, .int (nI k)), (5, .int (nI (by2 f p)))], [.ref m0, .ref m0, .ref m0], M1)) rfl rfl rfl ?_
                  refine ps_st (S' := (111, [(0, .ref m0), (1, .int (nI p)), (2, .int (nI (by2 f pF))), (3, .int (nI f0)), (4, .int (nI k)), (5, .int (nI (by2 f p)))], [.int (nI p), .ref m0, .ref m0, .ref m0], M1)) rfl rfl rfl ?_
                  refine ps_st (S' := (112, [(0, .ref m0), (1, .int (nI p)), (2, .int (nI (by2 f pF))), (3, .int (nI f0)), (4, .int (nI k)), (5, .int (nI (by2 f p)))], [.int 2, .int (nI p), .ref m0, .ref m0, .ref m0], M1)) rfl rfl rfl ?_
                  refine ps_st (S' := (113, [(0, .ref m0), (1, .int (nI p)), (2, .int (nI (by2 f pF))), (3, .int (nI f0)), (4, .int (nI k)), (5, .int (nI (by2 f p)))], [.int ((nI p) + 2), .ref m0, .ref m0, .ref m0], M1)) rfl rfl rfl ?_
                  rw [nI_add1 (p := p) (k := 2) (x := 2) rfl (by omega)]
                  show pl _ _ _ (_, [(0, .ref m0), (1, .int (nI p)), (2, .int (nI (by2 f pF))), (3, .int (nI f0)), (4, .int (nI k)), (5, .int (nI (by2 f p)))], [.int (nI (p + 2)), .ref m0, .ref m0, .ref m0], M1) _
                  refine pl_call (a := [.ref m0, .int (nI (p + 2))]) (rest := [.ref m0, .ref m0]) rfl rfl rfl (rd_u2 (n := n) (f := f) (p := (p + 2)) hR1 hF1 (by omega)) (fun v62 M63 q64 => ?_)
                  obtain ⟨rfl, rfl⟩ := q64
                  show pl _ _ _ (116, [(0, .ref m0), (1, .int (nI p)), (2, .int (nI (by2 f pF))), (3, .int (nI f0)), (4, .int (nI k)), (5, .int (nI (by2 f p)))], [.int (nI (by2 f (p + 2))), .ref m0, .ref m0], M1) _
                  have hu_113 := by2_lt f (p + 2)
                  refine pl_call (a := [.ref m0, .int (nI (by2 f (p + 2)))]) (rest := [.ref m0]) rfl rfl rfl (rd_symOf (n := n) (f := f) (tx := tx) (cN := cN) (A := A) (N := N) (mj := mj) (E := E) (k := (by2 f (p + 2))) hR1 hl51 hl52 hl53 hF1 hY1 hP1 (hEP) (hN) (hmj) (by omega)) (fun v65 M66 q67 => ?_)
                  obtain ⟨s68, q116_s, rfl, rfl⟩ := q67
                  show pl _ _ _ (119, [(0, .ref m0), (1, .int (nI p)), (2, .int (nI (by2 f pF))), (3, .int (nI f0)), (4, .int (nI k)), (5, .int (nI (by2 f p)))], [.int (nI s68), .ref m0], M1) _
                  have hsl_116 := q116_s.1
                  have htl_116 := hY1.1.2.2.1
                  refine ps_st (S' := (120, [(0, .ref m0), (1, .int (nI p)), (2, .int (nI (by2 f pF))), (3, .int (nI f0)), (4, .int (nI k)), (5, .int (nI (by2 f p)))], [.int 1, .int (nI s68), .ref m0], M1)) rfl rfl rfl ?_
                  refine pl_call (a := [.ref m0, .int (nI s68), .int 1]) (rest := []) rfl rfl rfl (rd_unq1 (tx := tx) (cN := cN) (A := A) (s := s68) (l := (tX f n E (by2 f (p + 2)))) hR1 hY1 (q116_s)) (fun v69 M70 q71 => ?_)
                  obtain ⟨rfl, rfl⟩ := q71
                  show pl _ _ _ (123, [(0, .ref m0), (1, .int (nI p)), (2, .int (nI (by2 f pF))), (3, .int (nI f0)), (4, .int (nI k)), (5, .int (nI (by2 f p)))], [.int (nI (unqN (tX f n E (by2 f (p + 2)))))], M1) _
                  refine ps_if (S1 := (136, [(0, .ref m0), (1, .int (nI p)), (2, .int (nI (by2 f pF))), (3, .int (nI f0)), (4, .int (nI k)), (5, .int (nI (by2 f p)))], [], M1)) (S2 := (126, [(0, .ref m0), (1, .int (nI p))], [], M1)) rfl rfl rfl (fun c_123 => ?_) (fun c_123 => ?_)
                  · have c_123 : ¬ (nI (unqN (tX f n E (by2 f (p + 2))))) = 0 := of_decide_eq_true c_123
                    have n_123 : ¬ (unqN (tX f n E (by2 f (p + 2))) = 0) := fun h9 => c_123 ((eq_nI (p := unqN (tX f n E (by2 f (p + 2)))) (n := 0) (Nat.lt_trans (le1_unq _) (by decide)) (by decide)).mpr h9)
                    refine ps_st (S' := (137, [(0, .ref m0), (1, .int (nI p)), (2, .int (nI (by2 f pF))), (3, .int (nI f0)), (4, .int (nI k)), (5, .int (nI (by2 f p)))], [.ref m0], M1)) rfl rfl rfl ?_
                    refine ps_st (S' := (138, [(0, .ref m0), (1, .int (nI p)), (2, .int (nI (by2 f pF))), (3, .int (nI f0)), (4, .int (nI k)), (5, .int (nI (by2 f p)))], [.ref m0, .ref m0], M1)) rfl rfl rfl ?_
                    refine ps_st (S' := (139, [(0, .ref m0), (1, .int (nI p)), (2, .int (nI (by2 f pF))), (3, .int (nI f0)), (4, .int (nI k)), (5, .int (nI (by2 f p)))], [.int (nI p), .ref m0, .ref m0], M1)) rfl rfl rfl ?_
                    refine ps_st (S' := (140, [(0, .ref m0), (1, .int (nI p)), (2, .int (nI (by2 f pF))), (3, .int (nI f0)), (4, .int (nI k)), (5, .int (nI (by2 f p)))], [.int 4, .int (nI p), .ref m0, .ref m0], M1)) rfl rfl rfl ?_
                    refine ps_st (S' := (141, [(0, .ref m0), (1, .int (nI p)), (2, .int (nI (by2 f pF))), (3, .int (nI f0)), (4, .int (nI k)), (5, .int (nI (by2 f p)))], [.int ((nI p) + 4), .ref m0, .ref m0], M1)) rfl rfl rfl ?_
                    rw [nI_add1 (p := p) (k := 4) (x := 4) rfl (by omega)]
                    show pl _ _ _ (_, [(0, .ref m0), (1, .int (nI p)), (2, .int (nI (by2 f pF))), (3, .int (nI f0)), (4, .int (nI k)), (5, .int (nI (by2 f p)))], [.int (nI (p + 4)), .ref m0, .ref m0], M1) _
                    refine pl_call (a := [.ref m0, .int (nI (p + 4))]) (rest := [.ref m0]) rfl rfl rfl (rd_u2 (n := n) (f := f) (p := (p + 4)) hR1 hF1 (by omega)) (fun v72 M73 q74 => ?_)
                    obtain ⟨rfl, rfl⟩ := q74
                    show pl _ _ _ (144, [(0, .ref m0), (1, .int (nI p)), (2, .int (nI (by2 f pF))), (3, .int (nI f0)), (4, .int (nI k)), (5, .int (nI (by2 f p)))], [.int (nI (by2 f (p + 4))), .ref m0], M1) _
                    have hu_141 := by2_lt f (p + 4)
                    refine pl_call (a := [.ref m0, .int (nI (by2 f (p + 4)))]) (rest := []) rfl rfl rfl (rd_tag (n := n) (f := f) (tx := tx) (cN := cN) (A := A) (N := N) (mj := mj) (E := E) (k := (by2 f (p + 4))) hR1 hl51 hl52 hl53 hF1 hY1 hP1 (hEP) (hN) (hmj) (by2_lt _ _)) (fun v75 M76 q77 => ?_)
                    obtain ⟨rfl, rfl⟩ := q77
                    show pl _ _ _ (147, [(0, .ref m0), (1, .int (nI p)), (2, .int (nI (by2 f pF))), (3, .int (nI f0)), (4, .int (nI k)), (5, .int (nI (by2 f p)))], [.int (nI (tg f E (by2 f (p + 4))))], M1) _
                    have htg_144 := tg_lt f E (by2 f (p + 4))
                    refine ps_st (S' := (148, [(0, .ref m0), (1, .int (nI p)), (2, .int (nI (by2 f pF))), (3, .int (nI f0)), (4, .int (nI k)), (5, .int (nI (by2 f p)))], [.int 1, .int (nI (tg f E (by2 f (p + 4))))], M1)) rfl rfl rfl ?_
                    refine ps_if2 (S1 := (169, [(0, .ref m0), (1, .int (nI p))], [], M1)) (S2 := (151, [(0, .ref m0), (1, .int (nI p)), (2, .int (nI (by2 f pF))), (3, .int (nI f0)), (4, .int (nI k)), (5, .int (nI (by2 f p)))], [], M1)) rfl rfl rfl (fun c_148 => ?_) (fun c_148 => ?_)
                    · have c_148 : ¬ (nI (tg f E (by2 f (p + 4)))) = 1 := of_decide_eq_true c_148
                      have n_148 : ¬ (tg f E (by2 f (p + 4)) = 1) := fun h9 => c_148 ((eq_nI (p := tg f E (by2 f (p + 4))) (n := 1) (Nat.lt_trans (tg_lt _ _ _) (by decide)) (by decide)).mpr h9)
                      refine ps_st (S' := (170, [(0, .ref m0), (1, .int (nI p))], [.ref m0], M1)) rfl rfl rfl ?_
                      refine ps_st (S' := (172, [(0, .ref m0), (1, .int (nI p))], [.int 21, .ref m0], M1)) rfl rfl rfl ?_
                      refine ps_st (S' := (173, [(0, .ref m0), (1, .int (nI p))], [.int (nI p), .int 21, .ref m0], M1)) rfl rfl rfl ?_
                      refine ps_st (S' := (174, [(0, .ref m0), (1, .int (nI p))], [.int 4, .int (nI p), .int 21, .ref m0], M1)) rfl rfl rfl ?_
                      refine ps_st (S' := (175, [(0, .ref m0), (1, .int (nI p))], [.int ((nI p) + 4), .int 21, .ref m0], M1)) rfl rfl rfl ?_
                      rw [nI_add1 (p := p) (k := 4) (x := 4) rfl (by omega)]
                      show pl _ _ _ (_, [(0, .ref m0), (1, .int (nI p))], [.int (nI (p + 4)), .int 21, .ref m0], M1) _
                      refine pl_call (a := [.ref m0, .int 21, .int (nI (p + 4))]) (rest := []) rfl rfl rfl (rd_wrong (x1 := 21) (x2 := (nI (p + 4))) hR1) (fun v78 M79 q80 => ?_)
                      obtain ⟨I81, R82, rfl, hR83, hI84, hX85, hi86, hi87⟩ := q80
                      have hi88 := (hI84 51 (by decide)).trans hl51
                      have hi89 := (hI84 52 (by decide)).trans hl52
                      have hi90 := (hI84 53 (by decide)).trans hl53
                      have hi91 := (hI84 58 (by decide)).trans hl58
                      have hi92 := (hI84 55 (by decide)).trans hl55
                      have hi93 := (hI84 25 (by decide)).trans hl25
                      have hF_94 := hF1.mono (cIx hI84 (by decide)) (cRx hX85 (by decide))
                      have hY_95 := hY1.mono (cIx hI84 (by decide)) (cRx hX85 (by decide))
                      have hP_96 := hP1.mono (cIx hI84 (by decide)) (cRx hX85 (by decide))
                      have hK_97 := hK1.mono (cIx hI84 (by decide)) (cRx hX85 (by decide))
                      have hN9_98 := hN91.mono (cIx hI84 (by decide)) (cRx hX85 (by decide))
                      have hEI99 := hEI1.tr hI84 (by decide)
                      have hER100 := hER1.tr hX85 (by decide)
                      show pl _ _ _ (178, [(0, .ref m0), (1, .int (nI p))], [.int 0], M79) _
                      exact ps_ret rfl rfl (Or.inr ⟨(21, p + 4), I81, R82, by
                          rw [← hs, flS_st (i := k) (by omega), ← hpk, fh_21 (by have e1 := ffl_0 cf (by2 f p); have e2 := sev_0 (by2 f p); have e3 := hall_80 (by2 f p); omega) (by omega) (by rw [tx_no (by omega)]; decide)], rfl, hR83, hEI99, hER100, hi86, hi87⟩)
                    · have c_148 : ¬ (¬ (nI (tg f E (by2 f (p + 4)))) = 1) := of_decide_eq_false c_148
                      have n_148 : tg f E (by2 f (p + 4)) = 1 := (eq_nI (p := tg f E (by2 f (p + 4))) (n := 1) (Nat.lt_trans (tg_lt _ _ _) (by decide)) (by decide)).mp (Decidable.not_not.mp c_148)
                      refine ps_st (S' := (152, [(0, .ref m0), (1, .int (nI p)), (2, .int (nI (by2 f pF))), (3, .int (nI f0)), (4, .int (nI k)), (5, .int (nI (by2 f p)))], [.ref m0], M1)) rfl rfl rfl ?_
                      refine ps_st (S' := (153, [(0, .ref m0), (1, .int (nI p)), (2, .int (nI (by2 f pF))), (3, .int (nI f0)), (4, .int (nI k)), (5, .int (nI (by2 f p)))], [.ref m0, .ref m0], M1)) rfl rfl rfl ?_
                      refine ps_st (S' := (154, [(0, .ref m0), (1, .int (nI p)), (2, .int (nI (by2 f pF))), (3, .int (nI f0)), (4, .int (nI k)), (5, .int (nI (by2 f p)))], [.ref m0, .ref m0, .ref m0], M1)) rfl rfl rfl ?_
                      refine ps_st (S' := (155, [(0, .ref m0), (1, .int (nI p)), (2, .int (nI (by2 f pF))), (3, .int (nI f0)), (4, .int (nI k)), (5, .int (nI (by2 f p)))], [.int (nI p), .ref m0, .ref m0, .ref m0], M1)) rfl rfl rfl ?_
                      refine ps_st (S' := (156, [(0, .ref m0), (1, .int (nI p)), (2, .int (nI (by2 f pF))), (3, .int (nI f0)), (4, .int (nI k)), (5, .int (nI (by2 f p)))], [.int 4, .int (nI p), .ref m0, .ref m0, .ref m0], M1)) rfl rfl rfl ?_
                      refine ps_st (S' := (157, [(0, .ref m0), (1, .int (nI p)), (2, .int (nI (by2 f pF))), (3, .int (nI f0)), (4, .int (nI k)), (5, .int (nI (by2 f p)))], [.int ((nI p) + 4), .ref m0, .ref m0, .ref m0], M1)) rfl rfl rfl ?_
                      rw [nI_add1 (p := p) (k := 4) (x := 4) rfl (by omega)]
                      show pl _ _ _ (_, [(0, .ref m0), (1, .int (nI p)), (2, .int (nI (by2 f pF))), (3, .int (nI f0)), (4, .int (nI k)), (5, .int (nI (by2 f p)))], [.int (nI (p + 4)), .ref m0, .ref m0, .ref m0], M1) _
                      refine pl_call (a := [.ref m0, .int (nI (p + 4))]) (rest := [.ref m0, .ref m0]) rfl rfl rfl (rd_u2 (n := n) (f := f) (p := (p + 4)) hR1 hF1 (by omega)) (fun v101 M102 q103 => ?_)
                      obtain ⟨rfl, rfl⟩ := q103
                      show pl _ _ _ (160, [(0, .ref m0), (1, .int (nI p)), (2, .int (nI (by2 f pF))), (3, .int (nI f0)), (4, .int (nI k)), (5, .int (nI (by2 f p)))], [.int (nI (by2 f (p + 4))), .ref m0, .ref m0], M1) _
                      have hu_157 := by2_lt f (p + 4)
                      refine pl_call (a := [.ref m0, .int (nI (by2 f (p + 4)))]) (rest := [.ref m0]) rfl rfl rfl (rd_symOf (n := n) (f := f) (tx := tx) (cN := cN) (A := A) (N := N) (mj := mj) (E := E) (k := (by2 f (p + 4))) hR1 hl51 hl52 hl53 hF1 hY1 hP1 (hEP) (hN) (hmj) (by omega)) (fun v104 M105 q106 => ?_)
                      obtain ⟨s107, q160_s, rfl, rfl⟩ := q106
                      show pl _ _ _ (163, [(0, .ref m0), (1, .int (nI p)), (2, .int (nI (by2 f pF))), (3, .int (nI f0)), (4, .int (nI k)), (5, .int (nI (by2 f p)))], [.int (nI s107), .ref m0], M1) _
                      have hsl_160 := q160_s.1
                      have htl_160 := hY1.1.2.2.1
                      refine pl_call (a := [.ref m0, .int (nI s107)]) (rest := []) rfl rfl rfl (rd_isField (tx := tx) (cN := cN) (A := A) (s := s107) (l := (tX f n E (by2 f (p + 4)))) hR1 hY1 (q160_s)) (fun v108 M109 q110 => ?_)
                      obtain ⟨rfl, rfl⟩ := q110
                      show pl _ _ _ (166, [(0, .ref m0), (1, .int (nI p)), (2, .int (nI (by2 f pF))), (3, .int (nI f0)), (4, .int (nI k)), (5, .int (nI (by2 f p)))], [.int (nI (fldN (tX f n E (by2 f (p + 4)))))], M1) _
                      refine ps_if (S1 := (179, [(0, .ref m0), (1, .int (nI p)), (2, .int (nI (by2 f pF))), (3, .int (nI f0)), (4, .int (nI k)), (5, .int (nI (by2 f p)))], [], M1)) (S2 := (169, [(0, .ref m0), (1, .int (nI p))], [], M1)) rfl rfl rfl (fun c_166 => ?_) (fun c_166 => ?_)
                      · have c_166 : ¬ (nI (fldN (tX f n E (by2 f (p + 4))))) = 0 := of_decide_eq_true c_166
                        have n_166 : ¬ (fldN (tX f n E (by2 f (p + 4))) = 0) := fun h9 => c_166 ((eq_nI (p := fldN (tX f n E (by2 f (p + 4)))) (n := 0) (Nat.lt_trans (le1_fld _) (by decide)) (by decide)).mpr h9)
                        refine ps_st (S' := (180, [(0, .ref m0), (1, .int (nI p)), (2, .int (nI (by2 f pF))), (3, .int (nI f0)), (4, .int (nI k)), (5, .int (nI (by2 f p)))], [.ref m0], M1)) rfl rfl rfl ?_
                        refine pr_int (j := 25) (S' := (183, [(0, .ref m0), (1, .int (nI p)), (2, .int (nI (by2 f pF))), (3, .int (nI f0)), (4, .int (nI k)), (5, .int (nI (by2 f p)))], [.int (nI (f0 + k))], M1)) rfl hR1 rfl hl25 rfl ?_
                        refine ps_st (S' := (185, [(6, .int (nI (f0 + k))), (0, .ref m0), (1, .int (nI p)), (2, .int (nI (by2 f pF))), (3, .int (nI f0)), (4, .int (nI k)), (5, .int (nI (by2 f p)))], [], M1)) rfl rfl rfl ?_
                        refine ps_st (S' := (186, [(6, .int (nI (f0 + k))), (0, .ref m0), (1, .int (nI p)), (2, .int (nI (by2 f pF))), (3, .int (nI f0)), (4, .int (nI k)), (5, .int (nI (by2 f p)))], [.ref m0], M1)) rfl rfl rfl ?_
                        refine pr_ref (j := 27) (S' := (189, [(6, .int (nI (f0 + k))), (0, .ref m0), (1, .int (nI p)), (2, .int (nI (by2 f pF))), (3, .int (nI f0)), (4, .int (nI k)), (5, .int (nI (by2 f p)))], [.ref (q 27)], M1)) rfl hR1 rfl rfl ?_
                        refine ps_st (S' := (191, [(6, .int (nI (f0 + k))), (0, .ref m0), (1, .int (nI p)), (2, .int (nI (by2 f pF))), (3, .int (nI f0)), (4, .int (nI k)), (5, .int (nI (by2 f p)))], [.int (nI (f0 + k)), .ref (q 27)], M1)) rfl rfl rfl ?_
                        refine ps_st (S' := (193, [(6, .int (nI (f0 + k))), (0, .ref m0), (1, .int (nI p)), (2, .int (nI (by2 f pF))), (3, .int (nI f0)), (4, .int (nI k)), (5, .int (nI (by2 f p)))], [.int (nI (by2 f p)), .int (nI (f0 + k)), .ref (q 27)], M1)) rfl rfl rfl ?_
                        refine pr_st (a := 27) (j := f0 + k) rfl hR1 rfl (by omega) (fun M111 R112 i1_193 hR113 hS114 => ?_)
                        have hF_115 := hF1.mono (fun _ _ => rfl) (rRx hS114 (by decide))
                        have hY_116 := hY1.mono (fun _ _ => rfl) (rRx hS114 (by decide))
                        have hP_117 := hP1.mono (fun _ _ => rfl) (rRx hS114 (by decide))
                        have hK_118 := hK1.mono (fun _ _ => rfl) (rRx hS114 (by decide))
                        have hN9_119 := hN91.mono (fun _ _ => rfl) (rRx hS114 (by decide))
                        have hER120 := hER1.st hS114 (by decide)
                        show pl _ _ _ (194, [(6, .int (nI (f0 + k))), (0, .ref m0), (1, .int (nI p)), (2, .int (nI (by2 f pF))), (3, .int (nI f0)), (4, .int (nI k)), (5, .int (nI (by2 f p)))], [], M111) _
                        have c27_121 : CE 27 (f0 + k) (nI (by2 f p)) I1 R112 := CE.st hS114
                        refine ps_st (S' := (195, [(6, .int (nI (f0 + k))), (0, .ref m0), (1, .int (nI p)), (2, .int (nI (by2 f pF))), (3, .int (nI f0)), (4, .int (nI k)), (5, .int (nI (by2 f p)))], [.ref m0], M111)) rfl rfl rfl ?_
                        refine pr_ref (j := 28) (S' := (198, [(6, .int (nI (f0 + k))), (0, .ref m0), (1, .int (nI p)), (2, .int (nI (by2 f pF))), (3, .int (nI f0)), (4, .int (nI k)), (5, .int (nI (by2 f p)))], [.ref (q 28)], M111)) rfl hR113 rfl rfl ?_
                        refine ps_st (S' := (200, [(6, .int (nI (f0 + k))), (0, .ref m0), (1, .int (nI p)), (2, .int (nI (by2 f pF))), (3, .int (nI f0)), (4, .int (nI k)), (5, .int (nI (by2 f p)))], [.int (nI (f0 + k)), .ref (q 28)], M111)) rfl rfl rfl ?_
                        refine ps_st (S' := (201, [(6, .int (nI (f0 + k))), (0, .ref m0), (1, .int (nI p)), (2, .int (nI (by2 f pF))), (3, .int (nI f0)), (4, .int (nI k)), (5, .int (nI (by2 f p)))], [.ref m0, .int (nI (f0 + k)), .ref (q 28)], M111)) rfl rfl rfl ?_
                        refine ps_st (S' := (202, [(6, .int (nI (f0 + k))), (0, .ref m0), (1, .int (nI p)), (2, .int (nI (by2 f pF))), (3, .int (nI f0)), (4, .int (nI k)), (5, .int (nI (by2 f p)))], [.ref m0, .ref m0, .int (nI (f0 + k)), .ref (q 28)], M111)) rfl rfl rfl ?_
                        refine ps_st (S' := (203, [(6, .int (nI (f0 + k))), (0, .ref m0), (1, .int (nI p)), (2, .int (nI (by2 f pF))), (3, .int (nI f0)), (4, .int (nI k)), (5, .int (nI (by2 f p)))], [.int (nI p), .ref m0, .ref m0, .int (nI (f0 + k)), .ref (q 28)], M111)) rfl rfl rfl ?_
                        refine ps_st (S' := (204, [(6, .int (nI (f0 + k))), (0, .ref m0), (1, .int (nI p)), (2, .int (nI (by2 f pF))), (3, .int (nI f0)), (4, .int (nI k)), (5, .int (nI (by2 f p)))], [.int 2, .int (nI p), .ref m0, .ref m0, .int (nI (f0 + k)), .ref (q 28)], M111)) rfl rfl rfl ?_
                        refine ps_st (S' := (205, [(6, .int (nI (f0 + k))), (0, .ref m0), (1, .int (nI p)), (2, .int (nI (by2 f pF))), (3, .int (nI f0)), (4, .int (nI k)), (5, .int (nI (by2 f p)))], [.int ((nI p) + 2), .ref m0, .ref m0, .int (nI (f0 + k)), .ref (q 28)], M111)) rfl rfl rfl ?_
                        rw [nI_add1 (p := p) (k := 2) (x := 2) rfl (by omega)]
                        show pl _ _ _ (_, [(6, .int (nI (f0 + k))), (0, .ref m0), (1, .int (nI p)), (2, .int (nI (by2 f pF))), (3, .int (nI f0)), (4, .int (nI k)), (5, .int (nI (by2 f p)))], [.int (nI (p + 2)), .ref m0, .ref m0, .int (nI (f0 + k)), .ref (q 28)], M111) _
                        refine pl_call (a := [.ref m0, .int (nI (p + 2))]) (rest := [.ref m0, .int (nI (f0 + k)), .ref (q 28)]) rfl rfl rfl (rd_u2 (n := n) (f := f) (p := (p + 2)) hR113 hF_115 (by omega)) (fun v122 M123 q124 => ?_)
                        obtain ⟨rfl, rfl⟩ := q124
                        show pl _ _ _ (208, [(6, .int (nI (f0 + k))), (0, .ref m0), (1, .int (nI p)), (2, .int (nI (by2 f pF))), (3, .int (nI f0)), (4, .int (nI k)), (5, .int (nI (by2 f p)))], [.int (nI (by2 f (p + 2))), .ref m0, .int (nI (f0 + k)), .ref (q 28)], M111) _
                        have hu_205 := by2_lt f (p + 2)
                        refine pl_call (a := [.ref m0, .int (nI (by2 f (p + 2)))]) (rest := [.int (nI (f0 + k)), .ref (q 28)]) rfl rfl rfl (rd_symOf (n := n) (f := f) (tx := tx) (cN := cN) (A := A) (N := N) (mj := mj) (E := E) (k := (by2 f (p + 2))) hR113 hl51 hl52 hl53 hF_115 hY_116 hP_117 (hEP) (hN) (hmj) (by omega)) (fun v125 M126 q127 => ?_)
                        obtain ⟨s128, q208_s, rfl, rfl⟩ := q127
                        show pl _ _ _ (211, [(6, .int (nI (f0 + k))), (0, .ref m0), (1, .int (nI p)), (2, .int (nI (by2 f pF))), (3, .int (nI f0)), (4, .int (nI k)), (5, .int (nI (by2 f p)))], [.int (nI s128), .int (nI (f0 + k)), .ref (q 28)], M111) _
                        have hsl_208 := q208_s.1
                        have htl_208 := hY_116.1.2.2.1
                        refine pr_st (a := 28) (j := f0 + k) rfl hR113 rfl (by omega) (fun M129 R130 i1_211 hR131 hS132 => ?_)
                        have hF_133 := hF_115.mono (fun _ _ => rfl) (rRx hS132 (by decide))
                        have hY_134 := hY_116.mono (fun _ _ => rfl) (rRx hS132 (by decide))
                        have hP_135 := hP_117.mono (fun _ _ => rfl) (rRx hS132 (by decide))
                        have hK_136 := hK_118.mono (fun _ _ => rfl) (rRx hS132 (by decide))
                        have c27_137 := c27_121.mono (fun _ _ => rfl) (rRx hS132 (by decide))
                        have hER138 := hER120.st hS132 (by decide)
                        show pl _ _ _ (212, [(6, .int (nI (f0 + k))), (0, .ref m0), (1, .int (nI p)), (2, .int (nI (by2 f pF))), (3, .int (nI f0)), (4, .int (nI k)), (5, .int (nI (by2 f p)))], [], M129) _
                        have c28_139 : CE 28 (f0 + k) (nI s128) I1 R130 := CE.st hS132
                        have hN9_140 := FN.st (I' := I1) hN9_119 hS132 rfl
                        refine ps_st (S' := (213, [(6, .int (nI (f0 + k))), (0, .ref m0), (1, .int (nI p)), (2, .int (nI (by2 f pF))), (3, .int (nI f0)), (4, .int (nI k)), (5, .int (nI (by2 f p)))], [.ref m0], M129)) rfl rfl rfl ?_
                        refine pr_ref (j := 29) (S' := (216, [(6, .int (nI (f0 + k))), (0, .ref m0), (1, .int (nI p)), (2, .int (nI (by2 f pF))), (3, .int (nI f0)), (4, .int (nI k)), (5, .int (nI (by2 f p)))], [.ref (q 29)], M129)) rfl hR131 rfl rfl ?_
                        refine ps_st (S' := (218, [(6, .int (nI (f0 + k))), (0, .ref m0), (1, .int (nI p)), (2, .int (nI (by2 f pF))), (3, .int (nI f0)), (4, .int (nI k)), (5, .int (nI (by2 f p)))], [.int (nI (f0 + k)), .ref (q 29)], M129)) rfl rfl rfl ?_
                        refine ps_st (S' := (219, [(6, .int (nI (f0 + k))), (0, .ref m0), (1, .int (nI p)), (2, .int (nI (by2 f pF))), (3, .int (nI f0)), (4, .int (nI k)), (5, .int (nI (by2 f p)))], [.ref m0, .int (nI (f0 + k)), .ref (q 29)], M129)) rfl rfl rfl ?_
                        refine ps_st (S' := (220, [(6, .int (nI (f0 + k))), (0, .ref m0), (1, .int (nI p)), (2, .int (nI (by2 f pF))), (3, .int (nI f0)), (4, .int (nI k)), (5, .int (nI (by2 f p)))], [.ref m0, .ref m0, .int (nI (f0 + k)), .ref (q 29)], M129)) rfl rfl rfl ?_
                        refine ps_st (S' := (221, [(6, .int (nI (f0 + k))), (0, .ref m0), (1, .int (nI p)), (2, .int (nI (by2 f pF))), (3, .int (nI f0)), (4, .int (nI k)), (5, .int (nI (by2 f p)))], [.int (nI p), .ref m0, .ref m0, .int (nI (f0 + k)), .ref (q 29)], M129)) rfl rfl rfl ?_
                        refine ps_st (S' := (222, [(6, .int (nI (f0 + k))), (0, .ref m0), (1, .int (nI p)), (2, .int (nI (by2 f pF))), (3, .int (nI f0)), (4, .int (nI k)), (5, .int (nI (by2 f p)))], [.int 4, .int (nI p), .ref m0, .ref m0, .int (nI (f0 + k)), .ref (q 29)], M129)) rfl rfl rfl ?_
                        refine ps_st (S' := (223, [(6, .int (nI (f0 + k))), (0, .ref m0), (1, .int (nI p)), (2, .int (nI (by2 f pF))), (3, .int (nI f0)), (4, .int (nI k)), (5, .int (nI (by2 f p)))], [.int ((nI p) + 4), .ref m0, .ref m0, .int (nI (f0 + k)), .ref (q 29)], M129)) rfl rfl rfl ?_
                        rw [nI_add1 (p := p) (k := 4) (x := 4) rfl (by omega)]
                        show pl _ _ _ (_, [(6, .int (nI (f0 + k))), (0, .ref m0), (1, .int (nI p)), (2, .int (nI (by2 f pF))), (3, .int (nI f0)), (4, .int (nI k)), (5, .int (nI (by2 f p)))], [.int (nI (p + 4)), .ref m0, .ref m0, .int (nI (f0 + k)), .ref (q 29)], M129) _
                        refine pl_call (a := [.ref m0, .int (nI (p + 4))]) (rest := [.ref m0, .int (nI (f0 + k)), .ref (q 29)]) rfl rfl rfl (rd_u2 (n := n) (f := f) (p := (p + 4)) hR131 hF_133 (by omega)) (fun v141 M142 q143 => ?_)
                        obtain ⟨rfl, rfl⟩ := q143
                        show pl _ _ _ (226, [(6, .int (nI (f0 + k))), (0, .ref m0), (1, .int (nI p)), (2, .int (nI (by2 f pF))), (3, .int (nI f0)), (4, .int (nI k)), (5, .int (nI (by2 f p)))], [.int (nI (by2 f (p + 4))), .ref m0, .int (nI (f0 + k)), .ref (q 29)], M129) _
                        have hu_223 := by2_lt f (p + 4)
                        refine pl_call (a := [.ref m0, .int (nI (by2 f (p + 4)))]) (rest := [.int (nI (f0 + k)), .ref (q 29)]) rfl rfl rfl (rd_symOf (n := n) (f := f) (tx := tx) (cN := cN) (A := A) (N := N) (mj := mj) (E := E) (k := (by2 f (p + 4))) hR131 hl51 hl52 hl53 hF_133 hY_134 hP_135 (hEP) (hN) (hmj) (by omega)) (fun v144 M145 q146 => ?_)
                        obtain ⟨s147, q226_s, rfl, rfl⟩ := q146
                        show pl _ _ _ (229, [(6, .int (nI (f0 + k))), (0, .ref m0), (1, .int (nI p)), (2, .int (nI (by2 f pF))), (3, .int (nI f0)), (4, .int (nI k)), (5, .int (nI (by2 f p)))], [.int (nI s147), .int (nI (f0 + k)), .ref (q 29)], M129) _
                        have hsl_226 := q226_s.1
                        have htl_226 := hY_134.1.2.2.1
                        refine pr_st (a := 29) (j := f0 + k) rfl hR131 rfl (by omega) (fun M148 R149 i1_229 hR150 hS151 => ?_)
                        have hF_152 := hF_133.mono (fun _ _ => rfl) (rRx hS151 (by decide))
                        have hY_153 := hY_134.mono (fun _ _ => rfl) (rRx hS151 (by decide))
                        have hP_154 := hP_135.mono (fun _ _ => rfl) (rRx hS151 (by decide))
                        have hK_155 := hK_136.mono (fun _ _ => rfl) (rRx hS151 (by decide))
                        have c27_156 := c27_137.mono (fun _ _ => rfl) (rRx hS151 (by decide))
                        have c28_157 := c28_139.mono (fun _ _ => rfl) (rRx hS151 (by decide))
                        have hER158 := hER138.st hS151 (by decide)
                        show pl _ _ _ (230, [(6, .int (nI (f0 + k))), (0, .ref m0), (1, .int (nI p)), (2, .int (nI (by2 f pF))), (3, .int (nI f0)), (4, .int (nI k)), (5, .int (nI (by2 f p)))], [], M148) _
                        have c29_159 : CE 29 (f0 + k) (nI s147) I1 R149 := CE.st hS151
                        have hN9_160 := FN.st (I' := I1) hN9_140 hS151 rfl
                        refine ps_st (S' := (231, [(6, .int (nI (f0 + k))), (0, .ref m0), (1, .int (nI p)), (2, .int (nI (by2 f pF))), (3, .int (nI f0)), (4, .int (nI k)), (5, .int (nI (by2 f p)))], [.ref m0], M148)) rfl rfl rfl ?_
                        refine pr_ref (j := 30) (S' := (234, [(6, .int (nI (f0 + k))), (0, .ref m0), (1, .int (nI p)), (2, .int (nI (by2 f pF))), (3, .int (nI f0)), (4, .int (nI k)), (5, .int (nI (by2 f p)))], [.ref (q 30)], M148)) rfl hR150 rfl rfl ?_
                        refine ps_st (S' := (236, [(6, .int (nI (f0 + k))), (0, .ref m0), (1, .int (nI p)), (2, .int (nI (by2 f pF))), (3, .int (nI f0)), (4, .int (nI k)), (5, .int (nI (by2 f p)))], [.int (nI (f0 + k)), .ref (q 30)], M148)) rfl rfl rfl ?_
                        refine ps_st (S' := (237, [(6, .int (nI (f0 + k))), (0, .ref m0), (1, .int (nI p)), (2, .int (nI (by2 f pF))), (3, .int (nI f0)), (4, .int (nI k)), (5, .int (nI (by2 f p)))], [.int 0, .int (nI (f0 + k)), .ref (q 30)], M148)) rfl rfl rfl ?_
                        refine pr_st (a := 30) (j := f0 + k) rfl hR150 rfl (by omega) (fun M161 R162 i1_237 hR163 hS164 => ?_)
                        have hF_165 := hF_152.mono (fun _ _ => rfl) (rRx hS164 (by decide))
                        have hY_166 := hY_153.mono (fun _ _ => rfl) (rRx hS164 (by decide))
                        have hP_167 := hP_154.mono (fun _ _ => rfl) (rRx hS164 (by decide))
                        have hK_168 := hK_155.mono (fun _ _ => rfl) (rRx hS164 (by decide))
                        have c27_169 := c27_156.mono (fun _ _ => rfl) (rRx hS164 (by decide))
                        have c28_170 := c28_157.mono (fun _ _ => rfl) (rRx hS164 (by decide))
                        have c29_171 := c29_159.mono (fun _ _ => rfl) (rRx hS164 (by decide))
                        have hN9_172 := hN9_160.mono (fun _ _ => rfl) (rRx hS164 (by decide))
                        have hER173 := hER158.st hS164 (by decide)
                        show pl _ _ _ (238, [(6, .int (nI (f0 + k))), (0, .ref m0), (1, .int (nI p)), (2, .int (nI (by2 f pF))), (3, .int (nI f0)), (4, .int (nI k)), (5, .int (nI (by2 f p)))], [], M161) _
                        refine ps_st (S' := (239, [(6, .int (nI (f0 + k))), (0, .ref m0), (1, .int (nI p)), (2, .int (nI (by2 f pF))), (3, .int (nI f0)), (4, .int (nI k)), (5, .int (nI (by2 f p)))], [.ref m0], M161)) rfl rfl rfl ?_
                        refine pr_ref (j := 31) (S' := (242, [(6, .int (nI (f0 + k))), (0, .ref m0), (1, .int (nI p)), (2, .int (nI (by2 f pF))), (3, .int (nI f0)), (4, .int (nI k)), (5, .int (nI (by2 f p)))], [.ref (q 31)], M161)) rfl hR163 rfl rfl ?_
                        refine ps_st (S' := (244, [(6, .int (nI (f0 + k))), (0, .ref m0), (1, .int (nI p)), (2, .int (nI (by2 f pF))), (3, .int (nI f0)), (4, .int (nI k)), (5, .int (nI (by2 f p)))], [.int (nI (f0 + k)), .ref (q 31)], M161)) rfl rfl rfl ?_
                        refine ps_st (S' := (245, [(6, .int (nI (f0 + k))), (0, .ref m0), (1, .int (nI p)), (2, .int (nI (by2 f pF))), (3, .int (nI f0)), (4, .int (nI k)), (5, .int (nI (by2 f p)))], [.int 0, .int (nI (f0 + k)), .ref (q 31)], M161)) rfl rfl rfl ?_
                        refine pr_st (a := 31) (j := f0 + k) rfl hR163 rfl (by omega) (fun M174 R175 i1_245 hR176 hS177 => ?_)
                        have hF_178 := hF_165.mono (fun _ _ => rfl) (rRx hS177 (by decide))
                        have hY_179 := hY_166.mono (fun _ _ => rfl) (rRx hS177 (by decide))
                        have hP_180 := hP_167.mono (fun _ _ => rfl) (rRx hS177 (by decide))
                        have hK_181 := hK_168.mono (fun _ _ => rfl) (rRx hS177 (by decide))
                        have c27_182 := c27_169.mono (fun _ _ => rfl) (rRx hS177 (by decide))
                        have c28_183 := c28_170.mono (fun _ _ => rfl) (rRx hS177 (by decide))
                        have c29_184 := c29_171.mono (fun _ _ => rfl) (rRx hS177 (by decide))
                        have hN9_185 := hN9_172.mono (fun _ _ => rfl) (rRx hS177 (by decide))
                        have hER186 := hER173.st hS177 (by decide)
                        show pl _ _ _ (246, [(6, .int (nI (f0 + k))), (0, .ref m0), (1, .int (nI p)), (2, .int (nI (by2 f pF))), (3, .int (nI f0)), (4, .int (nI k)), (5, .int (nI (by2 f p)))], [], M174) _
                        refine ps_st (S' := (247, [(6, .int (nI (f0 + k))), (0, .ref m0), (1, .int (nI p)), (2, .int (nI (by2 f pF))), (3, .int (nI f0)), (4, .int (nI k)), (5, .int (nI (by2 f p)))], [.ref m0], M174)) rfl rfl rfl ?_
                        refine pr_ref (j := 32) (S' := (250, [(6, .int (nI (f0 + k))), (0, .ref m0), (1, .int (nI p)), (2, .int (nI (by2 f pF))), (3, .int (nI f0)), (4, .int (nI k)), (5, .int (nI (by2 f p)))], [.ref (q 32)], M174)) rfl hR176 rfl rfl ?_
                        refine ps_st (S' := (252, [(6, .int (nI (f0 + k))), (0, .ref m0), (1, .int (nI p)), (2, .int (nI (by2 f pF))), (3, .int (nI f0)), (4, .int (nI k)), (5, .int (nI (by2 f p)))], [.int (nI (f0 + k)), .ref (q 32)], M174)) rfl rfl rfl ?_
                        refine ps_st (S' := (253, [(6, .int (nI (f0 + k))), (0, .ref m0), (1, .int (nI p)), (2, .int (nI (by2 f pF))), (3, .int (nI f0)), (4, .int (nI k)), (5, .int (nI (by2 f p)))], [.ref m0, .int (nI (f0 + k)), .ref (q 32)], M174)) rfl rfl rfl ?_
                        refine ps_st (S' := (254, [(6, .int (nI (f0 + k))), (0, .ref m0), (1, .int (nI p)), (2, .int (nI (by2 f pF))), (3, .int (nI f0)), (4, .int (nI k)), (5, .int (nI (by2 f p)))], [.int (nI p), .ref m0, .int (nI (f0 + k)), .ref (q 32)], M174)) rfl rfl rfl ?_
                        refine ps_st (S' := (255, [(6, .int (nI (f0 + k))), (0, .ref m0), (1, .int (nI p)), (2, .int (nI (by2 f pF))), (3, .int (nI f0)), (4, .int (nI k)), (5, .int (nI (by2 f p)))], [.int 2, .int (nI p), .ref m0, .int (nI (f0 + k)), .ref (q 32)], M174)) rfl rfl rfl ?_
                        refine ps_st (S' := (256, [(6, .int (nI (f0 + k))), (0, .ref m0), (1, .int (nI p)), (2, .int (nI (by2 f pF))), (3, .int (nI f0)), (4, .int (nI k)), (5, .int (nI (by2 f p)))], [.int ((nI p) + 2), .ref m0, .int (nI (f0 + k)), .ref (q 32)], M174)) rfl rfl rfl ?_
                        rw [nI_add1 (p := p) (k := 2) (x := 2) rfl (by omega)]
                        show pl _ _ _ (_, [(6, .int (nI (f0 + k))), (0, .ref m0), (1, .int (nI p)), (2, .int (nI (by2 f pF))), (3, .int (nI f0)), (4, .int (nI k)), (5, .int (nI (by2 f p)))], [.int (nI (p + 2)), .ref m0, .int (nI (f0 + k)), .ref (q 32)], M174) _
                        refine pl_call (a := [.ref m0, .int (nI (p + 2))]) (rest := [.int (nI (f0 + k)), .ref (q 32)]) rfl rfl rfl (rd_u2 (n := n) (f := f) (p := (p + 2)) hR176 hF_178 (by omega)) (fun v187 M188 q189 => ?_)
                        obtain ⟨rfl, rfl⟩ := q189
                        show pl _ _ _ (259, [(6, .int (nI (f0 + k))), (0, .ref m0), (1, .int (nI p)), (2, .int (nI (by2 f pF))), (3, .int (nI f0)), (4, .int (nI k)), (5, .int (nI (by2 f p)))], [.int (nI (by2 f (p + 2))), .int (nI (f0 + k)), .ref (q 32)], M174) _
                        have hu_256 := by2_lt f (p + 2)
                        refine pr_st (a := 32) (j := f0 + k) rfl hR176 rfl (by omega) (fun M190 R191 i1_259 hR192 hS193 => ?_)
                        have hF_194 := hF_178.mono (fun _ _ => rfl) (rRx hS193 (by decide))
                        have hY_195 := hY_179.mono (fun _ _ => rfl) (rRx hS193 (by decide))
                        have hP_196 := hP_180.mono (fun _ _ => rfl) (rRx hS193 (by decide))
                        have hK_197 := hK_181.mono (fun _ _ => rfl) (rRx hS193 (by decide))
                        have c27_198 := c27_182.mono (fun _ _ => rfl) (rRx hS193 (by decide))
                        have c28_199 := c28_183.mono (fun _ _ => rfl) (rRx hS193 (by decide))
                        have c29_200 := c29_184.mono (fun _ _ => rfl) (rRx hS193 (by decide))
                        have hN9_201 := hN9_185.mono (fun _ _ => rfl) (rRx hS193 (by decide))
                        have hER202 := hER186.st hS193 (by decide)
                        show pl _ _ _ (260, [(6, .int (nI (f0 + k))), (0, .ref m0), (1, .int (nI p)), (2, .int (nI (by2 f pF))), (3, .int (nI f0)), (4, .int (nI k)), (5, .int (nI (by2 f p)))], [], M190) _
                        refine ps_st (S' := (261, [(6, .int (nI (f0 + k))), (0, .ref m0), (1, .int (nI p)), (2, .int (nI (by2 f pF))), (3, .int (nI f0)), (4, .int (nI k)), (5, .int (nI (by2 f p)))], [.ref m0], M190)) rfl rfl rfl ?_
                        refine pr_ref (j := 33) (S' := (264, [(6, .int (nI (f0 + k))), (0, .ref m0), (1, .int (nI p)), (2, .int (nI (by2 f pF))), (3, .int (nI f0)), (4, .int (nI k)), (5, .int (nI (by2 f p)))], [.ref (q 33)], M190)) rfl hR192 rfl rfl ?_
                        refine ps_st (S' := (266, [(6, .int (nI (f0 + k))), (0, .ref m0), (1, .int (nI p)), (2, .int (nI (by2 f pF))), (3, .int (nI f0)), (4, .int (nI k)), (5, .int (nI (by2 f p)))], [.int (nI (f0 + k)), .ref (q 33)], M190)) rfl rfl rfl ?_
                        refine ps_st (S' := (267, [(6, .int (nI (f0 + k))), (0, .ref m0), (1, .int (nI p)), (2, .int (nI (by2 f pF))), (3, .int (nI f0)), (4, .int (nI k)), (5, .int (nI (by2 f p)))], [.ref m0, .int (nI (f0 + k)), .ref (q 33)], M190)) rfl rfl rfl ?_
                        refine ps_st (S' := (268, [(6, .int (nI (f0 + k))), (0, .ref m0), (1, .int (nI p)), (2, .int (nI (by2 f pF))), (3, .int (nI f0)), (4, .int (nI k)), (5, .int (nI (by2 f p)))], [.int (nI p), .ref m0, .int (nI (f0 + k)), .ref (q 33)], M190)) rfl rfl rfl ?_
                        refine ps_st (S' := (269, [(6, .int (nI (f0 + k))), (0, .ref m0), (1, .int (nI p)), (2, .int (nI (by2 f pF))), (3, .int (nI f0)), (4, .int (nI k)), (5, .int (nI (by2 f p)))], [.int 4, .int (nI p), .ref m0, .int (nI (f0 + k)), .ref (q 33)], M190)) rfl rfl rfl ?_
                        refine ps_st (S' := (270, [(6, .int (nI (f0 + k))), (0, .ref m0), (1, .int (nI p)), (2, .int (nI (by2 f pF))), (3, .int (nI f0)), (4, .int (nI k)), (5, .int (nI (by2 f p)))], [.int ((nI p) + 4), .ref m0, .int (nI (f0 + k)), .ref (q 33)], M190)) rfl rfl rfl ?_
                        rw [nI_add1 (p := p) (k := 4) (x := 4) rfl (by omega)]
                        show pl _ _ _ (_, [(6, .int (nI (f0 + k))), (0, .ref m0), (1, .int (nI p)), (2, .int (nI (by2 f pF))), (3, .int (nI f0)), (4, .int (nI k)), (5, .int (nI (by2 f p)))], [.int (nI (p + 4)), .ref m0, .int (nI (f0 + k)), .ref (q 33)], M190) _
                        refine pl_call (a := [.ref m0, .int (nI (p + 4))]) (rest := [.int (nI (f0 + k)), .ref (q 33)]) rfl rfl rfl (rd_u2 (n := n) (f := f) (p := (p + 4)) hR192 hF_194 (by omega)) (fun v203 M204 q205 => ?_)
                        obtain ⟨rfl, rfl⟩ := q205
                        show pl _ _ _ (273, [(6, .int (nI (f0 + k))), (0, .ref m0), (1, .int (nI p)), (2, .int (nI (by2 f pF))), (3, .int (nI f0)), (4, .int (nI k)), (5, .int (nI (by2 f p)))], [.int (nI (by2 f (p + 4))), .int (nI (f0 + k)), .ref (q 33)], M190) _
                        have hu_270 := by2_lt f (p + 4)
                        refine pr_st (a := 33) (j := f0 + k) rfl hR192 rfl (by omega) (fun M206 R207 i1_273 hR208 hS209 => ?_)
                        have hF_210 := hF_194.mono (fun _ _ => rfl) (rRx hS209 (by decide))
                        have hY_211 := hY_195.mono (fun _ _ => rfl) (rRx hS209 (by decide))
                        have hP_212 := hP_196.mono (fun _ _ => rfl) (rRx hS209 (by decide))
                        have hK_213 := hK_197.mono (fun _ _ => rfl) (rRx hS209 (by decide))
                        have c27_214 := c27_198.mono (fun _ _ => rfl) (rRx hS209 (by decide))
                        have c28_215 := c28_199.mono (fun _ _ => rfl) (rRx hS209 (by decide))
                        have c29_216 := c29_200.mono (fun _ _ => rfl) (rRx hS209 (by decide))
                        have hN9_217 := hN9_201.mono (fun _ _ => rfl) (rRx hS209 (by decide))
                        have hER218 := hER202.st hS209 (by decide)
                        show pl _ _ _ (274, [(6, .int (nI (f0 + k))), (0, .ref m0), (1, .int (nI p)), (2, .int (nI (by2 f pF))), (3, .int (nI f0)), (4, .int (nI k)), (5, .int (nI (by2 f p)))], [], M206) _
                        refine ps_st (S' := (275, [(6, .int (nI (f0 + k))), (0, .ref m0), (1, .int (nI p)), (2, .int (nI (by2 f pF))), (3, .int (nI f0)), (4, .int (nI k)), (5, .int (nI (by2 f p)))], [.int (nI f0)], M206)) rfl rfl rfl ?_
                        refine ps_st (S' := (277, [(0, .ref m0), (1, .int (nI p)), (2, .int (nI (by2 f pF))), (3, .int (nI f0)), (4, .int (nI k)), (6, .int (nI (f0 + k))), (7, .int (nI f0))], [], M206)) rfl rfl rfl ?_
                        have h19 : ¬ fflN cf (by2 f p) = 0 := by
                          have e1 := ffl_0 cf (by2 f p)
                          have e2 := sev_0 (by2 f p)
                          have e3 := hall_80 (by2 f p)
                          omega
                        exact ih.2 (k) (p) (0) (s128) (s147) M206 I1 R207 hR208 hEI1 hER218 hl51 hl52 hl53 hl58 hl55 hl25 hF_210 hY_211 hP_212 hK_213 hN9_217 c27_214 c28_215 c29_216 (by omega) (hpk) (by omega) (hs) (by omega) (by omega) (q208_s) (q226_s) (by omega) (by omega) (h19) (by omega) (by omega) (rfl)
                      · have c_166 : ¬ (¬ (nI (fldN (tX f n E (by2 f (p + 4))))) = 0) := of_decide_eq_false c_166
                        have n_166 : fldN (tX f n E (by2 f (p + 4))) = 0 := (eq_nI (p := fldN (tX f n E (by2 f (p + 4)))) (n := 0) (Nat.lt_trans (le1_fld _) (by decide)) (by decide)).mp (Decidable.not_not.mp c_166)
                        refine ps_st (S' := (170, [(0, .ref m0), (1, .int (nI p))], [.ref m0], M1)) rfl rfl rfl ?_
                        refine ps_st (S' := (172, [(0, .ref m0), (1, .int (nI p))], [.int 21, .ref m0], M1)) rfl rfl rfl ?_
                        refine ps_st (S' := (173, [(0, .ref m0), (1, .int (nI p))], [.int (nI p), .int 21, .ref m0], M1)) rfl rfl rfl ?_
                        refine ps_st (S' := (174, [(0, .ref m0), (1, .int (nI p))], [.int 4, .int (nI p), .int 21, .ref m0], M1)) rfl rfl rfl ?_
                        refine ps_st (S' := (175, [(0, .ref m0), (1, .int (nI p))], [.int ((nI p) + 4), .int 21, .ref m0], M1)) rfl rfl rfl ?_
                        rw [nI_add1 (p := p) (k := 4) (x := 4) rfl (by omega)]
                        show pl _ _ _ (_, [(0, .ref m0), (1, .int (nI p))], [.int (nI (p + 4)), .int 21, .ref m0], M1) _
                        refine pl_call (a := [.ref m0, .int 21, .int (nI (p + 4))]) (rest := []) rfl rfl rfl (rd_wrong (x1 := 21) (x2 := (nI (p + 4))) hR1) (fun v219 M220 q221 => ?_)
                        obtain ⟨I222, R223, rfl, hR224, hI225, hX226, hi227, hi228⟩ := q221
                        have hi229 := (hI225 51 (by decide)).trans hl51
                        have hi230 := (hI225 52 (by decide)).trans hl52
                        have hi231 := (hI225 53 (by decide)).trans hl53
                        have hi232 := (hI225 58 (by decide)).trans hl58
                        have hi233 := (hI225 55 (by decide)).trans hl55
                        have hi234 := (hI225 25 (by decide)).trans hl25
                        have hF_235 := hF1.mono (cIx hI225 (by decide)) (cRx hX226 (by decide))
                        have hY_236 := hY1.mono (cIx hI225 (by decide)) (cRx hX226 (by decide))
                        have hP_237 := hP1.mono (cIx hI225 (by decide)) (cRx hX226 (by decide))
                        have hK_238 := hK1.mono (cIx hI225 (by decide)) (cRx hX226 (by decide))
                        have hN9_239 := hN91.mono (cIx hI225 (by decide)) (cRx hX226 (by decide))
                        have hEI240 := hEI1.tr hI225 (by decide)
                        have hER241 := hER1.tr hX226 (by decide)
                        show pl _ _ _ (178, [(0, .ref m0), (1, .int (nI p))], [.int 0], M220) _
                        exact ps_ret rfl rfl (Or.inr ⟨(21, p + 4), I222, R223, by
                            rw [← hs, flS_st (i := k) (by omega), ← hpk, fh_21 (by have e1 := ffl_0 cf (by2 f p); have e2 := sev_0 (by2 f p); have e3 := hall_80 (by2 f p); omega) (by omega) (by omega)], rfl, hR224, hEI240, hER241, hi227, hi228⟩)
                  · have c_123 : ¬ (¬ (nI (unqN (tX f n E (by2 f (p + 2))))) = 0) := of_decide_eq_false c_123
                    have n_123 : unqN (tX f n E (by2 f (p + 2))) = 0 := (eq_nI (p := unqN (tX f n E (by2 f (p + 2)))) (n := 0) (Nat.lt_trans (le1_unq _) (by decide)) (by decide)).mp (Decidable.not_not.mp c_123)
                    refine ps_st (S' := (127, [(0, .ref m0), (1, .int (nI p))], [.ref m0], M1)) rfl rfl rfl ?_
                    refine ps_st (S' := (129, [(0, .ref m0), (1, .int (nI p))], [.int 20, .ref m0], M1)) rfl rfl rfl ?_
                    refine ps_st (S' := (130, [(0, .ref m0), (1, .int (nI p))], [.int (nI p), .int 20, .ref m0], M1)) rfl rfl rfl ?_
                    refine ps_st (S' := (131, [(0, .ref m0), (1, .int (nI p))], [.int 2, .int (nI p), .int 20, .ref m0], M1)) rfl rfl rfl ?_
                    refine ps_st (S' := (132, [(0, .ref m0), (1, .int (nI p))], [.int ((nI p) + 2), .int 20, .ref m0], M1)) rfl rfl rfl ?_
                    rw [nI_add1 (p := p) (k := 2) (x := 2) rfl (by omega)]
                    show pl _ _ _ (_, [(0, .ref m0), (1, .int (nI p))], [.int (nI (p + 2)), .int 20, .ref m0], M1) _
                    refine pl_call (a := [.ref m0, .int 20, .int (nI (p + 2))]) (rest := []) rfl rfl rfl (rd_wrong (x1 := 20) (x2 := (nI (p + 2))) hR1) (fun v242 M243 q244 => ?_)
                    obtain ⟨I245, R246, rfl, hR247, hI248, hX249, hi250, hi251⟩ := q244
                    have hi252 := (hI248 51 (by decide)).trans hl51
                    have hi253 := (hI248 52 (by decide)).trans hl52
                    have hi254 := (hI248 53 (by decide)).trans hl53
                    have hi255 := (hI248 58 (by decide)).trans hl58
                    have hi256 := (hI248 55 (by decide)).trans hl55
                    have hi257 := (hI248 25 (by decide)).trans hl25
                    have hF_258 := hF1.mono (cIx hI248 (by decide)) (cRx hX249 (by decide))
                    have hY_259 := hY1.mono (cIx hI248 (by decide)) (cRx hX249 (by decide))
                    have hP_260 := hP1.mono (cIx hI248 (by decide)) (cRx hX249 (by decide))
                    have hK_261 := hK1.mono (cIx hI248 (by decide)) (cRx hX249 (by decide))
                    have hN9_262 := hN91.mono (cIx hI248 (by decide)) (cRx hX249 (by decide))
                    have hEI263 := hEI1.tr hI248 (by decide)
                    have hER264 := hER1.tr hX249 (by decide)
                    show pl _ _ _ (135, [(0, .ref m0), (1, .int (nI p))], [.int 0], M243) _
                    exact ps_ret rfl rfl (Or.inr ⟨(20, p + 2), I245, R246, by
                        rw [← hs, flS_st (i := k) (by omega), ← hpk, fh_20 (by have e1 := ffl_0 cf (by2 f p); have e2 := sev_0 (by2 f p); have e3 := hall_80 (by2 f p); omega) (by omega)], rfl, hR247, hEI263, hER264, hi250, hi251⟩)
              · have c_70 : ¬ ((nI (aN cf 512)) = 0) := of_decide_eq_false c_70
                have n_70 : ¬ (aN cf 512 = 0) := fun h9 => c_70 ((eq_nI (p := aN cf 512) (n := 0) (Nat.lt_of_le_of_lt (an_le _ _) (by decide)) (by decide)).mpr h9)
                refine ps_st (S' := (75, [(0, .ref m0), (1, .int (nI p)), (2, .int (nI (by2 f pF))), (3, .int (nI f0)), (4, .int (nI k)), (5, .int (nI (by2 f p)))], [.int (nI (by2 f p))], M1)) rfl rfl rfl ?_
                refine ps_st (S' := (78, [(0, .ref m0), (1, .int (nI p)), (2, .int (nI (by2 f pF))), (3, .int (nI f0)), (4, .int (nI k)), (5, .int (nI (by2 f p)))], [.int 16607, .int (nI (by2 f p))], M1)) rfl rfl rfl ?_
                refine ps_st (S' := (79, [(0, .ref m0), (1, .int (nI p)), (2, .int (nI (by2 f pF))), (3, .int (nI f0)), (4, .int (nI k)), (5, .int (nI (by2 f p)))], [.int ((nI (by2 f p)) &&& 16607)], M1)) rfl rfl rfl ?_
                rw [nI_an (p := by2 f p) (k := 16607) (x := 16607) rfl]
                show pl _ _ _ (_, [(0, .ref m0), (1, .int (nI p)), (2, .int (nI (by2 f pF))), (3, .int (nI f0)), (4, .int (nI k)), (5, .int (nI (by2 f p)))], [.int (nI (aN (by2 f p) 16607))], M1) _
                refine ps_st (S' := (81, [(0, .ref m0), (1, .int (nI p)), (2, .int (nI (by2 f pF))), (3, .int (nI f0)), (4, .int (nI k)), (5, .int (nI (by2 f p)))], [.int 25, .int (nI (aN (by2 f p) 16607))], M1)) rfl rfl rfl ?_
                refine ps_if2 (S1 := (92, [(0, .ref m0), (1, .int (nI p)), (2, .int (nI (by2 f pF))), (3, .int (nI f0)), (4, .int (nI k)), (5, .int (nI (by2 f p)))], [], M1)) (S2 := (84, [(0, .ref m0), (1, .int (nI p))], [], M1)) rfl rfl rfl (fun c_81 => ?_) (fun c_81 => ?_)
                · have c_81 : (nI (aN (by2 f p) 16607)) = 25 := of_decide_eq_true c_81
                  have n_81 : aN (by2 f p) 16607 = 25 := (eq_nI (p := aN (by2 f p) 16607) (n := 25) (Nat.lt_of_le_of_lt (an_le _ _) (by decide)) (by decide)).mp c_81
                  refine ps_st (S' := (93, [(0, .ref m0), (1, .int (nI p)), (2, .int (nI (by2 f pF))), (3, .int (nI f0)), (4, .int (nI k)), (5, .int (nI (by2 f p)))], [.ref m0], M1)) rfl rfl rfl ?_
                  refine ps_st (S' := (94, [(0, .ref m0), (1, .int (nI p)), (2, .int (nI (by2 f pF))), (3, .int (nI f0)), (4, .int (nI k)), (5, .int (nI (by2 f p)))], [.ref m0, .ref m0], M1)) rfl rfl rfl ?_
                  refine ps_st (S' := (95, [(0, .ref m0), (1, .int (nI p)), (2, .int (nI (by2 f pF))), (3, .int (nI f0)), (4, .int (nI k)), (5, .int (nI (by2 f p)))], [.int (nI p), .ref m0, .ref m0], M1)) rfl rfl rfl ?_
                  refine ps_st (S' := (96, [(0, .ref m0), (1, .int (nI p)), (2, .int (nI (by2 f pF))), (3, .int (nI f0)), (4, .int (nI k)), (5, .int (nI (by2 f p)))], [.int 2, .int (nI p), .ref m0, .ref m0], M1)) rfl rfl rfl ?_
                  refine ps_st (S' := (97, [(0, .ref m0), (1, .int (nI p)), (2, .int (nI (by2 f pF))), (3, .int (nI f0)), (4, .int (nI k)), (5, .int (nI (by2 f p)))], [.int ((nI p) + 2), .ref m0, .ref m0], M1)) rfl rfl rfl ?_
                  rw [nI_add1 (p := p) (k := 2) (x := 2) rfl (by omega)]
                  show pl _ _ _ (_, [(0, .ref m0), (1, .int (nI p)), (2, .int (nI (by2 f pF))), (3, .int (nI f0)), (4, .int (nI k)), (5, .int (nI (by2 f p)))], [.int (nI (p + 2)), .ref m0, .ref m0], M1) _
                  refine pl_call (a := [.ref m0, .int (nI (p + 2))]) (rest := [.ref m0]) rfl rfl rfl (rd_u2 (n := n) (f := f) (p := (p + 2)) hR1 hF1 (by omega)) (fun v265 M266 q267 => ?_)
                  obtain ⟨rfl, rfl⟩ := q267
                  show pl _ _ _ (100, [(0, .ref m0), (1, .int (nI p)), (2, .int (nI (by2 f pF))), (3, .int (nI f0)), (4, .int (nI k)), (5, .int (nI (by2 f p)))], [.int (nI (by2 f (p + 2))), .ref m0], M1) _
                  have hu_97 := by2_lt f (p + 2)
                  refine pl_call (a := [.ref m0, .int (nI (by2 f (p + 2)))]) (rest := []) rfl rfl rfl (rd_tag (n := n) (f := f) (tx := tx) (cN := cN) (A := A) (N := N) (mj := mj) (E := E) (k := (by2 f (p + 2))) hR1 hl51 hl52 hl53 hF1 hY1 hP1 (hEP) (hN) (hmj) (by2_lt _ _)) (fun v268 M269 q270 => ?_)
                  obtain ⟨rfl, rfl⟩ := q270
                  show pl _ _ _ (103, [(0, .ref m0), (1, .int (nI p)), (2, .int (nI (by2 f pF))), (3, .int (nI f0)), (4, .int (nI k)), (5, .int (nI (by2 f p)))], [.int (nI (tg f E (by2 f (p + 2))))], M1) _
                  have htg_100 := tg_lt f E (by2 f (p + 2))
                  refine ps_st (S' := (104, [(0, .ref m0), (1, .int (nI p)), (2, .int (nI (by2 f pF))), (3, .int (nI f0)), (4, .int (nI k)), (5, .int (nI (by2 f p)))], [.int 1, .int (nI (tg f E (by2 f (p + 2))))], M1)) rfl rfl rfl ?_
                  refine ps_if2 (S1 := (126, [(0, .ref m0), (1, .int (nI p))], [], M1)) (S2 := (107, [(0, .ref m0), (1, .int (nI p)), (2, .int (nI (by2 f pF))), (3, .int (nI f0)), (4, .int (nI k)), (5, .int (nI (by2 f p)))], [], M1)) rfl rfl rfl (fun c_104 => ?_) (fun c_104 => ?_)
                  · have c_104 : ¬ (nI (tg f E (by2 f (p + 2)))) = 1 := of_decide_eq_true c_104
                    have n_104 : ¬ (tg f E (by2 f (p + 2)) = 1) := fun h9 => c_104 ((eq_nI (p := tg f E (by2 f (p + 2))) (n := 1) (Nat.lt_trans (tg_lt _ _ _) (by decide)) (by decide)).mpr h9)
                    refine ps_st (S' := (127, [(0, .ref m0), (1, .int (nI p))], [.ref m0], M1)) rfl rfl rfl ?_
                    refine ps_st (S' := (129, [(0, .ref m0), (1, .int (nI p))], [.int 20, .ref m0], M1)) rfl rfl rfl ?_
                    refine ps_st (S' := (130, [(0, .ref m0), (1, .int (nI p))], [.int (nI p), .int 20, .ref m0], M1)) rfl rfl rfl ?_
                    refine ps_st (S' := (131, [(0, .ref m0), (1, .int (nI p))], [.int 2, .int (nI p), .int 20, .ref m0], M1)) rfl rfl rfl ?_
                    refine ps_st (S' := (132, [(0, .ref m0), (1, .int (nI p))], [.int ((nI p) + 2), .int 20, .ref m0], M1)) rfl rfl rfl ?_
                    rw [nI_add1 (p := p) (k := 2) (x := 2) rfl (by omega)]
                    show pl _ _ _ (_, [(0, .ref m0), (1, .int (nI p))], [.int (nI (p + 2)), .int 20, .ref m0], M1) _
                    refine pl_call (a := [.ref m0, .int 20, .int (nI (p + 2))]) (rest := []) rfl rfl rfl (rd_wrong (x1 := 20) (x2 := (nI (p + 2))) hR1) (fun v271 M272 q273 => ?_)
                    obtain ⟨I274, R275, rfl, hR276, hI277, hX278, hi279, hi280⟩ := q273
                    have hi281 := (hI277 51 (by decide)).trans hl51
                    have hi282 := (hI277 52 (by decide)).trans hl52
                    have hi283 := (hI277 53 (by decide)).trans hl53
                    have hi284 := (hI277 58 (by decide)).trans hl58
                    have hi285 := (hI277 55 (by decide)).trans hl55
                    have hi286 := (hI277 25 (by decide)).trans hl25
                    have hF_287 := hF1.mono (cIx hI277 (by decide)) (cRx hX278 (by decide))
                    have hY_288 := hY1.mono (cIx hI277 (by decide)) (cRx hX278 (by decide))
                    have hP_289 := hP1.mono (cIx hI277 (by decide)) (cRx hX278 (by decide))
                    have hK_290 := hK1.mono (cIx hI277 (by decide)) (cRx hX278 (by decide))
                    have hN9_291 := hN91.mono (cIx hI277 (by decide)) (cRx hX278 (by decide))
                    have hEI292 := hEI1.tr hI277 (by decide)
                    have hER293 := hER1.tr hX278 (by decide)
                    show pl _ _ _ (135, [(0, .ref m0), (1, .int (nI p))], [.int 0], M272) _
                    exact ps_ret rfl rfl (Or.inr ⟨(20, p + 2), I274, R275, by
                        rw [← hs, flS_st (i := k) (by omega), ← hpk, fh_20 (by have e1 := ffl_0 cf (by2 f p); have e2 := sev_0 (by2 f p); have e3 := hall_80 (by2 f p); omega) (by rw [tx_no (by omega)]; decide)], rfl, hR276, hEI292, hER293, hi279, hi280⟩)
                  · have c_104 : ¬ (¬ (nI (tg f E (by2 f (p + 2)))) = 1) := of_decide_eq_false c_104
                    have n_104 : tg f E (by2 f (p + 2)) = 1 := (eq_nI (p := tg f E (by2 f (p + 2))) (n := 1) (Nat.lt_trans (tg_lt _ _ _) (by decide)) (by decide)).mp (Decidable.not_not.mp c_104)
                    refine ps_st (S' := (108, [(0, .ref m0), (1, .int (nI p)), (2, .int (nI (by2 f pF))), (3, .int (nI f0)), (4, .int (nI k)), (5, .int (nI (by2 f p)))], [.ref m0], M1)) rfl rfl rfl ?_
                    refine ps_st (S' := (109, [(0, .ref m0), (1, .int (nI p)), (2, .int (nI (by2 f pF))), (3, .int (nI f0)), (4, .int (nI k)), (5, .int (nI (by2 f p)))], [.ref m0, .ref m0], M1)) rfl rfl rfl ?_
                    refine ps_st (S' := (110, [(0, .ref m0), (1, .int (nI p)), (2, .int (nI (by2 f pF))), (3, .int (nI f0)), (4, .int (nI k)), (5, .int (nI (by2 f p)))], [.ref m0, .ref m0, .ref m0], M1)) rfl rfl rfl ?_
                    refine ps_st (S' := (111, [(0, .ref m0), (1, .int (nI p)), (2, .int (nI (by2 f pF))), (3, .int (nI f0)), (4, .int (nI k)), (5, .int (nI (by2 f p)))], [.int (nI p), .ref m0, .ref m0, .ref m0], M1)) rfl rfl rfl ?_
                    refine ps_st (S' := (112, [(0, .ref m0), (1, .int (nI p)), (2, .int (nI (by2 f pF))), (3, .int (nI f0)), (4, .int (nI k)), (5, .int (nI (by2 f p)))], [.int 2, .int (nI p), .ref m0, .ref m0, .ref m0], M1)) rfl rfl rfl ?_
                    refine ps_st (S' := (113, [(0, .ref m0), (1, .int (nI p)), (2, .int (nI (by2 f pF))), (3, .int (nI f0)), (4, .int (nI k)), (5, .int (nI (by2 f p)))], [.int ((nI p) + 2), .ref m0, .ref m0, .ref m0], M1)) rfl rfl rfl ?_
                    rw [nI_add1 (p := p) (k := 2) (x := 2) rfl (by omega)]
                    show pl _ _ _ (_, [(0, .ref m0), (1, .int (nI p)), (2, .int (nI (by2 f pF))), (3, .int (nI f0)), (4, .int (nI k)), (5, .int (nI (by2 f p)))], [.int (nI (p + 2)), .ref m0, .ref m0, .ref m0], M1) _
                    refine pl_call (a := [.ref m0, .int (nI (p + 2))]) (rest := [.ref m0, .ref m0]) rfl rfl rfl (rd_u2 (n := n) (f := f) (p := (p + 2)) hR1 hF1 (by omega)) (fun v294 M295 q296 => ?_)
                    obtain ⟨rfl, rfl⟩ := q296
                    show pl _ _ _ (116, [(0, .ref m0), (1, .int (nI p)), (2, .int (nI (by2 f pF))), (3, .int (nI f0)), (4, .int (nI k)), (5, .int (nI (by2 f p)))], [.int (nI (by2 f (p + 2))), .ref m0, .ref m0], M1) _
                    have hu_113 := by2_lt f (p + 2)
                    refine pl_call (a := [.ref m0, .int (nI (by2 f (p + 2)))]) (rest := [.ref m0]) rfl rfl rfl (rd_symOf (n := n) (f := f) (tx := tx) (cN := cN) (A := A) (N := N) (mj := mj) (E := E) (k := (by2 f (p + 2))) hR1 hl51 hl52 hl53 hF1 hY1 hP1 (hEP) (hN) (hmj) (by omega)) (fun v297 M298 q299 => ?_)
                    obtain ⟨s300, q116_s, rfl, rfl⟩ := q299
                    show pl _ _ _ (119, [(0, .ref m0), (1, .int (nI p)), (2, .int (nI (by2 f pF))), (3, .int (nI f0)), (4, .int (nI k)), (5, .int (nI (by2 f p)))], [.int (nI s300), .ref m0], M1) _
                    have hsl_116 := q116_s.1
                    have htl_116 := hY1.1.2.2.1
                    refine ps_st (S' := (120, [(0, .ref m0), (1, .int (nI p)), (2, .int (nI (by2 f pF))), (3, .int (nI f0)), (4, .int (nI k)), (5, .int (nI (by2 f p)))], [.int 1, .int (nI s300), .ref m0], M1)) rfl rfl rfl ?_
                    refine pl_call (a := [.ref m0, .int (nI s300), .int 1]) (rest := []) rfl rfl rfl (rd_unq1 (tx := tx) (cN := cN) (A := A) (s := s300) (l := (tX f n E (by2 f (p + 2)))) hR1 hY1 (q116_s)) (fun v301 M302 q303 => ?_)
                    obtain ⟨rfl, rfl⟩ := q303
                    show pl _ _ _ (123, [(0, .ref m0), (1, .int (nI p)), (2, .int (nI (by2 f pF))), (3, .int (nI f0)), (4, .int (nI k)), (5, .int (nI (by2 f p)))], [.int (nI (unqN (tX f n E (by2 f (p + 2)))))], M1) _
                    refine ps_if (S1 := (136, [(0, .ref m0), (1, .int (nI p)), (2, .int (nI (by2 f pF))), (3, .int (nI f0)), (4, .int (nI k)), (5, .int (nI (by2 f p)))], [], M1)) (S2 := (126, [(0, .ref m0), (1, .int (nI p))], [], M1)) rfl rfl rfl (fun c_123 => ?_) (fun c_123 => ?_)
                    · have c_123 : ¬ (nI (unqN (tX f n E (by2 f (p + 2))))) = 0 := of_decide_eq_true c_123
                      have n_123 : ¬ (unqN (tX f n E (by2 f (p + 2))) = 0) := fun h9 => c_123 ((eq_nI (p := unqN (tX f n E (by2 f (p + 2)))) (n := 0) (Nat.lt_trans (le1_unq _) (by decide)) (by decide)).mpr h9)
                      refine ps_st (S' := (137, [(0, .ref m0), (1, .int (nI p)), (2, .int (nI (by2 f pF))), (3, .int (nI f0)), (4, .int (nI k)), (5, .int (nI (by2 f p)))], [.ref m0], M1)) rfl rfl rfl ?_
                      refine ps_st (S' := (138, [(0, .ref m0), (1, .int (nI p)), (2, .int (nI (by2 f pF))), (3, .int (nI f0)), (4, .int (nI k)), (5, .int (nI (by2 f p)))], [.ref m0, .ref m0], M1)) rfl rfl rfl ?_
                      refine ps_st (S' := (139, [(0, .ref m0), (1, .int (nI p)), (2, .int (nI (by2 f pF))), (3, .int (nI f0)), (4, .int (nI k)), (5, .int (nI (by2 f p)))], [.int (nI p), .ref m0, .ref m0], M1)) rfl rfl rfl ?_
                      refine ps_st (S' := (140, [(0, .ref m0), (1, .int (nI p)), (2, .int (nI (by2 f pF))), (3, .int (nI f0)), (4, .int (nI k)), (5, .int (nI (by2 f p)))], [.int 4, .int (nI p), .ref m0, .ref m0], M1)) rfl rfl rfl ?_
                      refine ps_st (S' := (141, [(0, .ref m0), (1, .int (nI p)), (2, .int (nI (by2 f pF))), (3, .int (nI f0)), (4, .int (nI k)), (5, .int (nI (by2 f p)))], [.int ((nI p) + 4), .ref m0, .ref m0], M1)) rfl rfl rfl ?_
                      rw [nI_add1 (p := p) (k := 4) (x := 4) rfl (by omega)]
                      show pl _ _ _ (_, [(0, .ref m0), (1, .int (nI p)), (2, .int (nI (by2 f pF))), (3, .int (nI f0)), (4, .int (nI k)), (5, .int (nI (by2 f p)))], [.int (nI (p + 4)), .ref m0, .ref m0], M1) _
                      refine pl_call (a := [.ref m0, .int (nI (p + 4))]) (rest := [.ref m0]) rfl rfl rfl (rd_u2 (n := n) (f := f) (p := (p + 4)) hR1 hF1 (by omega)) (fun v304 M305 q306 => ?_)
                      obtain ⟨rfl, rfl⟩ := q306
                      show pl _ _ _ (144, [(0, .ref m0), (1, .int (nI p)), (2, .int (nI (by2 f pF))), (3, .int (nI f0)), (4, .int (nI k)), (5, .int (nI (by2 f p)))], [.int (nI (by2 f (p + 4))), .ref m0], M1) _
                      have hu_141 := by2_lt f (p + 4)
                      refine pl_call (a := [.ref m0, .int (nI (by2 f (p + 4)))]) (rest := []) rfl rfl rfl (rd_tag (n := n) (f := f) (tx := tx) (cN := cN) (A := A) (N := N) (mj := mj) (E := E) (k := (by2 f (p + 4))) hR1 hl51 hl52 hl53 hF1 hY1 hP1 (hEP) (hN) (hmj) (by2_lt _ _)) (fun v307 M308 q309 => ?_)
                      obtain ⟨rfl, rfl⟩ := q309
                      show pl _ _ _ (147, [(0, .ref m0), (1, .int (nI p)), (2, .int (nI (by2 f pF))), (3, .int (nI f0)), (4, .int (nI k)), (5, .int (nI (by2 f p)))], [.int (nI (tg f E (by2 f (p + 4))))], M1) _
                      have htg_144 := tg_lt f E (by2 f (p + 4))
                      refine ps_st (S' := (148, [(0, .ref m0), (1, .int (nI p)), (2, .int (nI (by2 f pF))), (3, .int (nI f0)), (4, .int (nI k)), (5, .int (nI (by2 f p)))], [.int 1, .int (nI (tg f E (by2 f (p + 4))))], M1)) rfl rfl rfl ?_
                      refine ps_if2 (S1 := (169, [(0, .ref m0), (1, .int (nI p))], [], M1)) (S2 := (151, [(0, .ref m0), (1, .int (nI p)), (2, .int (nI (by2 f pF))), (3, .int (nI f0)), (4, .int (nI k)), (5, .int (nI (by2 f p)))], [], M1)) rfl rfl rfl (fun c_148 => ?_) (fun c_148 => ?_)
                      · have c_148 : ¬ (nI (tg f E (by2 f (p + 4)))) = 1 := of_decide_eq_true c_148
                        have n_148 : ¬ (tg f E (by2 f (p + 4)) = 1) := fun h9 => c_148 ((eq_nI (p := tg f E (by2 f (p + 4))) (n := 1) (Nat.lt_trans (tg_lt _ _ _) (by decide)) (by decide)).mpr h9)
                        refine ps_st (S' := (170, [(0, .ref m0), (1, .int (nI p))], [.ref m0], M1)) rfl rfl rfl ?_
                        refine ps_st (S' := (172, [(0, .ref m0), (1, .int (nI p))], [.int 21, .ref m0], M1)) rfl rfl rfl ?_
                        refine ps_st (S' := (173, [(0, .ref m0), (1, .int (nI p))], [.int (nI p), .int 21, .ref m0], M1)) rfl rfl rfl ?_
                        refine ps_st (S' := (174, [(0, .ref m0), (1, .int (nI p))], [.int 4, .int (nI p), .int 21, .ref m0], M1)) rfl rfl rfl ?_
                        refine ps_st (S' := (175, [(0, .ref m0), (1, .int (nI p))], [.int ((nI p) + 4), .int 21, .ref m0], M1)) rfl rfl rfl ?_
                        rw [nI_add1 (p := p) (k := 4) (x := 4) rfl (by omega)]
                        show pl _ _ _ (_, [(0, .ref m0), (1, .int (nI p))], [.int (nI (p + 4)), .int 21, .ref m0], M1) _
                        refine pl_call (a := [.ref m0, .int 21, .int (nI (p + 4))]) (rest := []) rfl rfl rfl (rd_wrong (x1 := 21) (x2 := (nI (p + 4))) hR1) (fun v310 M311 q312 => ?_)
                        obtain ⟨I313, R314, rfl, hR315, hI316, hX317, hi318, hi319⟩ := q312
                        have hi320 := (hI316 51 (by decide)).trans hl51
                        have hi321 := (hI316 52 (by decide)).trans hl52
                        have hi322 := (hI316 53 (by decide)).trans hl53
                        have hi323 := (hI316 58 (by decide)).trans hl58
                        have hi324 := (hI316 55 (by decide)).trans hl55
                        have hi325 := (hI316 25 (by decide)).trans hl25
                        have hF_326 := hF1.mono (cIx hI316 (by decide)) (cRx hX317 (by decide))
                        have hY_327 := hY1.mono (cIx hI316 (by decide)) (cRx hX317 (by decide))
                        have hP_328 := hP1.mono (cIx hI316 (by decide)) (cRx hX317 (by decide))
                        have hK_329 := hK1.mono (cIx hI316 (by decide)) (cRx hX317 (by decide))
                        have hN9_330 := hN91.mono (cIx hI316 (by decide)) (cRx hX317 (by decide))
                        have hEI331 := hEI1.tr hI316 (by decide)
                        have hER332 := hER1.tr hX317 (by decide)
                        show pl _ _ _ (178, [(0, .ref m0), (1, .int (nI p))], [.int 0], M311) _
                        exact ps_ret rfl rfl (Or.inr ⟨(21, p + 4), I313, R314, by
                            rw [← hs, flS_st (i := k) (by omega), ← hpk, fh_21 (by have e1 := ffl_0 cf (by2 f p); have e2 := sev_0 (by2 f p); have e3 := hall_80 (by2 f p); omega) (by omega) (by rw [tx_no (by omega)]; decide)], rfl, hR315, hEI331, hER332, hi318, hi319⟩)
                      · have c_148 : ¬ (¬ (nI (tg f E (by2 f (p + 4)))) = 1) := of_decide_eq_false c_148
                        have n_148 : tg f E (by2 f (p + 4)) = 1 := (eq_nI (p := tg f E (by2 f (p + 4))) (n := 1) (Nat.lt_trans (tg_lt _ _ _) (by decide)) (by decide)).mp (Decidable.not_not.mp c_148)
                        refine ps_st (S' := (152, [(0, .ref m0), (1, .int (nI p)), (2, .int (nI (by2 f pF))), (3, .int (nI f0)), (4, .int (nI k)), (5, .int (nI (by2 f p)))], [.ref m0], M1)) rfl rfl rfl ?_
                        refine ps_st (S' := (153, [(0, .ref m0), (1, .int (nI p)), (2, .int (nI (by2 f pF))), (3, .int (nI f0)), (4, .int (nI k)), (5, .int (nI (by2 f p)))], [.ref m0, .ref m0], M1)) rfl rfl rfl ?_
                        refine ps_st (S' := (154, [(0, .ref m0), (1, .int (nI p)), (2, .int (nI (by2 f pF))), (3, .int (nI f0)), (4, .int (nI k)), (5, .int (nI (by2 f p)))], [.ref m0, .ref m0, .ref m0], M1)) rfl rfl rfl ?_
                        refine ps_st (S' := (155, [(0, .ref m0), (1, .int (nI p)), (2, .int (nI (by2 f pF))), (3, .int (nI f0)), (4, .int (nI k)), (5, .int (nI (by2 f p)))], [.int (nI p), .ref m0, .ref m0, .ref m0], M1)) rfl rfl rfl ?_
                        refine ps_st (S' := (156, [(0, .ref m0), (1, .int (nI p)), (2, .int (nI (by2 f pF))), (3, .int (nI f0)), (4, .int (nI k)), (5, .int (nI (by2 f p)))], [.int 4, .int (nI p), .ref m0, .ref m0, .ref m0], M1)) rfl rfl rfl ?_
                        refine ps_st (S' := (157, [(0, .ref m0), (1, .int (nI p)), (2, .int (nI (by2 f pF))), (3, .int (nI f0)), (4, .int (nI k)), (5, .int (nI (by2 f p)))], [.int ((nI p) + 4), .ref m0, .ref m0, .ref m0], M1)) rfl rfl rfl ?_
                        rw [nI_add1 (p := p) (k := 4) (x := 4) rfl (by omega)]
                        show pl _ _ _ (_, [(0, .ref m0), (1, .int (nI p)), (2, .int (nI (by2 f pF))), (3, .int (nI f0)), (4, .int (nI k)), (5, .int (nI (by2 f p)))], [.int (nI (p + 4)), .ref m0, .ref m0, .ref m0], M1) _
                        refine pl_call (a := [.ref m0, .int (nI (p + 4))]) (rest := [.ref m0, .ref m0]) rfl rfl rfl (rd_u2 (n := n) (f := f) (p := (p + 4)) hR1 hF1 (by omega)) (fun v333 M334 q335 => ?_)
                        obtain ⟨rfl, rfl⟩ := q335
                        show pl _ _ _ (160, [(0, .ref m0), (1, .int (nI p)), (2, .int (nI (by2 f pF))), (3, .int (nI f0)), (4, .int (nI k)), (5, .int (nI (by2 f p)))], [.int (nI (by2 f (p + 4))), .ref m0, .ref m0], M1) _
                        have hu_157 := by2_lt f (p + 4)
                        refine pl_call (a := [.ref m0, .int (nI (by2 f (p + 4)))]) (rest := [.ref m0]) rfl rfl rfl (rd_symOf (n := n) (f := f) (tx := tx) (cN := cN) (A := A) (N := N) (mj := mj) (E := E) (k := (by2 f (p + 4))) hR1 hl51 hl52 hl53 hF1 hY1 hP1 (hEP) (hN) (hmj) (by omega)) (fun v336 M337 q338 => ?_)
                        obtain ⟨s339, q160_s, rfl, rfl⟩ := q338
                        show pl _ _ _ (163, [(0, .ref m0), (1, .int (nI p)), (2, .int (nI (by2 f pF))), (3, .int (nI f0)), (4, .int (nI k)), (5, .int (nI (by2 f p)))], [.int (nI s339), .ref m0], M1) _
                        have hsl_160 := q160_s.1
                        have htl_160 := hY1.1.2.2.1
                        refine pl_call (a := [.ref m0, .int (nI s339)]) (rest := []) rfl rfl rfl (rd_isField (tx := tx) (cN := cN) (A := A) (s := s339) (l := (tX f n E (by2 f (p + 4)))) hR1 hY1 (q160_s)) (fun v340 M341 q342 => ?_)
                        obtain ⟨rfl, rfl⟩ := q342
                        show pl _ _ _ (166, [(0, .ref m0), (1, .int (nI p)), (2, .int (nI (by2 f pF))), (3, .int (nI f0)), (4, .int (nI k)), (5, .int (nI (by2 f p)))], [.int (nI (fldN (tX f n E (by2 f (p + 4)))))], M1) _
                        refine ps_if (S1 := (179, [(0, .ref m0), (1, .int (nI p)), (2, .int (nI (by2 f pF))), (3, .int (nI f0)), (4, .int (nI k)), (5, .int (nI (by2 f p)))], [], M1)) (S2 := (169, [(0, .ref m0), (1, .int (nI p))], [], M1)) rfl rfl rfl (fun c_166 => ?_) (fun c_166 => ?_)
                        · have c_166 : ¬ (nI (fldN (tX f n E (by2 f (p + 4))))) = 0 := of_decide_eq_true c_166
                          have n_166 : ¬ (fldN (tX f n E (by2 f (p + 4))) = 0) := fun h9 => c_166 ((eq_nI (p := fldN (tX f n E (by2 f (p + 4)))) (n := 0) (Nat.lt_trans (le1_fld _) (by decide)) (by decide)).mpr h9)
                          refine ps_st (S' := (180, [(0, .ref m0), (1, .int (nI p)), (2, .int (nI (by2 f pF))), (3, .int (nI f0)), (4, .int (nI k)), (5, .int (nI (by2 f p)))], [.ref m0], M1)) rfl rfl rfl ?_
                          refine pr_int (j := 25) (S' := (183, [(0, .ref m0), (1, .int (nI p)), (2, .int (nI (by2 f pF))), (3, .int (nI f0)), (4, .int (nI k)), (5, .int (nI (by2 f p)))], [.int (nI (f0 + k))], M1)) rfl hR1 rfl hl25 rfl ?_
                          refine ps_st (S' := (185, [(6, .int (nI (f0 + k))), (0, .ref m0), (1, .int (nI p)), (2, .int (nI (by2 f pF))), (3, .int (nI f0)), (4, .int (nI k)), (5, .int (nI (by2 f p)))], [], M1)) rfl rfl rfl ?_
                          refine ps_st (S' := (186, [(6, .int (nI (f0 + k))), (0, .ref m0), (1, .int (nI p)), (2, .int (nI (by2 f pF))), (3, .int (nI f0)), (4, .int (nI k)), (5, .int (nI (by2 f p)))], [.ref m0], M1)) rfl rfl rfl ?_
                          refine pr_ref (j := 27) (S' := (189, [(6, .int (nI (f0 + k))), (0, .ref m0), (1, .int (nI p)), (2, .int (nI (by2 f pF))), (3, .int (nI f0)), (4, .int (nI k)), (5, .int (nI (by2 f p)))], [.ref (q 27)], M1)) rfl hR1 rfl rfl ?_
                          refine ps_st (S' := (191, [(6, .int (nI (f0 + k))), (0, .ref m0), (1, .int (nI p)), (2, .int (nI (by2 f pF))), (3, .int (nI f0)), (4, .int (nI k)), (5, .int (nI (by2 f p)))], [.int (nI (f0 + k)), .ref (q 27)], M1)) rfl rfl rfl ?_
                          refine ps_st (S' := (193, [(6, .int (nI (f0 + k))), (0, .ref m0), (1, .int (nI p)), (2, .int (nI (by2 f pF))), (3, .int (nI f0)), (4, .int (nI k)), (5, .int (nI (by2 f p)))], [.int (nI (by2 f p)), .int (nI (f0 + k)), .ref (q 27)], M1)) rfl rfl rfl ?_
                          refine pr_st (a := 27) (j := f0 + k) rfl hR1 rfl (by omega) (fun M343 R344 i1_193 hR345 hS346 => ?_)
                          have hF_347 := hF1.mono (fun _ _ => rfl) (rRx hS346 (by decide))
                          have hY_348 := hY1.mono (fun _ _ => rfl) (rRx hS346 (by decide))
                          have hP_349 := hP1.mono (fun _ _ => rfl) (rRx hS346 (by decide))
                          have hK_350 := hK1.mono (fun _ _ => rfl) (rRx hS346 (by decide))
                          have hN9_351 := hN91.mono (fun _ _ => rfl) (rRx hS346 (by decide))
                          have hER352 := hER1.st hS346 (by decide)
                          show pl _ _ _ (194, [(6, .int (nI (f0 + k))), (0, .ref m0), (1, .int (nI p)), (2, .int (nI (by2 f pF))), (3, .int (nI f0)), (4, .int (nI k)), (5, .int (nI (by2 f p)))], [], M343) _
                          have c27_353 : CE 27 (f0 + k) (nI (by2 f p)) I1 R344 := CE.st hS346
                          refine ps_st (S' := (195, [(6, .int (nI (f0 + k))), (0, .ref m0), (1, .int (nI p)), (2, .int (nI (by2 f pF))), (3, .int (nI f0)), (4, .int (nI k)), (5, .int (nI (by2 f p)))], [.ref m0], M343)) rfl rfl rfl ?_
                          refine pr_ref (j := 28) (S' := (198, [(6, .int (nI (f0 + k))), (0, .ref m0), (1, .int (nI p)), (2, .int (nI (by2 f pF))), (3, .int (nI f0)), (4, .int (nI k)), (5, .int (nI (by2 f p)))], [.ref (q 28)], M343)) rfl hR345 rfl rfl ?_
                          refine ps_st (S' := (200, [(6, .int (nI (f0 + k))), (0, .ref m0), (1, .int (nI p)), (2, .int (nI (by2 f pF))), (3, .int (nI f0)), (4, .int (nI k)), (5, .int (nI (by2 f p)))], [.int (nI (f0 + k)), .ref (q 28)], M343)) rfl rfl rfl ?_
                          refine ps_st (S' := (201, [(6, .int (nI (f0 + k))), (0, .ref m0), (1, .int (nI p)), (2, .int (nI (by2 f pF))), (3, .int (nI f0)), (4, .int (nI k)), (5, .int (nI (by2 f p)))], [.ref m0, .int (nI (f0 + k)), .ref (q 28)], M343)) rfl rfl rfl ?_
                          refine ps_st (S' := (202, [(6, .int (nI (f0 + k))), (0, .ref m0), (1, .int (nI p)), (2, .int (nI (by2 f pF))), (3, .int (nI f0)), (4, .int (nI k)), (5, .int (nI (by2 f p)))], [.ref m0, .ref m0, .int (nI (f0 + k)), .ref (q 28)], M343)) rfl rfl rfl ?_
                          refine ps_st (S' := (203, [(6, .int (nI (f0 + k))), (0, .ref m0), (1, .int (nI p)), (2, .int (nI (by2 f pF))), (3, .int (nI f0)), (4, .int (nI k)), (5, .int (nI (by2 f p)))], [.int (nI p), .ref m0, .ref m0, .int (nI (f0 + k)), .ref (q 28)], M343)) rfl rfl rfl ?_
                          refine ps_st (S' := (204, [(6, .int (nI (f0 + k))), (0, .ref m0), (1, .int (nI p)), (2, .int (nI (by2 f pF))), (3, .int (nI f0)), (4, .int (nI k)), (5, .int (nI (by2 f p)))], [.int 2, .int (nI p), .ref m0, .ref m0, .int (nI (f0 + k)), .ref (q 28)], M343)) rfl rfl rfl ?_
                          refine ps_st (S' := (205, [(6, .int (nI (f0 + k))), (0, .ref m0), (1, .int (nI p)), (2, .int (nI (by2 f pF))), (3, .int (nI f0)), (4, .int (nI k)), (5, .int (nI (by2 f p)))], [.int ((nI p) + 2), .ref m0, .ref m0, .int (nI (f0 + k)), .ref (q 28)], M343)) rfl rfl rfl ?_
                          rw [nI_add1 (p := p) (k := 2) (x := 2) rfl (by omega)]
                          show pl _ _ _ (_, [(6, .int (nI (f0 + k))), (0, .ref m0), (1, .int (nI p)), (2, .int (nI (by2 f pF))), (3, .int (nI f0)), (4, .int (nI k)), (5, .int (nI (by2 f p)))], [.int (nI (p + 2)), .ref m0, .ref m0, .int (nI (f0 + k)), .ref (q 28)], M343) _
                          refine pl_call (a := [.ref m0, .int (nI (p + 2))]) (rest := [.ref m0, .int (nI (f0 + k)), .ref (q 28)]) rfl rfl rfl (rd_u2 (n := n) (f := f) (p := (p + 2)) hR345 hF_347 (by omega)) (fun v354 M355 q356 => ?_)
                          obtain ⟨rfl, rfl⟩ := q356
                          show pl _ _ _ (208, [(6, .int (nI (f0 + k))), (0, .ref m0), (1, .int (nI p)), (2, .int (nI (by2 f pF))), (3, .int (nI f0)), (4, .int (nI k)), (5, .int (nI (by2 f p)))], [.int (nI (by2 f (p + 2))), .ref m0, .int (nI (f0 + k)), .ref (q 28)], M343) _
                          have hu_205 := by2_lt f (p + 2)
                          refine pl_call (a := [.ref m0, .int (nI (by2 f (p + 2)))]) (rest := [.int (nI (f0 + k)), .ref (q 28)]) rfl rfl rfl (rd_symOf (n := n) (f := f) (tx := tx) (cN := cN) (A := A) (N := N) (mj := mj) (E := E) (k := (by2 f (p + 2))) hR345 hl51 hl52 hl53 hF_347 hY_348 hP_349 (hEP) (hN) (hmj) (by omega)) (fun v357 M358 q359 => ?_)
                          obtain ⟨s360, q208_s, rfl, rfl⟩ := q359
                          show pl _ _ _ (211, [(6, .int (nI (f0 + k))), (0, .ref m0), (1, .int (nI p)), (2, .int (nI (by2 f pF))), (3, .int (nI f0)), (4, .int (nI k)), (5, .int (nI (by2 f p)))], [.int (nI s360), .int (nI (f0 + k)), .ref (q 28)], M343) _
                          have hsl_208 := q208_s.1
                          have htl_208 := hY_348.1.2.2.1
                          refine pr_st (a := 28) (j := f0 + k) rfl hR345 rfl (by omega) (fun M361 R362 i1_211 hR363 hS364 => ?_)
                          have hF_365 := hF_347.mono (fun _ _ => rfl) (rRx hS364 (by decide))
                          have hY_366 := hY_348.mono (fun _ _ => rfl) (rRx hS364 (by decide))
                          have hP_367 := hP_349.mono (fun _ _ => rfl) (rRx hS364 (by decide))
                          have hK_368 := hK_350.mono (fun _ _ => rfl) (rRx hS364 (by decide))
                          have c27_369 := c27_353.mono (fun _ _ => rfl) (rRx hS364 (by decide))
                          have hER370 := hER352.st hS364 (by decide)
                          show pl _ _ _ (212, [(6, .int (nI (f0 + k))), (0, .ref m0), (1, .int (nI p)), (2, .int (nI (by2 f pF))), (3, .int (nI f0)), (4, .int (nI k)), (5, .int (nI (by2 f p)))], [], M361) _
                          have c28_371 : CE 28 (f0 + k) (nI s360) I1 R362 := CE.st hS364
                          have hN9_372 := FN.st (I' := I1) hN9_351 hS364 rfl
                          refine ps_st (S' := (213, [(6, .int (nI (f0 + k))), (0, .ref m0), (1, .int (nI p)), (2, .int (nI (by2 f pF))), (3, .int (nI f0)), (4, .int (nI k)), (5, .int (nI (by2 f p)))], [.ref m0], M361)) rfl rfl rfl ?_
                          refine pr_ref (j := 29) (S' := (216, [(6, .int (nI (f0 + k))), (0, .ref m0), (1, .int (nI p)), (2, .int (nI (by2 f pF))), (3, .int (nI f0)), (4, .int (nI k)), (5, .int (nI (by2 f p)))], [.ref (q 29)], M361)) rfl hR363 rfl rfl ?_
                          refine ps_st (S' := (218, [(6, .int (nI (f0 + k))), (0, .ref m0), (1, .int (nI p)), (2, .int (nI (by2 f pF))), (3, .int (nI f0)), (4, .int (nI k)), (5, .int (nI (by2 f p)))], [.int (nI (f0 + k)), .ref (q 29)], M361)) rfl rfl rfl ?_
                          refine ps_st (S' := (219, [(6, .int (nI (f0 + k))), (0, .ref m0), (1, .int (nI p)), (2, .int (nI (by2 f pF))), (3, .int (nI f0)), (4, .int (nI k)), (5, .int (nI (by2 f p)))], [.ref m0, .int (nI (f0 + k)), .ref (q 29)], M361)) rfl rfl rfl ?_
                          refine ps_st (S' := (220, [(6, .int (nI (f0 + k))), (0, .ref m0), (1, .int (nI p)), (2, .int (nI (by2 f pF))), (3, .int (nI f0)), (4, .int (nI k)), (5, .int (nI (by2 f p)))], [.ref m0, .ref m0, .int (nI (f0 + k)), .ref (q 29)], M361)) rfl rfl rfl ?_
                          refine ps_st (S' := (221, [(6, .int (nI (f0 + k))), (0, .ref m0), (1, .int (nI p)), (2, .int (nI (by2 f pF))), (3, .int (nI f0)), (4, .int (nI k)), (5, .int (nI (by2 f p)))], [.int (nI p), .ref m0, .ref m0, .int (nI (f0 + k)), .ref (q 29)], M361)) rfl rfl rfl ?_
                          refine ps_st (S' := (222, [(6, .int (nI (f0 + k))), (0, .ref m0), (1, .int (nI p)), (2, .int (nI (by2 f pF))), (3, .int (nI f0)), (4, .int (nI k)), (5, .int (nI (by2 f p)))], [.int 4, .int (nI p), .ref m0, .ref m0, .int (nI (f0 + k)), .ref (q 29)], M361)) rfl rfl rfl ?_
                          refine ps_st (S' := (223, [(6, .int (nI (f0 + k))), (0, .ref m0), (1, .int (nI p)), (2, .int (nI (by2 f pF))), (3, .int (nI f0)), (4, .int (nI k)), (5, .int (nI (by2 f p)))], [.int ((nI p) + 4), .ref m0, .ref m0, .int (nI (f0 + k)), .ref (q 29)], M361)) rfl rfl rfl ?_
                          rw [nI_add1 (p := p) (k := 4) (x := 4) rfl (by omega)]
                          show pl _ _ _ (_, [(6, .int (nI (f0 + k))), (0, .ref m0), (1, .int (nI p)), (2, .int (nI (by2 f pF))), (3, .int (nI f0)), (4, .int (nI k)), (5, .int (nI (by2 f p)))], [.int (nI (p + 4)), .ref m0, .ref m0, .int (nI (f0 + k)), .ref (q 29)], M361) _
                          refine pl_call (a := [.ref m0, .int (nI (p + 4))]) (rest := [.ref m0, .int (nI (f0 + k)), .ref (q 29)]) rfl rfl rfl (rd_u2 (n := n) (f := f) (p := (p + 4)) hR363 hF_365 (by omega)) (fun v373 M374 q375 => ?_)
                          obtain ⟨rfl, rfl⟩ := q375
                          show pl _ _ _ (226, [(6, .int (nI (f0 + k))), (0, .ref m0), (1, .int (nI p)), (2, .int (nI (by2 f pF))), (3, .int (nI f0)), (4, .int (nI k)), (5, .int (nI (by2 f p)))], [.int (nI (by2 f (p + 4))), .ref m0, .int (nI (f0 + k)), .ref (q 29)], M361) _
                          have hu_223 := by2_lt f (p + 4)
                          refine pl_call (a := [.ref m0, .int (nI (by2 f (p + 4)))]) (rest := [.int (nI (f0 + k)), .ref (q 29)]) rfl rfl rfl (rd_symOf (n := n) (f := f) (tx := tx) (cN := cN) (A := A) (N := N) (mj := mj) (E := E) (k := (by2 f (p + 4))) hR363 hl51 hl52 hl53 hF_365 hY_366 hP_367 (hEP) (hN) (hmj) (by omega)) (fun v376 M377 q378 => ?_)
                          obtain ⟨s379, q226_s, rfl, rfl⟩ := q378
                          show pl _ _ _ (229, [(6, .int (nI (f0 + k))), (0, .ref m0), (1, .int (nI p)), (2, .int (nI (by2 f pF))), (3, .int (nI f0)), (4, .int (nI k)), (5, .int (nI (by2 f p)))], [.int (nI s379), .int (nI (f0 + k)), .ref (q 29)], M361) _
                          have hsl_226 := q226_s.1
                          have htl_226 := hY_366.1.2.2.1
                          refine pr_st (a := 29) (j := f0 + k) rfl hR363 rfl (by omega) (fun M380 R381 i1_229 hR382 hS383 => ?_)
                          have hF_384 := hF_365.mono (fun _ _ => rfl) (rRx hS383 (by decide))
                          have hY_385 := hY_366.mono (fun _ _ => rfl) (rRx hS383 (by decide))
                          have hP_386 := hP_367.mono (fun _ _ => rfl) (rRx hS383 (by decide))
                          have hK_387 := hK_368.mono (fun _ _ => rfl) (rRx hS383 (by decide))
                          have c27_388 := c27_369.mono (fun _ _ => rfl) (rRx hS383 (by decide))
                          have c28_389 := c28_371.mono (fun _ _ => rfl) (rRx hS383 (by decide))
                          have hER390 := hER370.st hS383 (by decide)
                          show pl _ _ _ (230, [(6, .int (nI (f0 + k))), (0, .ref m0), (1, .int (nI p)), (2, .int (nI (by2 f pF))), (3, .int (nI f0)), (4, .int (nI k)), (5, .int (nI (by2 f p)))], [], M380) _
                          have c29_391 : CE 29 (f0 + k) (nI s379) I1 R381 := CE.st hS383
                          have hN9_392 := FN.st (I' := I1) hN9_372 hS383 rfl
                          refine ps_st (S' := (231, [(6, .int (nI (f0 + k))), (0, .ref m0), (1, .int (nI p)), (2, .int (nI (by2 f pF))), (3, .int (nI f0)), (4, .int (nI k)), (5, .int (nI (by2 f p)))], [.ref m0], M380)) rfl rfl rfl ?_
                          refine pr_ref (j := 30) (S' := (234, [(6, .int (nI (f0 + k))), (0, .ref m0), (1, .int (nI p)), (2, .int (nI (by2 f pF))), (3, .int (nI f0)), (4, .int (nI k)), (5, .int (nI (by2 f p)))], [.ref (q 30)], M380)) rfl hR382 rfl rfl ?_
                          refine ps_st (S' := (236, [(6, .int (nI (f0 + k))), (0, .ref m0), (1, .int (nI p)), (2, .int (nI (by2 f pF))), (3, .int (nI f0)), (4, .int (nI k)), (5, .int (nI (by2 f p)))], [.int (nI (f0 + k)), .ref (q 30)], M380)) rfl rfl rfl ?_
                          refine ps_st (S' := (237, [(6, .int (nI (f0 + k))), (0, .ref m0), (1, .int (nI p)), (2, .int (nI (by2 f pF))), (3, .int (nI f0)), (4, .int (nI k)), (5, .int (nI (by2 f p)))], [.int 0, .int (nI (f0 + k)), .ref (q 30)], M380)) rfl rfl rfl ?_
                          refine pr_st (a := 30) (j := f0 + k) rfl hR382 rfl (by omega) (fun M393 R394 i1_237 hR395 hS396 => ?_)
                          have hF_397 := hF_384.mono (fun _ _ => rfl) (rRx hS396 (by decide))
                          have hY_398 := hY_385.mono (fun _ _ => rfl) (rRx hS396 (by decide))
                          have hP_399 := hP_386.mono (fun _ _ => rfl) (rRx hS396 (by decide))
                          have hK_400 := hK_387.mono (fun _ _ => rfl) (rRx hS396 (by decide))
                          have c27_401 := c27_388.mono (fun _ _ => rfl) (rRx hS396 (by decide))
                          have c28_402 := c28_389.mono (fun _ _ => rfl) (rRx hS396 (by decide))
                          have c29_403 := c29_391.mono (fun _ _ => rfl) (rRx hS396 (by decide))
                          have hN9_404 := hN9_392.mono (fun _ _ => rfl) (rRx hS396 (by decide))
                          have hER405 := hER390.st hS396 (by decide)
                          show pl _ _ _ (238, [(6, .int (nI (f0 + k))), (0, .ref m0), (1, .int (nI p)), (2, .int (nI (by2 f pF))), (3, .int (nI f0)), (4, .int (nI k)), (5, .int (nI (by2 f p)))], [], M393) _
                          refine ps_st (S' := (239, [(6, .int (nI (f0 + k))), (0, .ref m0), (1, .int (nI p)), (2, .int (nI (by2 f pF))), (3, .int (nI f0)), (4, .int (nI k)), (5, .int (nI (by2 f p)))], [.ref m0], M393)) rfl rfl rfl ?_
                          refine pr_ref (j := 31) (S' := (242, [(6, .int (nI (f0 + k))), (0, .ref m0), (1, .int (nI p)), (2, .int (nI (by2 f pF))), (3, .int (nI f0)), (4, .int (nI k)), (5, .int (nI (by2 f p)))], [.ref (q 31)], M393)) rfl hR395 rfl rfl ?_
                          refine ps_st (S' := (244, [(6, .int (nI (f0 + k))), (0, .ref m0), (1, .int (nI p)), (2, .int (nI (by2 f pF))), (3, .int (nI f0)), (4, .int (nI k)), (5, .int (nI (by2 f p)))], [.int (nI (f0 + k)), .ref (q 31)], M393)) rfl rfl rfl ?_
                          refine ps_st (S' := (245, [(6, .int (nI (f0 + k))), (0, .ref m0), (1, .int (nI p)), (2, .int (nI (by2 f pF))), (3, .int (nI f0)), (4, .int (nI k)), (5, .int (nI (by2 f p)))], [.int 0, .int (nI (f0 + k)), .ref (q 31)], M393)) rfl rfl rfl ?_
                          refine pr_st (a := 31) (j := f0 + k) rfl hR395 rfl (by omega) (fun M406 R407 i1_245 hR408 hS409 => ?_)
                          have hF_410 := hF_397.mono (fun _ _ => rfl) (rRx hS409 (by decide))
                          have hY_411 := hY_398.mono (fun _ _ => rfl) (rRx hS409 (by decide))
                          have hP_412 := hP_399.mono (fun _ _ => rfl) (rRx hS409 (by decide))
                          have hK_413 := hK_400.mono (fun _ _ => rfl) (rRx hS409 (by decide))
                          have c27_414 := c27_401.mono (fun _ _ => rfl) (rRx hS409 (by decide))
                          have c28_415 := c28_402.mono (fun _ _ => rfl) (rRx hS409 (by decide))
                          have c29_416 := c29_403.mono (fun _ _ => rfl) (rRx hS409 (by decide))
                          have hN9_417 := hN9_404.mono (fun _ _ => rfl) (rRx hS409 (by decide))
                          have hER418 := hER405.st hS409 (by decide)
                          show pl _ _ _ (246, [(6, .int (nI (f0 + k))), (0, .ref m0), (1, .int (nI p)), (2, .int (nI (by2 f pF))), (3, .int (nI f0)), (4, .int (nI k)), (5, .int (nI (by2 f p)))], [], M406) _
                          refine ps_st (S' := (247, [(6, .int (nI (f0 + k))), (0, .ref m0), (1, .int (nI p)), (2, .int (nI (by2 f pF))), (3, .int (nI f0)), (4, .int (nI k)), (5, .int (nI (by2 f p)))], [.ref m0], M406)) rfl rfl rfl ?_
                          refine pr_ref (j := 32) (S' := (250, [(6, .int (nI (f0 + k))), (0, .ref m0), (1, .int (nI p)), (2, .int (nI (by2 f pF))), (3, .int (nI f0)), (4, .int (nI k)), (5, .int (nI (by2 f p)))], [.ref (q 32)], M406)) rfl hR408 rfl rfl ?_
                          refine ps_st (S' := (252, [(6, .int (nI (f0 + k))), (0, .ref m0), (1, .int (nI p)), (2, .int (nI (by2 f pF))), (3, .int (nI f0)), (4, .int (nI k)), (5, .int (nI (by2 f p)))], [.int (nI (f0 + k)), .ref (q 32)], M406)) rfl rfl rfl ?_
                          refine ps_st (S' := (253, [(6, .int (nI (f0 + k))), (0, .ref m0), (1, .int (nI p)), (2, .int (nI (by2 f pF))), (3, .int (nI f0)), (4, .int (nI k)), (5, .int (nI (by2 f p)))], [.ref m0, .int (nI (f0 + k)), .ref (q 32)], M406)) rfl rfl rfl ?_
                          refine ps_st (S' := (254, [(6, .int (nI (f0 + k))), (0, .ref m0), (1, .int (nI p)), (2, .int (nI (by2 f pF))), (3, .int (nI f0)), (4, .int (nI k)), (5, .int (nI (by2 f p)))], [.int (nI p), .ref m0, .int (nI (f0 + k)), .ref (q 32)], M406)) rfl rfl rfl ?_
                          refine ps_st (S' := (255, [(6, .int (nI (f0 + k))), (0, .ref m0), (1, .int (nI p)), (2, .int (nI (by2 f pF))), (3, .int (nI f0)), (4, .int (nI k)), (5, .int (nI (by2 f p)))], [.int 2, .int (nI p), .ref m0, .int (nI (f0 + k)), .ref (q 32)], M406)) rfl rfl rfl ?_
                          refine ps_st (S' := (256, [(6, .int (nI (f0 + k))), (0, .ref m0), (1, .int (nI p)), (2, .int (nI (by2 f pF))), (3, .int (nI f0)), (4, .int (nI k)), (5, .int (nI (by2 f p)))], [.int ((nI p) + 2), .ref m0, .int (nI (f0 + k)), .ref (q 32)], M406)) rfl rfl rfl ?_
                          rw [nI_add1 (p := p) (k := 2) (x := 2) rfl (by omega)]
                          show pl _ _ _ (_, [(6, .int (nI (f0 + k))), (0, .ref m0), (1, .int (nI p)), (2, .int (nI (by2 f pF))), (3, .int (nI f0)), (4, .int (nI k)), (5, .int (nI (by2 f p)))], [.int (nI (p + 2)), .ref m0, .int (nI (f0 + k)), .ref (q 32)], M406) _
                          refine pl_call (a := [.ref m0, .int (nI (p + 2))]) (rest := [.int (nI (f0 + k)), .ref (q 32)]) rfl rfl rfl (rd_u2 (n := n) (f := f) (p := (p + 2)) hR408 hF_410 (by omega)) (fun v419 M420 q421 => ?_)
                          obtain ⟨rfl, rfl⟩ := q421
                          show pl _ _ _ (259, [(6, .int (nI (f0 + k))), (0, .ref m0), (1, .int (nI p)), (2, .int (nI (by2 f pF))), (3, .int (nI f0)), (4, .int (nI k)), (5, .int (nI (by2 f p)))], [.int (nI (by2 f (p + 2))), .int (nI (f0 + k)), .ref (q 32)], M406) _
                          have hu_256 := by2_lt f (p + 2)
                          refine pr_st (a := 32) (j := f0 + k) rfl hR408 rfl (by omega) (fun M422 R423 i1_259 hR424 hS425 => ?_)
                          have hF_426 := hF_410.mono (fun _ _ => rfl) (rRx hS425 (by decide))
                          have hY_427 := hY_411.mono (fun _ _ => rfl) (rRx hS425 (by decide))
                          have hP_428 := hP_412.mono (fun _ _ => rfl) (rRx hS425 (by decide))
                          have hK_429 := hK_413.mono (fun _ _ => rfl) (rRx hS425 (by decide))
                          have c27_430 := c27_414.mono (fun _ _ => rfl) (rRx hS425 (by decide))
                          have c28_431 := c28_415.mono (fun _ _ => rfl) (rRx hS425 (by decide))
                          have c29_432 := c29_416.mono (fun _ _ => rfl) (rRx hS425 (by decide))
                          have hN9_433 := hN9_417.mono (fun _ _ => rfl) (rRx hS425 (by decide))
                          have hER434 := hER418.st hS425 (by decide)
                          show pl _ _ _ (260, [(6, .int (nI (f0 + k))), (0, .ref m0), (1, .int (nI p)), (2, .int (nI (by2 f pF))), (3, .int (nI f0)), (4, .int (nI k)), (5, .int (nI (by2 f p)))], [], M422) _
                          refine ps_st (S' := (261, [(6, .int (nI (f0 + k))), (0, .ref m0), (1, .int (nI p)), (2, .int (nI (by2 f pF))), (3, .int (nI f0)), (4, .int (nI k)), (5, .int (nI (by2 f p)))], [.ref m0], M422)) rfl rfl rfl ?_
                          refine pr_ref (j := 33) (S' := (264, [(6, .int (nI (f0 + k))), (0, .ref m0), (1, .int (nI p)), (2, .int (nI (by2 f pF))), (3, .int (nI f0)), (4, .int (nI k)), (5, .int (nI (by2 f p)))], [.ref (q 33)], M422)) rfl hR424 rfl rfl ?_
                          refine ps_st (S' := (266, [(6, .int (nI (f0 + k))), (0, .ref m0), (1, .int (nI p)), (2, .int (nI (by2 f pF))), (3, .int (nI f0)), (4, .int (nI k)), (5, .int (nI (by2 f p)))], [.int (nI (f0 + k)), .ref (q 33)], M422)) rfl rfl rfl ?_
                          refine ps_st (S' := (267, [(6, .int (nI (f0 + k))), (0, .ref m0), (1, .int (nI p)), (2, .int (nI (by2 f pF))), (3, .int (nI f0)), (4, .int (nI k)), (5, .int (nI (by2 f p)))], [.ref m0, .int (nI (f0 + k)), .ref (q 33)], M422)) rfl rfl rfl ?_
                          refine ps_st (S' := (268, [(6, .int (nI (f0 + k))), (0, .ref m0), (1, .int (nI p)), (2, .int (nI (by2 f pF))), (3, .int (nI f0)), (4, .int (nI k)), (5, .int (nI (by2 f p)))], [.int (nI p), .ref m0, .int (nI (f0 + k)), .ref (q 33)], M422)) rfl rfl rfl ?_
                          refine ps_st (S' := (269, [(6, .int (nI (f0 + k))), (0, .ref m0), (1, .int (nI p)), (2, .int (nI (by2 f pF))), (3, .int (nI f0)), (4, .int (nI k)), (5, .int (nI (by2 f p)))], [.int 4, .int (nI p), .ref m0, .int (nI (f0 + k)), .ref (q 33)], M422)) rfl rfl rfl ?_
                          refine ps_st (S' := (270, [(6, .int (nI (f0 + k))), (0, .ref m0), (1, .int (nI p)), (2, .int (nI (by2 f pF))), (3, .int (nI f0)), (4, .int (nI k)), (5, .int (nI (by2 f p)))], [.int ((nI p) + 4), .ref m0, .int (nI (f0 + k)), .ref (q 33)], M422)) rfl rfl rfl ?_
                          rw [nI_add1 (p := p) (k := 4) (x := 4) rfl (by omega)]
                          show pl _ _ _ (_, [(6, .int (nI (f0 + k))), (0, .ref m0), (1, .int (nI p)), (2, .int (nI (by2 f pF))), (3, .int (nI f0)), (4, .int (nI k)), (5, .int (nI (by2 f p)))], [.int (nI (p + 4)), .ref m0, .int (nI (f0 + k)), .ref (q 33)], M422) _
                          refine pl_call (a := [.ref m0, .int (nI (p + 4))]) (rest := [.int (nI (f0 + k)), .ref (q 33)]) rfl rfl rfl (rd_u2 (n := n) (f := f) (p := (p + 4)) hR424 hF_426 (by omega)) (fun v435 M436 q437 => ?_)
                          obtain ⟨rfl, rfl⟩ := q437
                          show pl _ _ _ (273, [(6, .int (nI (f0 + k))), (0, .ref m0), (1, .int (nI p)), (2, .int (nI (by2 f pF))), (3, .int (nI f0)), (4, .int (nI k)), (5, .int (nI (by2 f p)))], [.int (nI (by2 f (p + 4))), .int (nI (f0 + k)), .ref (q 33)], M422) _
                          have hu_270 := by2_lt f (p + 4)
                          refine pr_st (a := 33) (j := f0 + k) rfl hR424 rfl (by omega) (fun M438 R439 i1_273 hR440 hS441 => ?_)
                          have hF_442 := hF_426.mono (fun _ _ => rfl) (rRx hS441 (by decide))
                          have hY_443 := hY_427.mono (fun _ _ => rfl) (rRx hS441 (by decide))
                          have hP_444 := hP_428.mono (fun _ _ => rfl) (rRx hS441 (by decide))
                          have hK_445 := hK_429.mono (fun _ _ => rfl) (rRx hS441 (by decide))
                          have c27_446 := c27_430.mono (fun _ _ => rfl) (rRx hS441 (by decide))
                          have c28_447 := c28_431.mono (fun _ _ => rfl) (rRx hS441 (by decide))
                          have c29_448 := c29_432.mono (fun _ _ => rfl) (rRx hS441 (by decide))
                          have hN9_449 := hN9_433.mono (fun _ _ => rfl) (rRx hS441 (by decide))
                          have hER450 := hER434.st hS441 (by decide)
                          show pl _ _ _ (274, [(6, .int (nI (f0 + k))), (0, .ref m0), (1, .int (nI p)), (2, .int (nI (by2 f pF))), (3, .int (nI f0)), (4, .int (nI k)), (5, .int (nI (by2 f p)))], [], M438) _
                          refine ps_st (S' := (275, [(6, .int (nI (f0 + k))), (0, .ref m0), (1, .int (nI p)), (2, .int (nI (by2 f pF))), (3, .int (nI f0)), (4, .int (nI k)), (5, .int (nI (by2 f p)))], [.int (nI f0)], M438)) rfl rfl rfl ?_
                          refine ps_st (S' := (277, [(0, .ref m0), (1, .int (nI p)), (2, .int (nI (by2 f pF))), (3, .int (nI f0)), (4, .int (nI k)), (6, .int (nI (f0 + k))), (7, .int (nI f0))], [], M438)) rfl rfl rfl ?_
                          have h19 : ¬ fflN cf (by2 f p) = 0 := by
                            have e1 := ffl_0 cf (by2 f p)
                            have e2 := sev_0 (by2 f p)
                            have e3 := hall_80 (by2 f p)
                            omega
                          exact ih.2 (k) (p) (0) (s360) (s379) M438 I1 R439 hR440 hEI1 hER450 hl51 hl52 hl53 hl58 hl55 hl25 hF_442 hY_443 hP_444 hK_445 hN9_449 c27_446 c28_447 c29_448 (by omega) (hpk) (by omega) (hs) (by omega) (by omega) (q208_s) (q226_s) (by omega) (by omega) (h19) (by omega) (by omega) (rfl)
                        · have c_166 : ¬ (¬ (nI (fldN (tX f n E (by2 f (p + 4))))) = 0) := of_decide_eq_false c_166
                          have n_166 : fldN (tX f n E (by2 f (p + 4))) = 0 := (eq_nI (p := fldN (tX f n E (by2 f (p + 4)))) (n := 0) (Nat.lt_trans (le1_fld _) (by decide)) (by decide)).mp (Decidable.not_not.mp c_166)
                          refine ps_st (S' := (170, [(0, .ref m0), (1, .int (nI p))], [.ref m0], M1)) rfl rfl rfl ?_
                          refine ps_st (S' := (172, [(0, .ref m0), (1, .int (nI p))], [.int 21, .ref m0], M1)) rfl rfl rfl ?_
                          refine ps_st (S' := (173, [(0, .ref m0), (1, .int (nI p))], [.int (nI p), .int 21, .ref m0], M1)) rfl rfl rfl ?_
                          refine ps_st (S' := (174, [(0, .ref m0), (1, .int (nI p))], [.int 4, .int (nI p), .int 21, .ref m0], M1)) rfl rfl rfl ?_
                          refine ps_st (S' := (175, [(0, .ref m0), (1, .int (nI p))], [.int ((nI p) + 4), .int 21, .ref m0], M1)) rfl rfl rfl ?_
                          rw [nI_add1 (p := p) (k := 4) (x := 4) rfl (by omega)]
                          show pl _ _ _ (_, [(0, .ref m0), (1, .int (nI p))], [.int (nI (p + 4)), .int 21, .ref m0], M1) _
                          refine pl_call (a := [.ref m0, .int 21, .int (nI (p + 4))]) (rest := []) rfl rfl rfl (rd_wrong (x1 := 21) (x2 := (nI (p + 4))) hR1) (fun v451 M452 q453 => ?_)
                          obtain ⟨I454, R455, rfl, hR456, hI457, hX458, hi459, hi460⟩ := q453
                          have hi461 := (hI457 51 (by decide)).trans hl51
                          have hi462 := (hI457 52 (by decide)).trans hl52
                          have hi463 := (hI457 53 (by decide)).trans hl53
                          have hi464 := (hI457 58 (by decide)).trans hl58
                          have hi465 := (hI457 55 (by decide)).trans hl55
                          have hi466 := (hI457 25 (by decide)).trans hl25
                          have hF_467 := hF1.mono (cIx hI457 (by decide)) (cRx hX458 (by decide))
                          have hY_468 := hY1.mono (cIx hI457 (by decide)) (cRx hX458 (by decide))
                          have hP_469 := hP1.mono (cIx hI457 (by decide)) (cRx hX458 (by decide))
                          have hK_470 := hK1.mono (cIx hI457 (by decide)) (cRx hX458 (by decide))
                          have hN9_471 := hN91.mono (cIx hI457 (by decide)) (cRx hX458 (by decide))
                          have hEI472 := hEI1.tr hI457 (by decide)
                          have hER473 := hER1.tr hX458 (by decide)
                          show pl _ _ _ (178, [(0, .ref m0), (1, .int (nI p))], [.int 0], M452) _
                          exact ps_ret rfl rfl (Or.inr ⟨(21, p + 4), I454, R455, by
                              rw [← hs, flS_st (i := k) (by omega), ← hpk, fh_21 (by have e1 := ffl_0 cf (by2 f p); have e2 := sev_0 (by2 f p); have e3 := hall_80 (by2 f p); omega) (by omega) (by omega)], rfl, hR456, hEI472, hER473, hi459, hi460⟩)
                    · have c_123 : ¬ (¬ (nI (unqN (tX f n E (by2 f (p + 2))))) = 0) := of_decide_eq_false c_123
                      have n_123 : unqN (tX f n E (by2 f (p + 2))) = 0 := (eq_nI (p := unqN (tX f n E (by2 f (p + 2)))) (n := 0) (Nat.lt_trans (le1_unq _) (by decide)) (by decide)).mp (Decidable.not_not.mp c_123)
                      refine ps_st (S' := (127, [(0, .ref m0), (1, .int (nI p))], [.ref m0], M1)) rfl rfl rfl ?_
                      refine ps_st (S' := (129, [(0, .ref m0), (1, .int (nI p))], [.int 20, .ref m0], M1)) rfl rfl rfl ?_
                      refine ps_st (S' := (130, [(0, .ref m0), (1, .int (nI p))], [.int (nI p), .int 20, .ref m0], M1)) rfl rfl rfl ?_
                      refine ps_st (S' := (131, [(0, .ref m0), (1, .int (nI p))], [.int 2, .int (nI p), .int 20, .ref m0], M1)) rfl rfl rfl ?_
                      refine ps_st (S' := (132, [(0, .ref m0), (1, .int (nI p))], [.int ((nI p) + 2), .int 20, .ref m0], M1)) rfl rfl rfl ?_
                      rw [nI_add1 (p := p) (k := 2) (x := 2) rfl (by omega)]
                      show pl _ _ _ (_, [(0, .ref m0), (1, .int (nI p))], [.int (nI (p + 2)), .int 20, .ref m0], M1) _
                      refine pl_call (a := [.ref m0, .int 20, .int (nI (p + 2))]) (rest := []) rfl rfl rfl (rd_wrong (x1 := 20) (x2 := (nI (p + 2))) hR1) (fun v474 M475 q476 => ?_)
                      obtain ⟨I477, R478, rfl, hR479, hI480, hX481, hi482, hi483⟩ := q476
                      have hi484 := (hI480 51 (by decide)).trans hl51
                      have hi485 := (hI480 52 (by decide)).trans hl52
                      have hi486 := (hI480 53 (by decide)).trans hl53
                      have hi487 := (hI480 58 (by decide)).trans hl58
                      have hi488 := (hI480 55 (by decide)).trans hl55
                      have hi489 := (hI480 25 (by decide)).trans hl25
                      have hF_490 := hF1.mono (cIx hI480 (by decide)) (cRx hX481 (by decide))
                      have hY_491 := hY1.mono (cIx hI480 (by decide)) (cRx hX481 (by decide))
                      have hP_492 := hP1.mono (cIx hI480 (by decide)) (cRx hX481 (by decide))
                      have hK_493 := hK1.mono (cIx hI480 (by decide)) (cRx hX481 (by decide))
                      have hN9_494 := hN91.mono (cIx hI480 (by decide)) (cRx hX481 (by decide))
                      have hEI495 := hEI1.tr hI480 (by decide)
                      have hER496 := hER1.tr hX481 (by decide)
                      show pl _ _ _ (135, [(0, .ref m0), (1, .int (nI p))], [.int 0], M475) _
                      exact ps_ret rfl rfl (Or.inr ⟨(20, p + 2), I477, R478, by
                          rw [← hs, flS_st (i := k) (by omega), ← hpk, fh_20 (by have e1 := ffl_0 cf (by2 f p); have e2 := sev_0 (by2 f p); have e3 := hall_80 (by2 f p); omega) (by omega)], rfl, hR479, hEI495, hER496, hi482, hi483⟩)
                · have c_81 : ¬ ((nI (aN (by2 f p) 16607)) = 25) := of_decide_eq_false c_81
                  have n_81 : ¬ (aN (by2 f p) 16607 = 25) := fun h9 => c_81 ((eq_nI (p := aN (by2 f p) 16607) (n := 25) (Nat.lt_of_le_of_lt (an_le _ _) (by decide)) (by decide)).mpr h9)
                  refine ps_st (S' := (85, [(0, .ref m0), (1, .int (nI p))], [.ref m0], M1)) rfl rfl rfl ?_
                  refine ps_st (S' := (87, [(0, .ref m0), (1, .int (nI p))], [.int 19, .ref m0], M1)) rfl rfl rfl ?_
                  refine ps_st (S' := (88, [(0, .ref m0), (1, .int (nI p))], [.int (nI p), .int 19, .ref m0], M1)) rfl rfl rfl ?_
                  refine pl_call (a := [.ref m0, .int 19, .int (nI p)]) (rest := []) rfl rfl rfl (rd_wrong (x1 := 19) (x2 := (nI p)) hR1) (fun v497 M498 q499 => ?_)
                  obtain ⟨I500, R501, rfl, hR502, hI503, hX504, hi505, hi506⟩ := q499
                  have hi507 := (hI503 51 (by decide)).trans hl51
                  have hi508 := (hI503 52 (by decide)).trans hl52
                  have hi509 := (hI503 53 (by decide)).trans hl53
                  have hi510 := (hI503 58 (by decide)).trans hl58
                  have hi511 := (hI503 55 (by decide)).trans hl55
                  have hi512 := (hI503 25 (by decide)).trans hl25
                  have hF_513 := hF1.mono (cIx hI503 (by decide)) (cRx hX504 (by decide))
                  have hY_514 := hY1.mono (cIx hI503 (by decide)) (cRx hX504 (by decide))
                  have hP_515 := hP1.mono (cIx hI503 (by decide)) (cRx hX504 (by decide))
                  have hK_516 := hK1.mono (cIx hI503 (by decide)) (cRx hX504 (by decide))
                  have hN9_517 := hN91.mono (cIx hI503 (by decide)) (cRx hX504 (by decide))
                  have hEI518 := hEI1.tr hI503 (by decide)
                  have hER519 := hER1.tr hX504 (by decide)
                  show pl _ _ _ (91, [(0, .ref m0), (1, .int (nI p))], [.int 0], M498) _
                  exact ps_ret rfl rfl (Or.inr ⟨(19, p), I500, R501, by
                      rw [← hs, flS_st (i := k) (by omega), ← hpk, fh_19 (by have e1 := ffl_0 cf (by2 f p); have e2 := sev_0 (by2 f p); have e3 := hall_80 (by2 f p); omega)], rfl, hR502, hEI518, hER519, hi505, hi506⟩)
            · have c_51 : ¬ ((nI (aN (by2 f p) 16)) = 0) := of_decide_eq_false c_51
              have n_51 : ¬ (aN (by2 f p) 16 = 0) := fun h9 => c_51 ((eq_nI (p := aN (by2 f p) 16) (n := 0) (Nat.lt_of_le_of_lt (an_le _ _) (by decide)) (by decide)).mpr h9)
              refine ps_st (S' := (56, [(5, .int (nI (by2 f p))), (0, .ref m0), (1, .int (nI p)), (2, .int (nI (by2 f pF))), (3, .int (nI f0)), (4, .int (nI k))], [.int (nI (by2 f p))], M1)) rfl rfl rfl ?_
              refine ps_st (S' := (58, [(5, .int (nI (by2 f p))), (0, .ref m0), (1, .int (nI p)), (2, .int (nI (by2 f pF))), (3, .int (nI f0)), (4, .int (nI k))], [.int 64, .int (nI (by2 f p))], M1)) rfl rfl rfl ?_
              refine ps_st (S' := (59, [(5, .int (nI (by2 f p))), (0, .ref m0), (1, .int (nI p)), (2, .int (nI (by2 f pF))), (3, .int (nI f0)), (4, .int (nI k))], [.int ((nI (by2 f p)) &&& 64)], M1)) rfl rfl rfl ?_
              rw [nI_an (p := by2 f p) (k := 64) (x := 64) rfl]
              show pl _ _ _ (_, [(5, .int (nI (by2 f p))), (0, .ref m0), (1, .int (nI p)), (2, .int (nI (by2 f pF))), (3, .int (nI f0)), (4, .int (nI k))], [.int (nI (aN (by2 f p) 64))], M1) _
              refine ps_if (S1 := (84, [(0, .ref m0), (1, .int (nI p))], [], M1)) (S2 := (62, [(0, .ref m0), (1, .int (nI p)), (2, .int (nI (by2 f pF))), (3, .int (nI f0)), (4, .int (nI k)), (5, .int (nI (by2 f p)))], [], M1)) rfl rfl rfl (fun c_59 => ?_) (fun c_59 => ?_)
              · have c_59 : ¬ (nI (aN (by2 f p) 64)) = 0 := of_decide_eq_true c_59
                have n_59 : ¬ (aN (by2 f p) 64 = 0) := fun h9 => c_59 ((eq_nI (p := aN (by2 f p) 64) (n := 0) (Nat.lt_of_le_of_lt (an_le _ _) (by decide)) (by decide)).mpr h9)
                refine ps_st (S' := (85, [(0, .ref m0), (1, .int (nI p))], [.ref m0], M1)) rfl rfl rfl ?_
                refine ps_st (S' := (87, [(0, .ref m0), (1, .int (nI p))], [.int 19, .ref m0], M1)) rfl rfl rfl ?_
                refine ps_st (S' := (88, [(0, .ref m0), (1, .int (nI p))], [.int (nI p), .int 19, .ref m0], M1)) rfl rfl rfl ?_
                refine pl_call (a := [.ref m0, .int 19, .int (nI p)]) (rest := []) rfl rfl rfl (rd_wrong (x1 := 19) (x2 := (nI p)) hR1) (fun v520 M521 q522 => ?_)
                obtain ⟨I523, R524, rfl, hR525, hI526, hX527, hi528, hi529⟩ := q522
                have hi530 := (hI526 51 (by decide)).trans hl51
                have hi531 := (hI526 52 (by decide)).trans hl52
                have hi532 := (hI526 53 (by decide)).trans hl53
                have hi533 := (hI526 58 (by decide)).trans hl58
                have hi534 := (hI526 55 (by decide)).trans hl55
                have hi535 := (hI526 25 (by decide)).trans hl25
                have hF_536 := hF1.mono (cIx hI526 (by decide)) (cRx hX527 (by decide))
                have hY_537 := hY1.mono (cIx hI526 (by decide)) (cRx hX527 (by decide))
                have hP_538 := hP1.mono (cIx hI526 (by decide)) (cRx hX527 (by decide))
                have hK_539 := hK1.mono (cIx hI526 (by decide)) (cRx hX527 (by decide))
                have hN9_540 := hN91.mono (cIx hI526 (by decide)) (cRx hX527 (by decide))
                have hEI541 := hEI1.tr hI526 (by decide)
                have hER542 := hER1.tr hX527 (by decide)
                show pl _ _ _ (91, [(0, .ref m0), (1, .int (nI p))], [.int 0], M521) _
                exact ps_ret rfl rfl (Or.inr ⟨(19, p), I523, R524, by
                    rw [← hs, flS_st (i := k) (by omega), ← hpk, fh_19 (by have e1 := ffl_0 cf (by2 f p); have e2 := sev_0 (by2 f p); have e3 := hall_80 (by2 f p); omega)], rfl, hR525, hEI541, hER542, hi528, hi529⟩)
              · have c_59 : ¬ (¬ (nI (aN (by2 f p) 64)) = 0) := of_decide_eq_false c_59
                have n_59 : aN (by2 f p) 64 = 0 := (eq_nI (p := aN (by2 f p) 64) (n := 0) (Nat.lt_of_le_of_lt (an_le _ _) (by decide)) (by decide)).mp (Decidable.not_not.mp c_59)
                refine ps_st (S' := (63, [(0, .ref m0), (1, .int (nI p)), (2, .int (nI (by2 f pF))), (3, .int (nI f0)), (4, .int (nI k)), (5, .int (nI (by2 f p)))], [.ref m0], M1)) rfl rfl rfl ?_
                refine pr_int (j := 58) (S' := (66, [(0, .ref m0), (1, .int (nI p)), (2, .int (nI (by2 f pF))), (3, .int (nI f0)), (4, .int (nI k)), (5, .int (nI (by2 f p)))], [.int (nI cf)], M1)) rfl hR1 rfl hl58 rfl ?_
                refine ps_st (S' := (69, [(0, .ref m0), (1, .int (nI p)), (2, .int (nI (by2 f pF))), (3, .int (nI f0)), (4, .int (nI k)), (5, .int (nI (by2 f p)))], [.int 512, .int (nI cf)], M1)) rfl rfl rfl ?_
                refine ps_st (S' := (70, [(0, .ref m0), (1, .int (nI p)), (2, .int (nI (by2 f pF))), (3, .int (nI f0)), (4, .int (nI k)), (5, .int (nI (by2 f p)))], [.int ((nI cf) &&& 512)], M1)) rfl rfl rfl ?_
                rw [nI_an (p := cf) (k := 512) (x := 512) rfl]
                show pl _ _ _ (_, [(0, .ref m0), (1, .int (nI p)), (2, .int (nI (by2 f pF))), (3, .int (nI f0)), (4, .int (nI k)), (5, .int (nI (by2 f p)))], [.int (nI (aN cf 512))], M1) _
                refine ps_if (S1 := (92, [(0, .ref m0), (1, .int (nI p)), (2, .int (nI (by2 f pF))), (3, .int (nI f0)), (4, .int (nI k)), (5, .int (nI (by2 f p)))], [], M1)) (S2 := (73, [(0, .ref m0), (1, .int (nI p)), (2, .int (nI (by2 f pF))), (3, .int (nI f0)), (4, .int (nI k)), (5, .int (nI (by2 f p)))], [], M1)) rfl rfl rfl (fun c_70 => ?_) (fun c_70 => ?_)
                · have c_70 : (nI (aN cf 512)) = 0 := of_decide_eq_true c_70
                  have n_70 : aN cf 512 = 0 := (eq_nI (p := aN cf 512) (n := 0) (Nat.lt_of_le_of_lt (an_le _ _) (by decide)) (by decide)).mp c_70
                  refine ps_st (S' := (93, [(0, .ref m0), (1, .int (nI p)), (2, .int (nI (by2 f pF))), (3, .int (nI f0)), (4, .int (nI k)), (5, .int (nI (by2 f p)))], [.ref m0], M1)) rfl rfl rfl ?_
                  refine ps_st (S' := (94, [(0, .ref m0), (1, .int (nI p)), (2, .int (nI (by2 f pF))), (3, .int (nI f0)), (4, .int (nI k)), (5, .int (nI (by2 f p)))], [.ref m0, .ref m0], M1)) rfl rfl rfl ?_
                  refine ps_st (S' := (95, [(0, .ref m0), (1, .int (nI p)), (2, .int (nI (by2 f pF))), (3, .int (nI f0)), (4, .int (nI k)), (5, .int (nI (by2 f p)))], [.int (nI p), .ref m0, .ref m0], M1)) rfl rfl rfl ?_
                  refine ps_st (S' := (96, [(0, .ref m0), (1, .int (nI p)), (2, .int (nI (by2 f pF))), (3, .int (nI f0)), (4, .int (nI k)), (5, .int (nI (by2 f p)))], [.int 2, .int (nI p), .ref m0, .ref m0], M1)) rfl rfl rfl ?_
                  refine ps_st (S' := (97, [(0, .ref m0), (1, .int (nI p)), (2, .int (nI (by2 f pF))), (3, .int (nI f0)), (4, .int (nI k)), (5, .int (nI (by2 f p)))], [.int ((nI p) + 2), .ref m0, .ref m0], M1)) rfl rfl rfl ?_
                  rw [nI_add1 (p := p) (k := 2) (x := 2) rfl (by omega)]
                  show pl _ _ _ (_, [(0, .ref m0), (1, .int (nI p)), (2, .int (nI (by2 f pF))), (3, .int (nI f0)), (4, .int (nI k)), (5, .int (nI (by2 f p)))], [.int (nI (p + 2)), .ref m0, .ref m0], M1) _
                  refine pl_call (a := [.ref m0, .int (nI (p + 2))]) (rest := [.ref m0]) rfl rfl rfl (rd_u2 (n := n) (f := f) (p := (p + 2)) hR1 hF1 (by omega)) (fun v543 M544 q545 => ?_)
                  obtain ⟨rfl, rfl⟩ := q545
                  show pl _ _ _ (100, [(0, .ref m0), (1, .int (nI p)), (2, .int (nI (by2 f pF))), (3, .int (nI f0)), (4, .int (nI k)), (5, .int (nI (by2 f p)))], [.int (nI (by2 f (p + 2))), .ref m0], M1) _
                  have hu_97 := by2_lt f (p + 2)
                  refine pl_call (a := [.ref m0, .int (nI (by2 f (p + 2)))]) (rest := []) rfl rfl rfl (rd_tag (n := n) (f := f) (tx := tx) (cN := cN) (A := A) (N := N) (mj := mj) (E := E) (k := (by2 f (p + 2))) hR1 hl51 hl52 hl53 hF1 hY1 hP1 (hEP) (hN) (hmj) (by2_lt _ _)) (fun v546 M547 q548 => ?_)
                  obtain ⟨rfl, rfl⟩ := q548
                  show pl _ _ _ (103, [(0, .ref m0), (1, .int (nI p)), (2, .int (nI (by2 f pF))), (3, .int (nI f0)), (4, .int (nI k)), (5, .int (nI (by2 f p)))], [.int (nI (tg f E (by2 f (p + 2))))], M1) _
                  have htg_100 := tg_lt f E (by2 f (p + 2))
                  refine ps_st (S' := (104, [(0, .ref m0), (1, .int (nI p)), (2, .int (nI (by2 f pF))), (3, .int (nI f0)), (4, .int (nI k)), (5, .int (nI (by2 f p)))], [.int 1, .int (nI (tg f E (by2 f (p + 2))))], M1)) rfl rfl rfl ?_
                  refine ps_if2 (S1 := (126, [(0, .ref m0), (1, .int (nI p))], [], M1)) (S2 := (107, [(0, .ref m0), (1, .int (nI p)), (2, .int (nI (by2 f pF))), (3, .int (nI f0)), (4, .int (nI k)), (5, .int (nI (by2 f p)))], [], M1)) rfl rfl rfl (fun c_104 => ?_) (fun c_104 => ?_)
                  · have c_104 : ¬ (nI (tg f E (by2 f (p + 2)))) = 1 := of_decide_eq_true c_104
                    have n_104 : ¬ (tg f E (by2 f (p + 2)) = 1) := fun h9 => c_104 ((eq_nI (p := tg f E (by2 f (p + 2))) (n := 1) (Nat.lt_trans (tg_lt _ _ _) (by decide)) (by decide)).mpr h9)
                    refine ps_st (S' := (127, [(0, .ref m0), (1, .int (nI p))], [.ref m0], M1)) rfl rfl rfl ?_
                    refine ps_st (S' := (129, [(0, .ref m0), (1, .int (nI p))], [.int 20, .ref m0], M1)) rfl rfl rfl ?_
                    refine ps_st (S' := (130, [(0, .ref m0), (1, .int (nI p))], [.int (nI p), .int 20, .ref m0], M1)) rfl rfl rfl ?_
                    refine ps_st (S' := (131, [(0, .ref m0), (1, .int (nI p))], [.int 2, .int (nI p), .int 20, .ref m0], M1)) rfl rfl rfl ?_
                    refine ps_st (S' := (132, [(0, .ref m0), (1, .int (nI p))], [.int ((nI p) + 2), .int 20, .ref m0], M1)) rfl rfl rfl ?_
                    rw [nI_add1 (p := p) (k := 2) (x := 2) rfl (by omega)]
                    show pl _ _ _ (_, [(0, .ref m0), (1, .int (nI p))], [.int (nI (p + 2)), .int 20, .ref m0], M1) _
                    refine pl_call (a := [.ref m0, .int 20, .int (nI (p + 2))]) (rest := []) rfl rfl rfl (rd_wrong (x1 := 20) (x2 := (nI (p + 2))) hR1) (fun v549 M550 q551 => ?_)
                    obtain ⟨I552, R553, rfl, hR554, hI555, hX556, hi557, hi558⟩ := q551
                    have hi559 := (hI555 51 (by decide)).trans hl51
                    have hi560 := (hI555 52 (by decide)).trans hl52
                    have hi561 := (hI555 53 (by decide)).trans hl53
                    have hi562 := (hI555 58 (by decide)).trans hl58
                    have hi563 := (hI555 55 (by decide)).trans hl55
                    have hi564 := (hI555 25 (by decide)).trans hl25
                    have hF_565 := hF1.mono (cIx hI555 (by decide)) (cRx hX556 (by decide))
                    have hY_566 := hY1.mono (cIx hI555 (by decide)) (cRx hX556 (by decide))
                    have hP_567 := hP1.mono (cIx hI555 (by decide)) (cRx hX556 (by decide))
                    have hK_568 := hK1.mono (cIx hI555 (by decide)) (cRx hX556 (by decide))
                    have hN9_569 := hN91.mono (cIx hI555 (by decide)) (cRx hX556 (by decide))
                    have hEI570 := hEI1.tr hI555 (by decide)
                    have hER571 := hER1.tr hX556 (by decide)
                    show pl _ _ _ (135, [(0, .ref m0), (1, .int (nI p))], [.int 0], M550) _
                    exact ps_ret rfl rfl (Or.inr ⟨(20, p + 2), I552, R553, by
                        rw [← hs, flS_st (i := k) (by omega), ← hpk, fh_20 (by have e1 := ffl_0 cf (by2 f p); have e2 := sev_0 (by2 f p); have e3 := hall_80 (by2 f p); omega) (by rw [tx_no (by omega)]; decide)], rfl, hR554, hEI570, hER571, hi557, hi558⟩)
                  · have c_104 : ¬ (¬ (nI (tg f E (by2 f (p + 2)))) = 1) := of_decide_eq_false c_104
                    have n_104 : tg f E (by2 f (p + 2)) = 1 := (eq_nI (p := tg f E (by2 f (p + 2))) (n := 1) (Nat.lt_trans (tg_lt _ _ _) (by decide)) (by decide)).mp (Decidable.not_not.mp c_104)
                    refine ps_st (S' := (108, [(0, .ref m0), (1, .int (nI p)), (2, .int (nI (by2 f pF))), (3, .int (nI f0)), (4, .int (nI k)), (5, .int (nI (by2 f p)))], [.ref m0], M1)) rfl rfl rfl ?_
                    refine ps_st (S' := (109, [(0, .ref m0), (1, .int (nI p)), (2, .int (nI (by2 f pF))), (3, .int (nI f0)), (4, .int (nI k)), (5, .int (nI (by2 f p)))], [.ref m0, .ref m0], M1)) rfl rfl rfl ?_
                    refine ps_st (S' := (110, [(0, .ref m0), (1, .int (nI p)), (2, .int (nI (by2 f pF))), (3, .int (nI f0)), (4, .int (nI k)), (5, .int (nI (by2 f p)))], [.ref m0, .ref m0, .ref m0], M1)) rfl rfl rfl ?_
                    refine ps_st (S' := (111, [(0, .ref m0), (1, .int (nI p)), (2, .int (nI (by2 f pF))), (3, .int (nI f0)), (4, .int (nI k)), (5, .int (nI (by2 f p)))], [.int (nI p), .ref m0, .ref m0, .ref m0], M1)) rfl rfl rfl ?_
                    refine ps_st (S' := (112, [(0, .ref m0), (1, .int (nI p)), (2, .int (nI (by2 f pF))), (3, .int (nI f0)), (4, .int (nI k)), (5, .int (nI (by2 f p)))], [.int 2, .int (nI p), .ref m0, .ref m0, .ref m0], M1)) rfl rfl rfl ?_
                    refine ps_st (S' := (113, [(0, .ref m0), (1, .int (nI p)), (2, .int (nI (by2 f pF))), (3, .int (nI f0)), (4, .int (nI k)), (5, .int (nI (by2 f p)))], [.int ((nI p) + 2), .ref m0, .ref m0, .ref m0], M1)) rfl rfl rfl ?_
                    rw [nI_add1 (p := p) (k := 2) (x := 2) rfl (by omega)]
                    show pl _ _ _ (_, [(0, .ref m0), (1, .int (nI p)), (2, .int (nI (by2 f pF))), (3, .int (nI f0)), (4, .int (nI k)), (5, .int (nI (by2 f p)))], [.int (nI (p + 2)), .ref m0, .ref m0, .ref m0], M1) _
                    refine pl_call (a := [.ref m0, .int (nI (p + 2))]) (rest := [.ref m0, .ref m0]) rfl rfl rfl (rd_u2 (n := n) (f := f) (p := (p + 2)) hR1 hF1 (by omega)) (fun v572 M573 q574 => ?_)
                    obtain ⟨rfl, rfl⟩ := q574
                    show pl _ _ _ (116, [(0, .ref m0), (1, .int (nI p)), (2, .int (nI (by2 f pF))), (3, .int (nI f0)), (4, .int (nI k)), (5, .int (nI (by2 f p)))], [.int (nI (by2 f (p + 2))), .ref m0, .ref m0], M1) _
                    have hu_113 := by2_lt f (p + 2)
                    refine pl_call (a := [.ref m0, .int (nI (by2 f (p + 2)))]) (rest := [.ref m0]) rfl rfl rfl (rd_symOf (n := n) (f := f) (tx := tx) (cN := cN) (A := A) (N := N) (mj := mj) (E := E) (k := (by2 f (p + 2))) hR1 hl51 hl52 hl53 hF1 hY1 hP1 (hEP) (hN) (hmj) (by omega)) (fun v575 M576 q577 => ?_)
                    obtain ⟨s578, q116_s, rfl, rfl⟩ := q577
                    show pl _ _ _ (119, [(0, .ref m0), (1, .int (nI p)), (2, .int (nI (by2 f pF))), (3, .int (nI f0)), (4, .int (nI k)), (5, .int (nI (by2 f p)))], [.int (nI s578), .ref m0], M1) _
                    have hsl_116 := q116_s.1
                    have htl_116 := hY1.1.2.2.1
                    refine ps_st (S' := (120, [(0, .ref m0), (1, .int (nI p)), (2, .int (nI (by2 f pF))), (3, .int (nI f0)), (4, .int (nI k)), (5, .int (nI (by2 f p)))], [.int 1, .int (nI s578), .ref m0], M1)) rfl rfl rfl ?_
                    refine pl_call (a := [.ref m0, .int (nI s578), .int 1]) (rest := []) rfl rfl rfl (rd_unq1 (tx := tx) (cN := cN) (A := A) (s := s578) (l := (tX f n E (by2 f (p + 2)))) hR1 hY1 (q116_s)) (fun v579 M580 q581 => ?_)
                    obtain ⟨rfl, rfl⟩ := q581
                    show pl _ _ _ (123, [(0, .ref m0), (1, .int (nI p)), (2, .int (nI (by2 f pF))), (3, .int (nI f0)), (4, .int (nI k)), (5, .int (nI (by2 f p)))], [.int (nI (unqN (tX f n E (by2 f (p + 2)))))], M1) _
                    refine ps_if (S1 := (136, [(0, .ref m0), (1, .int (nI p)), (2, .int (nI (by2 f pF))), (3, .int (nI f0)), (4, .int (nI k)), (5, .int (nI (by2 f p)))], [], M1)) (S2 := (126, [(0, .ref m0), (1, .int (nI p))], [], M1)) rfl rfl rfl (fun c_123 => ?_) (fun c_123 => ?_)
                    · have c_123 : ¬ (nI (unqN (tX f n E (by2 f (p + 2))))) = 0 := of_decide_eq_true c_123
                      have n_123 : ¬ (unqN (tX f n E (by2 f (p + 2))) = 0) := fun h9 => c_123 ((eq_nI (p := unqN (tX f n E (by2 f (p + 2)))) (n := 0) (Nat.lt_trans (le1_unq _) (by decide)) (by decide)).mpr h9)
                      refine ps_st (S' := (137, [(0, .ref m0), (1, .int (nI p)), (2, .int (nI (by2 f pF))), (3, .int (nI f0)), (4, .int (nI k)), (5, .int (nI (by2 f p)))], [.ref m0], M1)) rfl rfl rfl ?_
                      refine ps_st (S' := (138, [(0, .ref m0), (1, .int (nI p)), (2, .int (nI (by2 f pF))), (3, .int (nI f0)), (4, .int (nI k)), (5, .int (nI (by2 f p)))], [.ref m0, .ref m0], M1)) rfl rfl rfl ?_
                      refine ps_st (S' := (139, [(0, .ref m0), (1, .int (nI p)), (2, .int (nI (by2 f pF))), (3, .int (nI f0)), (4, .int (nI k)), (5, .int (nI (by2 f p)))], [.int (nI p), .ref m0, .ref m0], M1)) rfl rfl rfl ?_
                      refine ps_st (S' := (140, [(0, .ref m0), (1, .int (nI p)), (2, .int (nI (by2 f pF))), (3, .int (nI f0)), (4, .int (nI k)), (5, .int (nI (by2 f p)))], [.int 4, .int (nI p), .ref m0, .ref m0], M1)) rfl rfl rfl ?_
                      refine ps_st (S' := (141, [(0, .ref m0), (1, .int (nI p)), (2, .int (nI (by2 f pF))), (3, .int (nI f0)), (4, .int (nI k)), (5, .int (nI (by2 f p)))], [.int ((nI p) + 4), .ref m0, .ref m0], M1)) rfl rfl rfl ?_
                      rw [nI_add1 (p := p) (k := 4) (x := 4) rfl (by omega)]
                      show pl _ _ _ (_, [(0, .ref m0), (1, .int (nI p)), (2, .int (nI (by2 f pF))), (3, .int (nI f0)), (4, .int (nI k)), (5, .int (nI (by2 f p)))], [.int (nI (p + 4)), .ref m0, .ref m0], M1) _
                      refine pl_call (a := [.ref m0, .int (nI (p + 4))]) (rest := [.ref m0]) rfl rfl rfl (rd_u2 (n := n) (f := f) (p := (p + 4)) hR1 hF1 (by omega)) (fun v582 M583 q584 => ?_)
                      obtain ⟨rfl, rfl⟩ := q584
                      show pl _ _ _ (144, [(0, .ref m0), (1, .int (nI p)), (2, .int (nI (by2 f pF))), (3, .int (nI f0)), (4, .int (nI k)), (5, .int (nI (by2 f p)))], [.int (nI (by2 f (p + 4))), .ref m0], M1) _
                      have hu_141 := by2_lt f (p + 4)
                      refine pl_call (a := [.ref m0, .int (nI (by2 f (p + 4)))]) (rest := []) rfl rfl rfl (rd_tag (n := n) (f := f) (tx := tx) (cN := cN) (A := A) (N := N) (mj := mj) (E := E) (k := (by2 f (p + 4))) hR1 hl51 hl52 hl53 hF1 hY1 hP1 (hEP) (hN) (hmj) (by2_lt _ _)) (fun v585 M586 q587 => ?_)
                      obtain ⟨rfl, rfl⟩ := q587
                      show pl _ _ _ (147, [(0, .ref m0), (1, .int (nI p)), (2, .int (nI (by2 f pF))), (3, .int (nI f0)), (4, .int (nI k)), (5, .int (nI (by2 f p)))], [.int (nI (tg f E (by2 f (p + 4))))], M1) _
                      have htg_144 := tg_lt f E (by2 f (p + 4))
                      refine ps_st (S' := (148, [(0, .ref m0), (1, .int (nI p)), (2, .int (nI (by2 f pF))), (3, .int (nI f0)), (4, .int (nI k)), (5, .int (nI (by2 f p)))], [.int 1, .int (nI (tg f E (by2 f (p + 4))))], M1)) rfl rfl rfl ?_
                      refine ps_if2 (S1 := (169, [(0, .ref m0), (1, .int (nI p))], [], M1)) (S2 := (151, [(0, .ref m0), (1, .int (nI p)), (2, .int (nI (by2 f pF))), (3, .int (nI f0)), (4, .int (nI k)), (5, .int (nI (by2 f p)))], [], M1)) rfl rfl rfl (fun c_148 => ?_) (fun c_148 => ?_)
                      · have c_148 : ¬ (nI (tg f E (by2 f (p + 4)))) = 1 := of_decide_eq_true c_148
                        have n_148 : ¬ (tg f E (by2 f (p + 4)) = 1) := fun h9 => c_148 ((eq_nI (p := tg f E (by2 f (p + 4))) (n := 1) (Nat.lt_trans (tg_lt _ _ _) (by decide)) (by decide)).mpr h9)
                        refine ps_st (S' := (170, [(0, .ref m0), (1, .int (nI p))], [.ref m0], M1)) rfl rfl rfl ?_
                        refine ps_st (S' := (172, [(0, .ref m0), (1, .int (nI p))], [.int 21, .ref m0], M1)) rfl rfl rfl ?_
                        refine ps_st (S' := (173, [(0, .ref m0), (1, .int (nI p))], [.int (nI p), .int 21, .ref m0], M1)) rfl rfl rfl ?_
                        refine ps_st (S' := (174, [(0, .ref m0), (1, .int (nI p))], [.int 4, .int (nI p), .int 21, .ref m0], M1)) rfl rfl rfl ?_
                        refine ps_st (S' := (175, [(0, .ref m0), (1, .int (nI p))], [.int ((nI p) + 4), .int 21, .ref m0], M1)) rfl rfl rfl ?_
                        rw [nI_add1 (p := p) (k := 4) (x := 4) rfl (by omega)]
                        show pl _ _ _ (_, [(0, .ref m0), (1, .int (nI p))], [.int (nI (p + 4)), .int 21, .ref m0], M1) _
                        refine pl_call (a := [.ref m0, .int 21, .int (nI (p + 4))]) (rest := []) rfl rfl rfl (rd_wrong (x1 := 21) (x2 := (nI (p + 4))) hR1) (fun v588 M589 q590 => ?_)
                        obtain ⟨I591, R592, rfl, hR593, hI594, hX595, hi596, hi597⟩ := q590
                        have hi598 := (hI594 51 (by decide)).trans hl51
                        have hi599 := (hI594 52 (by decide)).trans hl52
                        have hi600 := (hI594 53 (by decide)).trans hl53
                        have hi601 := (hI594 58 (by decide)).trans hl58
                        have hi602 := (hI594 55 (by decide)).trans hl55
                        have hi603 := (hI594 25 (by decide)).trans hl25
                        have hF_604 := hF1.mono (cIx hI594 (by decide)) (cRx hX595 (by decide))
                        have hY_605 := hY1.mono (cIx hI594 (by decide)) (cRx hX595 (by decide))
                        have hP_606 := hP1.mono (cIx hI594 (by decide)) (cRx hX595 (by decide))
                        have hK_607 := hK1.mono (cIx hI594 (by decide)) (cRx hX595 (by decide))
                        have hN9_608 := hN91.mono (cIx hI594 (by decide)) (cRx hX595 (by decide))
                        have hEI609 := hEI1.tr hI594 (by decide)
                        have hER610 := hER1.tr hX595 (by decide)
                        show pl _ _ _ (178, [(0, .ref m0), (1, .int (nI p))], [.int 0], M589) _
                        exact ps_ret rfl rfl (Or.inr ⟨(21, p + 4), I591, R592, by
                            rw [← hs, flS_st (i := k) (by omega), ← hpk, fh_21 (by have e1 := ffl_0 cf (by2 f p); have e2 := sev_0 (by2 f p); have e3 := hall_80 (by2 f p); omega) (by omega) (by rw [tx_no (by omega)]; decide)], rfl, hR593, hEI609, hER610, hi596, hi597⟩)
                      · have c_148 : ¬ (¬ (nI (tg f E (by2 f (p + 4)))) = 1) := of_decide_eq_false c_148
                        have n_148 : tg f E (by2 f (p + 4)) = 1 := (eq_nI (p := tg f E (by2 f (p + 4))) (n := 1) (Nat.lt_trans (tg_lt _ _ _) (by decide)) (by decide)).mp (Decidable.not_not.mp c_148)
                        refine ps_st (S' := (152, [(0, .ref m0), (1, .int (nI p)), (2, .int (nI (by2 f pF))), (3, .int (nI f0)), (4, .int (nI k)), (5, .int (nI (by2 f p)))], [.ref m0], M1)) rfl rfl rfl ?_
                        refine ps_st (S' := (153, [(0, .ref m0), (1, .int (nI p)), (2, .int (nI (by2 f pF))), (3, .int (nI f0)), (4, .int (nI k)), (5, .int (nI (by2 f p)))], [.ref m0, .ref m0], M1)) rfl rfl rfl ?_
                        refine ps_st (S' := (154, [(0, .ref m0), (1, .int (nI p)), (2, .int (nI (by2 f pF))), (3, .int (nI f0)), (4, .int (nI k)), (5, .int (nI (by2 f p)))], [.ref m0, .ref m0, .ref m0], M1)) rfl rfl rfl ?_
                        refine ps_st (S' := (155, [(0, .ref m0), (1, .int (nI p)), (2, .int (nI (by2 f pF))), (3, .int (nI f0)), (4, .int (nI k)), (5, .int (nI (by2 f p)))], [.int (nI p), .ref m0, .ref m0, .ref m0], M1)) rfl rfl rfl ?_
                        refine ps_st (S' := (156, [(0, .ref m0), (1, .int (nI p)), (2, .int (nI (by2 f pF))), (3, .int (nI f0)), (4, .int (nI k)), (5, .int (nI (by2 f p)))], [.int 4, .int (nI p), .ref m0, .ref m0, .ref m0], M1)) rfl rfl rfl ?_
                        refine ps_st (S' := (157, [(0, .ref m0), (1, .int (nI p)), (2, .int (nI (by2 f pF))), (3, .int (nI f0)), (4, .int (nI k)), (5, .int (nI (by2 f p)))], [.int ((nI p) + 4), .ref m0, .ref m0, .ref m0], M1)) rfl rfl rfl ?_
                        rw [nI_add1 (p := p) (k := 4) (x := 4) rfl (by omega)]
                        show pl _ _ _ (_, [(0, .ref m0), (1, .int (nI p)), (2, .int (nI (by2 f pF))), (3, .int (nI f0)), (4, .int (nI k)), (5, .int (nI (by2 f p)))], [.int (nI (p + 4)), .ref m0, .ref m0, .ref m0], M1) _
                        refine pl_call (a := [.ref m0, .int (nI (p + 4))]) (rest := [.ref m0, .ref m0]) rfl rfl rfl (rd_u2 (n := n) (f := f) (p := (p + 4)) hR1 hF1 (by omega)) (fun v611 M612 q613 => ?_)
                        obtain ⟨rfl, rfl⟩ := q613
                        show pl _ _ _ (160, [(0, .ref m0), (1, .int (nI p)), (2, .int (nI (by2 f pF))), (3, .int (nI f0)), (4, .int (nI k)), (5, .int (nI (by2 f p)))], [.int (nI (by2 f (p + 4))), .ref m0, .ref m0], M1) _
                        have hu_157 := by2_lt f (p + 4)
                        refine pl_call (a := [.ref m0, .int (nI (by2 f (p + 4)))]) (rest := [.ref m0]) rfl rfl rfl (rd_symOf (n := n) (f := f) (tx := tx) (cN := cN) (A := A) (N := N) (mj := mj) (E := E) (k := (by2 f (p + 4))) hR1 hl51 hl52 hl53 hF1 hY1 hP1 (hEP) (hN) (hmj) (by omega)) (fun v614 M615 q616 => ?_)
                        obtain ⟨s617, q160_s, rfl, rfl⟩ := q616
                        show pl _ _ _ (163, [(0, .ref m0), (1, .int (nI p)), (2, .int (nI (by2 f pF))), (3, .int (nI f0)), (4, .int (nI k)), (5, .int (nI (by2 f p)))], [.int (nI s617), .ref m0], M1) _
                        have hsl_160 := q160_s.1
                        have htl_160 := hY1.1.2.2.1
                        refine pl_call (a := [.ref m0, .int (nI s617)]) (rest := []) rfl rfl rfl (rd_isField (tx := tx) (cN := cN) (A := A) (s := s617) (l := (tX f n E (by2 f (p + 4)))) hR1 hY1 (q160_s)) (fun v618 M619 q620 => ?_)
                        obtain ⟨rfl, rfl⟩ := q620
                        show pl _ _ _ (166, [(0, .ref m0), (1, .int (nI p)), (2, .int (nI (by2 f pF))), (3, .int (nI f0)), (4, .int (nI k)), (5, .int (nI (by2 f p)))], [.int (nI (fldN (tX f n E (by2 f (p + 4)))))], M1) _
                        refine ps_if (S1 := (179, [(0, .ref m0), (1, .int (nI p)), (2, .int (nI (by2 f pF))), (3, .int (nI f0)), (4, .int (nI k)), (5, .int (nI (by2 f p)))], [], M1)) (S2 := (169, [(0, .ref m0), (1, .int (nI p))], [], M1)) rfl rfl rfl (fun c_166 => ?_) (fun c_166 => ?_)
                        · have c_166 : ¬ (nI (fldN (tX f n E (by2 f (p + 4))))) = 0 := of_decide_eq_true c_166
                          have n_166 : ¬ (fldN (tX f n E (by2 f (p + 4))) = 0) := fun h9 => c_166 ((eq_nI (p := fldN (tX f n E (by2 f (p + 4)))) (n := 0) (Nat.lt_trans (le1_fld _) (by decide)) (by decide)).mpr h9)
                          refine ps_st (S' := (180, [(0, .ref m0), (1, .int (nI p)), (2, .int (nI (by2 f pF))), (3, .int (nI f0)), (4, .int (nI k)), (5, .int (nI (by2 f p)))], [.ref m0], M1)) rfl rfl rfl ?_
                          refine pr_int (j := 25) (S' := (183, [(0, .ref m0), (1, .int (nI p)), (2, .int (nI (by2 f pF))), (3, .int (nI f0)), (4, .int (nI k)), (5, .int (nI (by2 f p)))], [.int (nI (f0 + k))], M1)) rfl hR1 rfl hl25 rfl ?_
                          refine ps_st (S' := (185, [(6, .int (nI (f0 + k))), (0, .ref m0), (1, .int (nI p)), (2, .int (nI (by2 f pF))), (3, .int (nI f0)), (4, .int (nI k)), (5, .int (nI (by2 f p)))], [], M1)) rfl rfl rfl ?_
                          refine ps_st (S' := (186, [(6, .int (nI (f0 + k))), (0, .ref m0), (1, .int (nI p)), (2, .int (nI (by2 f pF))), (3, .int (nI f0)), (4, .int (nI k)), (5, .int (nI (by2 f p)))], [.ref m0], M1)) rfl rfl rfl ?_
                          refine pr_ref (j := 27) (S' := (189, [(6, .int (nI (f0 + k))), (0, .ref m0), (1, .int (nI p)), (2, .int (nI (by2 f pF))), (3, .int (nI f0)), (4, .int (nI k)), (5, .int (nI (by2 f p)))], [.ref (q 27)], M1)) rfl hR1 rfl rfl ?_
                          refine ps_st (S' := (191, [(6, .int (nI (f0 + k))), (0, .ref m0), (1, .int (nI p)), (2, .int (nI (by2 f pF))), (3, .int (nI f0)), (4, .int (nI k)), (5, .int (nI (by2 f p)))], [.int (nI (f0 + k)), .ref (q 27)], M1)) rfl rfl rfl ?_
                          refine ps_st (S' := (193, [(6, .int (nI (f0 + k))), (0, .ref m0), (1, .int (nI p)), (2, .int (nI (by2 f pF))), (3, .int (nI f0)), (4, .int (nI k)), (5, .int (nI (by2 f p)))], [.int (nI (by2 f p)), .int (nI (f0 + k)), .ref (q 27)], M1)) rfl rfl rfl ?_
                          refine pr_st (a := 27) (j := f0 + k) rfl hR1 rfl (by omega) (fun M621 R622 i1_193 hR623 hS624 => ?_)
                          have hF_625 := hF1.mono (fun _ _ => rfl) (rRx hS624 (by decide))
                          have hY_626 := hY1.mono (fun _ _ => rfl) (rRx hS624 (by decide))
                          have hP_627 := hP1.mono (fun _ _ => rfl) (rRx hS624 (by decide))
                          have hK_628 := hK1.mono (fun _ _ => rfl) (rRx hS624 (by decide))
                          have hN9_629 := hN91.mono (fun _ _ => rfl) (rRx hS624 (by decide))
                          have hER630 := hER1.st hS624 (by decide)
                          show pl _ _ _ (194, [(6, .int (nI (f0 + k))), (0, .ref m0), (1, .int (nI p)), (2, .int (nI (by2 f pF))), (3, .int (nI f0)), (4, .int (nI k)), (5, .int (nI (by2 f p)))], [], M621) _
                          have c27_631 : CE 27 (f0 + k) (nI (by2 f p)) I1 R622 := CE.st hS624
                          refine ps_st (S' := (195, [(6, .int (nI (f0 + k))), (0, .ref m0), (1, .int (nI p)), (2, .int (nI (by2 f pF))), (3, .int (nI f0)), (4, .int (nI k)), (5, .int (nI (by2 f p)))], [.ref m0], M621)) rfl rfl rfl ?_
                          refine pr_ref (j := 28) (S' := (198, [(6, .int (nI (f0 + k))), (0, .ref m0), (1, .int (nI p)), (2, .int (nI (by2 f pF))), (3, .int (nI f0)), (4, .int (nI k)), (5, .int (nI (by2 f p)))], [.ref (q 28)], M621)) rfl hR623 rfl rfl ?_
                          refine ps_st (S' := (200, [(6, .int (nI (f0 + k))), (0, .ref m0), (1, .int (nI p)), (2, .int (nI (by2 f pF))), (3, .int (nI f0)), (4, .int (nI k)), (5, .int (nI (by2 f p)))], [.int (nI (f0 + k)), .ref (q 28)], M621)) rfl rfl rfl ?_
                          refine ps_st (S' := (201, [(6, .int (nI (f0 + k))), (0, .ref m0), (1, .int (nI p)), (2, .int (nI (by2 f pF))), (3, .int (nI f0)), (4, .int (nI k)), (5, .int (nI (by2 f p)))], [.ref m0, .int (nI (f0 + k)), .ref (q 28)], M621)) rfl rfl rfl ?_
                          refine ps_st (S' := (202, [(6, .int (nI (f0 + k))), (0, .ref m0), (1, .int (nI p)), (2, .int (nI (by2 f pF))), (3, .int (nI f0)), (4, .int (nI k)), (5, .int (nI (by2 f p)))], [.ref m0, .ref m0, .int (nI (f0 + k)), .ref (q 28)], M621)) rfl rfl rfl ?_
                          refine ps_st (S' := (203, [(6, .int (nI (f0 + k))), (0, .ref m0), (1, .int (nI p)), (2, .int (nI (by2 f pF))), (3, .int (nI f0)), (4, .int (nI k)), (5, .int (nI (by2 f p)))], [.int (nI p), .ref m0, .ref m0, .int (nI (f0 + k)), .ref (q 28)], M621)) rfl rfl rfl ?_
                          refine ps_st (S' := (204, [(6, .int (nI (f0 + k))), (0, .ref m0), (1, .int (nI p)), (2, .int (nI (by2 f pF))), (3, .int (nI f0)), (4, .int (nI k)), (5, .int (nI (by2 f p)))], [.int 2, .int (nI p), .ref m0, .ref m0, .int (nI (f0 + k)), .ref (q 28)], M621)) rfl rfl rfl ?_
                          refine ps_st (S' := (205, [(6, .int (nI (f0 + k))), (0, .ref m0), (1, .int (nI p)), (2, .int (nI (by2 f pF))), (3, .int (nI f0)), (4, .int (nI k)), (5, .int (nI (by2 f p)))], [.int ((nI p) + 2), .ref m0, .ref m0, .int (nI (f0 + k)), .ref (q 28)], M621)) rfl rfl rfl ?_
                          rw [nI_add1 (p := p) (k := 2) (x := 2) rfl (by omega)]
                          show pl _ _ _ (_, [(6, .int (nI (f0 + k))), (0, .ref m0), (1, .int (nI p)), (2, .int (nI (by2 f pF))), (3, .int (nI f0)), (4, .int (nI k)), (5, .int (nI (by2 f p)))], [.int (nI (p + 2)), .ref m0, .ref m0, .int (nI (f0 + k)), .ref (q 28)], M621) _
                          refine pl_call (a := [.ref m0, .int (nI (p + 2))]) (rest := [.ref m0, .int (nI (f0 + k)), .ref (q 28)]) rfl rfl rfl (rd_u2 (n := n) (f := f) (p := (p + 2)) hR623 hF_625 (by omega)) (fun v632 M633 q634 => ?_)
                          obtain ⟨rfl, rfl⟩ := q634
                          show pl _ _ _ (208, [(6, .int (nI (f0 + k))), (0, .ref m0), (1, .int (nI p)), (2, .int (nI (by2 f pF))), (3, .int (nI f0)), (4, .int (nI k)), (5, .int (nI (by2 f p)))], [.int (nI (by2 f (p + 2))), .ref m0, .int (nI (f0 + k)), .ref (q 28)], M621) _
                          have hu_205 := by2_lt f (p + 2)
                          refine pl_call (a := [.ref m0, .int (nI (by2 f (p + 2)))]) (rest := [.int (nI (f0 + k)), .ref (q 28)]) rfl rfl rfl (rd_symOf (n := n) (f := f) (tx := tx) (cN := cN) (A := A) (N := N) (mj := mj) (E := E) (k := (by2 f (p + 2))) hR623 hl51 hl52 hl53 hF_625 hY_626 hP_627 (hEP) (hN) (hmj) (by omega)) (fun v635 M636 q637 => ?_)
                          obtain ⟨s638, q208_s, rfl, rfl⟩ := q637
                          show pl _ _ _ (211, [(6, .int (nI (f0 + k))), (0, .ref m0), (1, .int (nI p)), (2, .int (nI (by2 f pF))), (3, .int (nI f0)), (4, .int (nI k)), (5, .int (nI (by2 f p)))], [.int (nI s638), .int (nI (f0 + k)), .ref (q 28)], M621) _
                          have hsl_208 := q208_s.1
                          have htl_208 := hY_626.1.2.2.1
                          refine pr_st (a := 28) (j := f0 + k) rfl hR623 rfl (by omega) (fun M639 R640 i1_211 hR641 hS642 => ?_)
                          have hF_643 := hF_625.mono (fun _ _ => rfl) (rRx hS642 (by decide))
                          have hY_644 := hY_626.mono (fun _ _ => rfl) (rRx hS642 (by decide))
                          have hP_645 := hP_627.mono (fun _ _ => rfl) (rRx hS642 (by decide))
                          have hK_646 := hK_628.mono (fun _ _ => rfl) (rRx hS642 (by decide))
                          have c27_647 := c27_631.mono (fun _ _ => rfl) (rRx hS642 (by decide))
                          have hER648 := hER630.st hS642 (by decide)
                          show pl _ _ _ (212, [(6, .int (nI (f0 + k))), (0, .ref m0), (1, .int (nI p)), (2, .int (nI (by2 f pF))), (3, .int (nI f0)), (4, .int (nI k)), (5, .int (nI (by2 f p)))], [], M639) _
                          have c28_649 : CE 28 (f0 + k) (nI s638) I1 R640 := CE.st hS642
                          have hN9_650 := FN.st (I' := I1) hN9_629 hS642 rfl
                          refine ps_st (S' := (213, [(6, .int (nI (f0 + k))), (0, .ref m0), (1, .int (nI p)), (2, .int (nI (by2 f pF))), (3, .int (nI f0)), (4, .int (nI k)), (5, .int (nI (by2 f p)))], [.ref m0], M639)) rfl rfl rfl ?_
                          refine pr_ref (j := 29) (S' := (216, [(6, .int (nI (f0 + k))), (0, .ref m0), (1, .int (nI p)), (2, .int (nI (by2 f pF))), (3, .int (nI f0)), (4, .int (nI k)), (5, .int (nI (by2 f p)))], [.ref (q 29)], M639)) rfl hR641 rfl rfl ?_
                          refine ps_st (S' := (218, [(6, .int (nI (f0 + k))), (0, .ref m0), (1, .int (nI p)), (2, .int (nI (by2 f pF))), (3, .int (nI f0)), (4, .int (nI k)), (5, .int (nI (by2 f p)))], [.int (nI (f0 + k)), .ref (q 29)], M639)) rfl rfl rfl ?_
                          refine ps_st (S' := (219, [(6, .int (nI (f0 + k))), (0, .ref m0), (1, .int (nI p)), (2, .int (nI (by2 f pF))), (3, .int (nI f0)), (4, .int (nI k)), (5, .int (nI (by2 f p)))], [.ref m0, .int (nI (f0 + k)), .ref (q 29)], M639)) rfl rfl rfl ?_
                          refine ps_st (S' := (220, [(6, .int (nI (f0 + k))), (0, .ref m0), (1, .int (nI p)), (2, .int (nI (by2 f pF))), (3, .int (nI f0)), (4, .int (nI k)), (5, .int (nI (by2 f p)))], [.ref m0, .ref m0, .int (nI (f0 + k)), .ref (q 29)], M639)) rfl rfl rfl ?_
                          refine ps_st (S' := (221, [(6, .int (nI (f0 + k))), (0, .ref m0), (1, .int (nI p)), (2, .int (nI (by2 f pF))), (3, .int (nI f0)), (4, .int (nI k)), (5, .int (nI (by2 f p)))], [.int (nI p), .ref m0, .ref m0, .int (nI (f0 + k)), .ref (q 29)], M639)) rfl rfl rfl ?_
                          refine ps_st (S' := (222, [(6, .int (nI (f0 + k))), (0, .ref m0), (1, .int (nI p)), (2, .int (nI (by2 f pF))), (3, .int (nI f0)), (4, .int (nI k)), (5, .int (nI (by2 f p)))], [.int 4, .int (nI p), .ref m0, .ref m0, .int (nI (f0 + k)), .ref (q 29)], M639)) rfl rfl rfl ?_
                          refine ps_st (S' := (223, [(6, .int (nI (f0 + k))), (0, .ref m0), (1, .int (nI p)), (2, .int (nI (by2 f pF))), (3, .int (nI f0)), (4, .int (nI k)), (5, .int (nI (by2 f p)))], [.int ((nI p) + 4), .ref m0, .ref m0, .int (nI (f0 + k)), .ref (q 29)], M639)) rfl rfl rfl ?_
                          rw [nI_add1 (p := p) (k := 4) (x := 4) rfl (by omega)]
                          show pl _ _ _ (_, [(6, .int (nI (f0 + k))), (0, .ref m0), (1, .int (nI p)), (2, .int (nI (by2 f pF))), (3, .int (nI f0)), (4, .int (nI k)), (5, .int (nI (by2 f p)))], [.int (nI (p + 4)), .ref m0, .ref m0, .int (nI (f0 + k)), .ref (q 29)], M639) _
                          refine pl_call (a := [.ref m0, .int (nI (p + 4))]) (rest := [.ref m0, .int (nI (f0 + k)), .ref (q 29)]) rfl rfl rfl (rd_u2 (n := n) (f := f) (p := (p + 4)) hR641 hF_643 (by omega)) (fun v651 M652 q653 => ?_)
                          obtain ⟨rfl, rfl⟩ := q653
                          show pl _ _ _ (226, [(6, .int (nI (f0 + k))), (0, .ref m0), (1, .int (nI p)), (2, .int (nI (by2 f pF))), (3, .int (nI f0)), (4, .int (nI k)), (5, .int (nI (by2 f p)))], [.int (nI (by2 f (p + 4))), .ref m0, .int (nI (f0 + k)), .ref (q 29)], M639) _
                          have hu_223 := by2_lt f (p + 4)
                          refine pl_call (a := [.ref m0, .int (nI (by2 f (p + 4)))]) (rest := [.int (nI (f0 + k)), .ref (q 29)]) rfl rfl rfl (rd_symOf (n := n) (f := f) (tx := tx) (cN := cN) (A := A) (N := N) (mj := mj) (E := E) (k := (by2 f (p + 4))) hR641 hl51 hl52 hl53 hF_643 hY_644 hP_645 (hEP) (hN) (hmj) (by omega)) (fun v654 M655 q656 => ?_)
                          obtain ⟨s657, q226_s, rfl, rfl⟩ := q656
                          show pl _ _ _ (229, [(6, .int (nI (f0 + k))), (0, .ref m0), (1, .int (nI p)), (2, .int (nI (by2 f pF))), (3, .int (nI f0)), (4, .int (nI k)), (5, .int (nI (by2 f p)))], [.int (nI s657), .int (nI (f0 + k)), .ref (q 29)], M639) _
                          have hsl_226 := q226_s.1
                          have htl_226 := hY_644.1.2.2.1
                          refine pr_st (a := 29) (j := f0 + k) rfl hR641 rfl (by omega) (fun M658 R659 i1_229 hR660 hS661 => ?_)
                          have hF_662 := hF_643.mono (fun _ _ => rfl) (rRx hS661 (by decide))
                          have hY_663 := hY_644.mono (fun _ _ => rfl) (rRx hS661 (by decide))
                          have hP_664 := hP_645.mono (fun _ _ => rfl) (rRx hS661 (by decide))
                          have hK_665 := hK_646.mono (fun _ _ => rfl) (rRx hS661 (by decide))
                          have c27_666 := c27_647.mono (fun _ _ => rfl) (rRx hS661 (by decide))
                          have c28_667 := c28_649.mono (fun _ _ => rfl) (rRx hS661 (by decide))
                          have hER668 := hER648.st hS661 (by decide)
                          show pl _ _ _ (230, [(6, .int (nI (f0 + k))), (0, .ref m0), (1, .int (nI p)), (2, .int (nI (by2 f pF))), (3, .int (nI f0)), (4, .int (nI k)), (5, .int (nI (by2 f p)))], [], M658) _
                          have c29_669 : CE 29 (f0 + k) (nI s657) I1 R659 := CE.st hS661
                          have hN9_670 := FN.st (I' := I1) hN9_650 hS661 rfl
                          refine ps_st (S' := (231, [(6, .int (nI (f0 + k))), (0, .ref m0), (1, .int (nI p)), (2, .int (nI (by2 f pF))), (3, .int (nI f0)), (4, .int (nI k)), (5, .int (nI (by2 f p)))], [.ref m0], M658)) rfl rfl rfl ?_
                          refine pr_ref (j := 30) (S' := (234, [(6, .int (nI (f0 + k))), (0, .ref m0), (1, .int (nI p)), (2, .int (nI (by2 f pF))), (3, .int (nI f0)), (4, .int (nI k)), (5, .int (nI (by2 f p)))], [.ref (q 30)], M658)) rfl hR660 rfl rfl ?_
                          refine ps_st (S' := (236, [(6, .int (nI (f0 + k))), (0, .ref m0), (1, .int (nI p)), (2, .int (nI (by2 f pF))), (3, .int (nI f0)), (4, .int (nI k)), (5, .int (nI (by2 f p)))], [.int (nI (f0 + k)), .ref (q 30)], M658)) rfl rfl rfl ?_
                          refine ps_st (S' := (237, [(6, .int (nI (f0 + k))), (0, .ref m0), (1, .int (nI p)), (2, .int (nI (by2 f pF))), (3, .int (nI f0)), (4, .int (nI k)), (5, .int (nI (by2 f p)))], [.int 0, .int (nI (f0 + k)), .ref (q 30)], M658)) rfl rfl rfl ?_
                          refine pr_st (a := 30) (j := f0 + k) rfl hR660 rfl (by omega) (fun M671 R672 i1_237 hR673 hS674 => ?_)
                          have hF_675 := hF_662.mono (fun _ _ => rfl) (rRx hS674 (by decide))
                          have hY_676 := hY_663.mono (fun _ _ => rfl) (rRx hS674 (by decide))
                          have hP_677 := hP_664.mono (fun _ _ => rfl) (rRx hS674 (by decide))
                          have hK_678 := hK_665.mono (fun _ _ => rfl) (rRx hS674 (by decide))
                          have c27_679 := c27_666.mono (fun _ _ => rfl) (rRx hS674 (by decide))
                          have c28_680 := c28_667.mono (fun _ _ => rfl) (rRx hS674 (by decide))
                          have c29_681 := c29_669.mono (fun _ _ => rfl) (rRx hS674 (by decide))
                          have hN9_682 := hN9_670.mono (fun _ _ => rfl) (rRx hS674 (by decide))
                          have hER683 := hER668.st hS674 (by decide)
                          show pl _ _ _ (238, [(6, .int (nI (f0 + k))), (0, .ref m0), (1, .int (nI p)), (2, .int (nI (by2 f pF))), (3, .int (nI f0)), (4, .int (nI k)), (5, .int (nI (by2 f p)))], [], M671) _
                          refine ps_st (S' := (239, [(6, .int (nI (f0 + k))), (0, .ref m0), (1, .int (nI p)), (2, .int (nI (by2 f pF))), (3, .int (nI f0)), (4, .int (nI k)), (5, .int (nI (by2 f p)))], [.ref m0], M671)) rfl rfl rfl ?_
                          refine pr_ref (j := 31) (S' := (242, [(6, .int (nI (f0 + k))), (0, .ref m0), (1, .int (nI p)), (2, .int (nI (by2 f pF))), (3, .int (nI f0)), (4, .int (nI k)), (5, .int (nI (by2 f p)))], [.ref (q 31)], M671)) rfl hR673 rfl rfl ?_
                          refine ps_st (S' := (244, [(6, .int (nI (f0 + k))), (0, .ref m0), (1, .int (nI p)), (2, .int (nI (by2 f pF))), (3, .int (nI f0)), (4, .int (nI k)), (5, .int (nI (by2 f p)))], [.int (nI (f0 + k)), .ref (q 31)], M671)) rfl rfl rfl ?_
                          refine ps_st (S' := (245, [(6, .int (nI (f0 + k))), (0, .ref m0), (1, .int (nI p)), (2, .int (nI (by2 f pF))), (3, .int (nI f0)), (4, .int (nI k)), (5, .int (nI (by2 f p)))], [.int 0, .int (nI (f0 + k)), .ref (q 31)], M671)) rfl rfl rfl ?_
                          refine pr_st (a := 31) (j := f0 + k) rfl hR673 rfl (by omega) (fun M684 R685 i1_245 hR686 hS687 => ?_)
                          have hF_688 := hF_675.mono (fun _ _ => rfl) (rRx hS687 (by decide))
                          have hY_689 := hY_676.mono (fun _ _ => rfl) (rRx hS687 (by decide))
                          have hP_690 := hP_677.mono (fun _ _ => rfl) (rRx hS687 (by decide))
                          have hK_691 := hK_678.mono (fun _ _ => rfl) (rRx hS687 (by decide))
                          have c27_692 := c27_679.mono (fun _ _ => rfl) (rRx hS687 (by decide))
                          have c28_693 := c28_680.mono (fun _ _ => rfl) (rRx hS687 (by decide))
                          have c29_694 := c29_681.mono (fun _ _ => rfl) (rRx hS687 (by decide))
                          have hN9_695 := hN9_682.mono (fun _ _ => rfl) (rRx hS687 (by decide))
                          have hER696 := hER683.st hS687 (by decide)
                          show pl _ _ _ (246, [(6, .int (nI (f0 + k))), (0, .ref m0), (1, .int (nI p)), (2, .int (nI (by2 f pF))), (3, .int (nI f0)), (4, .int (nI k)), (5, .int (nI (by2 f p)))], [], M684) _
                          refine ps_st (S' := (247, [(6, .int (nI (f0 + k))), (0, .ref m0), (1, .int (nI p)), (2, .int (nI (by2 f pF))), (3, .int (nI f0)), (4, .int (nI k)), (5, .int (nI (by2 f p)))], [.ref m0], M684)) rfl rfl rfl ?_
                          refine pr_ref (j := 32) (S' := (250, [(6, .int (nI (f0 + k))), (0, .ref m0), (1, .int (nI p)), (2, .int (nI (by2 f pF))), (3, .int (nI f0)), (4, .int (nI k)), (5, .int (nI (by2 f p)))], [.ref (q 32)], M684)) rfl hR686 rfl rfl ?_
                          refine ps_st (S' := (252, [(6, .int (nI (f0 + k))), (0, .ref m0), (1, .int (nI p)), (2, .int (nI (by2 f pF))), (3, .int (nI f0)), (4, .int (nI k)), (5, .int (nI (by2 f p)))], [.int (nI (f0 + k)), .ref (q 32)], M684)) rfl rfl rfl ?_
                          refine ps_st (S' := (253, [(6, .int (nI (f0 + k))), (0, .ref m0), (1, .int (nI p)), (2, .int (nI (by2 f pF))), (3, .int (nI f0)), (4, .int (nI k)), (5, .int (nI (by2 f p)))], [.ref m0, .int (nI (f0 + k)), .ref (q 32)], M684)) rfl rfl rfl ?_
                          refine ps_st (S' := (254, [(6, .int (nI (f0 + k))), (0, .ref m0), (1, .int (nI p)), (2, .int (nI (by2 f pF))), (3, .int (nI f0)), (4, .int (nI k)), (5, .int (nI (by2 f p)))], [.int (nI p), .ref m0, .int (nI (f0 + k)), .ref (q 32)], M684)) rfl rfl rfl ?_
                          refine ps_st (S' := (255, [(6, .int (nI (f0 + k))), (0, .ref m0), (1, .int (nI p)), (2, .int (nI (by2 f pF))), (3, .int (nI f0)), (4, .int (nI k)), (5, .int (nI (by2 f p)))], [.int 2, .int (nI p), .ref m0, .int (nI (f0 + k)), .ref (q 32)], M684)) rfl rfl rfl ?_
                          refine ps_st (S' := (256, [(6, .int (nI (f0 + k))), (0, .ref m0), (1, .int (nI p)), (2, .int (nI (by2 f pF))), (3, .int (nI f0)), (4, .int (nI k)), (5, .int (nI (by2 f p)))], [.int ((nI p) + 2), .ref m0, .int (nI (f0 + k)), .ref (q 32)], M684)) rfl rfl rfl ?_
                          rw [nI_add1 (p := p) (k := 2) (x := 2) rfl (by omega)]
                          show pl _ _ _ (_, [(6, .int (nI (f0 + k))), (0, .ref m0), (1, .int (nI p)), (2, .int (nI (by2 f pF))), (3, .int (nI f0)), (4, .int (nI k)), (5, .int (nI (by2 f p)))], [.int (nI (p + 2)), .ref m0, .int (nI (f0 + k)), .ref (q 32)], M684) _
                          refine pl_call (a := [.ref m0, .int (nI (p + 2))]) (rest := [.int (nI (f0 + k)), .ref (q 32)]) rfl rfl rfl (rd_u2 (n := n) (f := f) (p := (p + 2)) hR686 hF_688 (by omega)) (fun v697 M698 q699 => ?_)
                          obtain ⟨rfl, rfl⟩ := q699
                          show pl _ _ _ (259, [(6, .int (nI (f0 + k))), (0, .ref m0), (1, .int (nI p)), (2, .int (nI (by2 f pF))), (3, .int (nI f0)), (4, .int (nI k)), (5, .int (nI (by2 f p)))], [.int (nI (by2 f (p + 2))), .int (nI (f0 + k)), .ref (q 32)], M684) _
                          have hu_256 := by2_lt f (p + 2)
                          refine pr_st (a := 32) (j := f0 + k) rfl hR686 rfl (by omega) (fun M700 R701 i1_259 hR702 hS703 => ?_)
                          have hF_704 := hF_688.mono (fun _ _ => rfl) (rRx hS703 (by decide))
                          have hY_705 := hY_689.mono (fun _ _ => rfl) (rRx hS703 (by decide))
                          have hP_706 := hP_690.mono (fun _ _ => rfl) (rRx hS703 (by decide))
                          have hK_707 := hK_691.mono (fun _ _ => rfl) (rRx hS703 (by decide))
                          have c27_708 := c27_692.mono (fun _ _ => rfl) (rRx hS703 (by decide))
                          have c28_709 := c28_693.mono (fun _ _ => rfl) (rRx hS703 (by decide))
                          have c29_710 := c29_694.mono (fun _ _ => rfl) (rRx hS703 (by decide))
                          have hN9_711 := hN9_695.mono (fun _ _ => rfl) (rRx hS703 (by decide))
                          have hER712 := hER696.st hS703 (by decide)
                          show pl _ _ _ (260, [(6, .int (nI (f0 + k))), (0, .ref m0), (1, .int (nI p)), (2, .int (nI (by2 f pF))), (3, .int (nI f0)), (4, .int (nI k)), (5, .int (nI (by2 f p)))], [], M700) _
                          refine ps_st (S' := (261, [(6, .int (nI (f0 + k))), (0, .ref m0), (1, .int (nI p)), (2, .int (nI (by2 f pF))), (3, .int (nI f0)), (4, .int (nI k)), (5, .int (nI (by2 f p)))], [.ref m0], M700)) rfl rfl rfl ?_
                          refine pr_ref (j := 33) (S' := (264, [(6, .int (nI (f0 + k))), (0, .ref m0), (1, .int (nI p)), (2, .int (nI (by2 f pF))), (3, .int (nI f0)), (4, .int (nI k)), (5, .int (nI (by2 f p)))], [.ref (q 33)], M700)) rfl hR702 rfl rfl ?_
                          refine ps_st (S' := (266, [(6, .int (nI (f0 + k))), (0, .ref m0), (1, .int (nI p)), (2, .int (nI (by2 f pF))), (3, .int (nI f0)), (4, .int (nI k)), (5, .int (nI (by2 f p)))], [.int (nI (f0 + k)), .ref (q 33)], M700)) rfl rfl rfl ?_
                          refine ps_st (S' := (267, [(6, .int (nI (f0 + k))), (0, .ref m0), (1, .int (nI p)), (2, .int (nI (by2 f pF))), (3, .int (nI f0)), (4, .int (nI k)), (5, .int (nI (by2 f p)))], [.ref m0, .int (nI (f0 + k)), .ref (q 33)], M700)) rfl rfl rfl ?_
                          refine ps_st (S' := (268, [(6, .int (nI (f0 + k))), (0, .ref m0), (1, .int (nI p)), (2, .int (nI (by2 f pF))), (3, .int (nI f0)), (4, .int (nI k)), (5, .int (nI (by2 f p)))], [.int (nI p), .ref m0, .int (nI (f0 + k)), .ref (q 33)], M700)) rfl rfl rfl ?_
                          refine ps_st (S' := (269, [(6, .int (nI (f0 + k))), (0, .ref m0), (1, .int (nI p)), (2, .int (nI (by2 f pF))), (3, .int (nI f0)), (4, .int (nI k)), (5, .int (nI (by2 f p)))], [.int 4, .int (nI p), .ref m0, .int (nI (f0 + k)), .ref (q 33)], M700)) rfl rfl rfl ?_
                          refine ps_st (S' := (270, [(6, .int (nI (f0 + k))), (0, .ref m0), (1, .int (nI p)), (2, .int (nI (by2 f pF))), (3, .int (nI f0)), (4, .int (nI k)), (5, .int (nI (by2 f p)))], [.int ((nI p) + 4), .ref m0, .int (nI (f0 + k)), .ref (q 33)], M700)) rfl rfl rfl ?_
                          rw [nI_add1 (p := p) (k := 4) (x := 4) rfl (by omega)]
                          show pl _ _ _ (_, [(6, .int (nI (f0 + k))), (0, .ref m0), (1, .int (nI p)), (2, .int (nI (by2 f pF))), (3, .int (nI f0)), (4, .int (nI k)), (5, .int (nI (by2 f p)))], [.int (nI (p + 4)), .ref m0, .int (nI (f0 + k)), .ref (q 33)], M700) _
                          refine pl_call (a := [.ref m0, .int (nI (p + 4))]) (rest := [.int (nI (f0 + k)), .ref (q 33)]) rfl rfl rfl (rd_u2 (n := n) (f := f) (p := (p + 4)) hR702 hF_704 (by omega)) (fun v713 M714 q715 => ?_)
                          obtain ⟨rfl, rfl⟩ := q715
                          show pl _ _ _ (273, [(6, .int (nI (f0 + k))), (0, .ref m0), (1, .int (nI p)), (2, .int (nI (by2 f pF))), (3, .int (nI f0)), (4, .int (nI k)), (5, .int (nI (by2 f p)))], [.int (nI (by2 f (p + 4))), .int (nI (f0 + k)), .ref (q 33)], M700) _
                          have hu_270 := by2_lt f (p + 4)
                          refine pr_st (a := 33) (j := f0 + k) rfl hR702 rfl (by omega) (fun M716 R717 i1_273 hR718 hS719 => ?_)
                          have hF_720 := hF_704.mono (fun _ _ => rfl) (rRx hS719 (by decide))
                          have hY_721 := hY_705.mono (fun _ _ => rfl) (rRx hS719 (by decide))
                          have hP_722 := hP_706.mono (fun _ _ => rfl) (rRx hS719 (by decide))
                          have hK_723 := hK_707.mono (fun _ _ => rfl) (rRx hS719 (by decide))
                          have c27_724 := c27_708.mono (fun _ _ => rfl) (rRx hS719 (by decide))
                          have c28_725 := c28_709.mono (fun _ _ => rfl) (rRx hS719 (by decide))
                          have c29_726 := c29_710.mono (fun _ _ => rfl) (rRx hS719 (by decide))
                          have hN9_727 := hN9_711.mono (fun _ _ => rfl) (rRx hS719 (by decide))
                          have hER728 := hER712.st hS719 (by decide)
                          show pl _ _ _ (274, [(6, .int (nI (f0 + k))), (0, .ref m0), (1, .int (nI p)), (2, .int (nI (by2 f pF))), (3, .int (nI f0)), (4, .int (nI k)), (5, .int (nI (by2 f p)))], [], M716) _
                          refine ps_st (S' := (275, [(6, .int (nI (f0 + k))), (0, .ref m0), (1, .int (nI p)), (2, .int (nI (by2 f pF))), (3, .int (nI f0)), (4, .int (nI k)), (5, .int (nI (by2 f p)))], [.int (nI f0)], M716)) rfl rfl rfl ?_
                          refine ps_st (S' := (277, [(0, .ref m0), (1, .int (nI p)), (2, .int (nI (by2 f pF))), (3, .int (nI f0)), (4, .int (nI k)), (6, .int (nI (f0 + k))), (7, .int (nI f0))], [], M716)) rfl rfl rfl ?_
                          have h19 : ¬ fflN cf (by2 f p) = 0 := by
                            have e1 := ffl_0 cf (by2 f p)
                            have e2 := sev_0 (by2 f p)
                            have e3 := hall_80 (by2 f p)
                            omega
                          exact ih.2 (k) (p) (0) (s638) (s657) M716 I1 R717 hR718 hEI1 hER728 hl51 hl52 hl53 hl58 hl55 hl25 hF_720 hY_721 hP_722 hK_723 hN9_727 c27_724 c28_725 c29_726 (by omega) (hpk) (by omega) (hs) (by omega) (by omega) (q208_s) (q226_s) (by omega) (by omega) (h19) (by omega) (by omega) (rfl)
                        · have c_166 : ¬ (¬ (nI (fldN (tX f n E (by2 f (p + 4))))) = 0) := of_decide_eq_false c_166
                          have n_166 : fldN (tX f n E (by2 f (p + 4))) = 0 := (eq_nI (p := fldN (tX f n E (by2 f (p + 4)))) (n := 0) (Nat.lt_trans (le1_fld _) (by decide)) (by decide)).mp (Decidable.not_not.mp c_166)
                          refine ps_st (S' := (170, [(0, .ref m0), (1, .int (nI p))], [.ref m0], M1)) rfl rfl rfl ?_
                          refine ps_st (S' := (172, [(0, .ref m0), (1, .int (nI p))], [.int 21, .ref m0], M1)) rfl rfl rfl ?_
                          refine ps_st (S' := (173, [(0, .ref m0), (1, .int (nI p))], [.int (nI p), .int 21, .ref m0], M1)) rfl rfl rfl ?_
                          refine ps_st (S' := (174, [(0, .ref m0), (1, .int (nI p))], [.int 4, .int (nI p), .int 21, .ref m0], M1)) rfl rfl rfl ?_
                          refine ps_st (S' := (175, [(0, .ref m0), (1, .int (nI p))], [.int ((nI p) + 4), .int 21, .ref m0], M1)) rfl rfl rfl ?_
                          rw [nI_add1 (p := p) (k := 4) (x := 4) rfl (by omega)]
                          show pl _ _ _ (_, [(0, .ref m0), (1, .int (nI p))], [.int (nI (p + 4)), .int 21, .ref m0], M1) _
                          refine pl_call (a := [.ref m0, .int 21, .int (nI (p + 4))]) (rest := []) rfl rfl rfl (rd_wrong (x1 := 21) (x2 := (nI (p + 4))) hR1) (fun v729 M730 q731 => ?_)
                          obtain ⟨I732, R733, rfl, hR734, hI735, hX736, hi737, hi738⟩ := q731
                          have hi739 := (hI735 51 (by decide)).trans hl51
                          have hi740 := (hI735 52 (by decide)).trans hl52
                          have hi741 := (hI735 53 (by decide)).trans hl53
                          have hi742 := (hI735 58 (by decide)).trans hl58
                          have hi743 := (hI735 55 (by decide)).trans hl55
                          have hi744 := (hI735 25 (by decide)).trans hl25
                          have hF_745 := hF1.mono (cIx hI735 (by decide)) (cRx hX736 (by decide))
                          have hY_746 := hY1.mono (cIx hI735 (by decide)) (cRx hX736 (by decide))
                          have hP_747 := hP1.mono (cIx hI735 (by decide)) (cRx hX736 (by decide))
                          have hK_748 := hK1.mono (cIx hI735 (by decide)) (cRx hX736 (by decide))
                          have hN9_749 := hN91.mono (cIx hI735 (by decide)) (cRx hX736 (by decide))
                          have hEI750 := hEI1.tr hI735 (by decide)
                          have hER751 := hER1.tr hX736 (by decide)
                          show pl _ _ _ (178, [(0, .ref m0), (1, .int (nI p))], [.int 0], M730) _
                          exact ps_ret rfl rfl (Or.inr ⟨(21, p + 4), I732, R733, by
                              rw [← hs, flS_st (i := k) (by omega), ← hpk, fh_21 (by have e1 := ffl_0 cf (by2 f p); have e2 := sev_0 (by2 f p); have e3 := hall_80 (by2 f p); omega) (by omega) (by omega)], rfl, hR734, hEI750, hER751, hi737, hi738⟩)
                    · have c_123 : ¬ (¬ (nI (unqN (tX f n E (by2 f (p + 2))))) = 0) := of_decide_eq_false c_123
                      have n_123 : unqN (tX f n E (by2 f (p + 2))) = 0 := (eq_nI (p := unqN (tX f n E (by2 f (p + 2)))) (n := 0) (Nat.lt_trans (le1_unq _) (by decide)) (by decide)).mp (Decidable.not_not.mp c_123)
                      refine ps_st (S' := (127, [(0, .ref m0), (1, .int (nI p))], [.ref m0], M1)) rfl rfl rfl ?_
                      refine ps_st (S' := (129, [(0, .ref m0), (1, .int (nI p))], [.int 20, .ref m0], M1)) rfl rfl rfl ?_
                      refine ps_st (S' := (130, [(0, .ref m0), (1, .int (nI p))], [.int (nI p), .int 20, .ref m0], M1)) rfl rfl rfl ?_
                      refine ps_st (S' := (131, [(0, .ref m0), (1, .int (nI p))], [.int 2, .int (nI p), .int 20, .ref m0], M1)) rfl rfl rfl ?_
                      refine ps_st (S' := (132, [(0, .ref m0), (1, .int (nI p))], [.int ((nI p) + 2), .int 20, .ref m0], M1)) rfl rfl rfl ?_
                      rw [nI_add1 (p := p) (k := 2) (x := 2) rfl (by omega)]
                      show pl _ _ _ (_, [(0, .ref m0), (1, .int (nI p))], [.int (nI (p + 2)), .int 20, .ref m0], M1) _
                      refine pl_call (a := [.ref m0, .int 20, .int (nI (p + 2))]) (rest := []) rfl rfl rfl (rd_wrong (x1 := 20) (x2 := (nI (p + 2))) hR1) (fun v752 M753 q754 => ?_)
                      obtain ⟨I755, R756, rfl, hR757, hI758, hX759, hi760, hi761⟩ := q754
                      have hi762 := (hI758 51 (by decide)).trans hl51
                      have hi763 := (hI758 52 (by decide)).trans hl52
                      have hi764 := (hI758 53 (by decide)).trans hl53
                      have hi765 := (hI758 58 (by decide)).trans hl58
                      have hi766 := (hI758 55 (by decide)).trans hl55
                      have hi767 := (hI758 25 (by decide)).trans hl25
                      have hF_768 := hF1.mono (cIx hI758 (by decide)) (cRx hX759 (by decide))
                      have hY_769 := hY1.mono (cIx hI758 (by decide)) (cRx hX759 (by decide))
                      have hP_770 := hP1.mono (cIx hI758 (by decide)) (cRx hX759 (by decide))
                      have hK_771 := hK1.mono (cIx hI758 (by decide)) (cRx hX759 (by decide))
                      have hN9_772 := hN91.mono (cIx hI758 (by decide)) (cRx hX759 (by decide))
                      have hEI773 := hEI1.tr hI758 (by decide)
                      have hER774 := hER1.tr hX759 (by decide)
                      show pl _ _ _ (135, [(0, .ref m0), (1, .int (nI p))], [.int 0], M753) _
                      exact ps_ret rfl rfl (Or.inr ⟨(20, p + 2), I755, R756, by
                          rw [← hs, flS_st (i := k) (by omega), ← hpk, fh_20 (by have e1 := ffl_0 cf (by2 f p); have e2 := sev_0 (by2 f p); have e3 := hall_80 (by2 f p); omega) (by omega)], rfl, hR757, hEI773, hER774, hi760, hi761⟩)
                · have c_70 : ¬ ((nI (aN cf 512)) = 0) := of_decide_eq_false c_70
                  have n_70 : ¬ (aN cf 512 = 0) := fun h9 => c_70 ((eq_nI (p := aN cf 512) (n := 0) (Nat.lt_of_le_of_lt (an_le _ _) (by decide)) (by decide)).mpr h9)
                  refine ps_st (S' := (75, [(0, .ref m0), (1, .int (nI p)), (2, .int (nI (by2 f pF))), (3, .int (nI f0)), (4, .int (nI k)), (5, .int (nI (by2 f p)))], [.int (nI (by2 f p))], M1)) rfl rfl rfl ?_
                  refine ps_st (S' := (78, [(0, .ref m0), (1, .int (nI p)), (2, .int (nI (by2 f pF))), (3, .int (nI f0)), (4, .int (nI k)), (5, .int (nI (by2 f p)))], [.int 16607, .int (nI (by2 f p))], M1)) rfl rfl rfl ?_
                  refine ps_st (S' := (79, [(0, .ref m0), (1, .int (nI p)), (2, .int (nI (by2 f pF))), (3, .int (nI f0)), (4, .int (nI k)), (5, .int (nI (by2 f p)))], [.int ((nI (by2 f p)) &&& 16607)], M1)) rfl rfl rfl ?_
                  rw [nI_an (p := by2 f p) (k := 16607) (x := 16607) rfl]
                  show pl _ _ _ (_, [(0, .ref m0), (1, .int (nI p)), (2, .int (nI (by2 f pF))), (3, .int (nI f0)), (4, .int (nI k)), (5, .int (nI (by2 f p)))], [.int (nI (aN (by2 f p) 16607))], M1) _
                  refine ps_st (S' := (81, [(0, .ref m0), (1, .int (nI p)), (2, .int (nI (by2 f pF))), (3, .int (nI f0)), (4, .int (nI k)), (5, .int (nI (by2 f p)))], [.int 25, .int (nI (aN (by2 f p) 16607))], M1)) rfl rfl rfl ?_
                  refine ps_if2 (S1 := (92, [(0, .ref m0), (1, .int (nI p)), (2, .int (nI (by2 f pF))), (3, .int (nI f0)), (4, .int (nI k)), (5, .int (nI (by2 f p)))], [], M1)) (S2 := (84, [(0, .ref m0), (1, .int (nI p))], [], M1)) rfl rfl rfl (fun c_81 => ?_) (fun c_81 => ?_)
                  · have c_81 : (nI (aN (by2 f p) 16607)) = 25 := of_decide_eq_true c_81
                    have n_81 : aN (by2 f p) 16607 = 25 := (eq_nI (p := aN (by2 f p) 16607) (n := 25) (Nat.lt_of_le_of_lt (an_le _ _) (by decide)) (by decide)).mp c_81
                    refine ps_st (S' := (93, [(0, .ref m0), (1, .int (nI p)), (2, .int (nI (by2 f pF))), (3, .int (nI f0)), (4, .int (nI k)), (5, .int (nI (by2 f p)))], [.ref m0], M1)) rfl rfl rfl ?_
                    refine ps_st (S' := (94, [(0, .ref m0), (1, .int (nI p)), (2, .int (nI (by2 f pF))), (3, .int (nI f0)), (4, .int (nI k)), (5, .int (nI (by2 f p)))], [.ref m0, .ref m0], M1)) rfl rfl rfl ?_
                    refine ps_st (S' := (95, [(0, .ref m0), (1, .int (nI p)), (2, .int (nI (by2 f pF))), (3, .int (nI f0)), (4, .int (nI k)), (5, .int (nI (by2 f p)))], [.int (nI p), .ref m0, .ref m0], M1)) rfl rfl rfl ?_
                    refine ps_st (S' := (96, [(0, .ref m0), (1, .int (nI p)), (2, .int (nI (by2 f pF))), (3, .int (nI f0)), (4, .int (nI k)), (5, .int (nI (by2 f p)))], [.int 2, .int (nI p), .ref m0, .ref m0], M1)) rfl rfl rfl ?_
                    refine ps_st (S' := (97, [(0, .ref m0), (1, .int (nI p)), (2, .int (nI (by2 f pF))), (3, .int (nI f0)), (4, .int (nI k)), (5, .int (nI (by2 f p)))], [.int ((nI p) + 2), .ref m0, .ref m0], M1)) rfl rfl rfl ?_
                    rw [nI_add1 (p := p) (k := 2) (x := 2) rfl (by omega)]
                    show pl _ _ _ (_, [(0, .ref m0), (1, .int (nI p)), (2, .int (nI (by2 f pF))), (3, .int (nI f0)), (4, .int (nI k)), (5, .int (nI (by2 f p)))], [.int (nI (p + 2)), .ref m0, .ref m0], M1) _
                    refine pl_call (a := [.ref m0, .int (nI (p + 2))]) (rest := [.ref m0]) rfl rfl rfl (rd_u2 (n := n) (f := f) (p := (p + 2)) hR1 hF1 (by omega)) (fun v775 M776 q777 => ?_)
                    obtain ⟨rfl, rfl⟩ := q777
                    show pl _ _ _ (100, [(0, .ref m0), (1, .int (nI p)), (2, .int (nI (by2 f pF))), (3, .int (nI f0)), (4, .int (nI k)), (5, .int (nI (by2 f p)))], [.int (nI (by2 f (p + 2))), .ref m0], M1) _
                    have hu_97 := by2_lt f (p + 2)
                    refine pl_call (a := [.ref m0, .int (nI (by2 f (p + 2)))]) (rest := []) rfl rfl rfl (rd_tag (n := n) (f := f) (tx := tx) (cN := cN) (A := A) (N := N) (mj := mj) (E := E) (k := (by2 f (p + 2))) hR1 hl51 hl52 hl53 hF1 hY1 hP1 (hEP) (hN) (hmj) (by2_lt _ _)) (fun v778 M779 q780 => ?_)
                    obtain ⟨rfl, rfl⟩ := q780
                    show pl _ _ _ (103, [(0, .ref m0), (1, .int (nI p)), (2, .int (nI (by2 f pF))), (3, .int (nI f0)), (4, .int (nI k)), (5, .int (nI (by2 f p)))], [.int (nI (tg f E (by2 f (p + 2))))], M1) _
                    have htg_100 := tg_lt f E (by2 f (p + 2))
                    refine ps_st (S' := (104, [(0, .ref m0), (1, .int (nI p)), (2, .int (nI (by2 f pF))), (3, .int (nI f0)), (4, .int (nI k)), (5, .int (nI (by2 f p)))], [.int 1, .int (nI (tg f E (by2 f (p + 2))))], M1)) rfl rfl rfl ?_
                    refine ps_if2 (S1 := (126, [(0, .ref m0), (1, .int (nI p))], [], M1)) (S2 := (107, [(0, .ref m0), (1, .int (nI p)), (2, .int (nI (by2 f pF))), (3, .int (nI f0)), (4, .int (nI k)), (5, .int (nI (by2 f p)))], [], M1)) rfl rfl rfl (fun c_104 => ?_) (fun c_104 => ?_)
                    · have c_104 : ¬ (nI (tg f E (by2 f (p + 2)))) = 1 := of_decide_eq_true c_104
                      have n_104 : ¬ (tg f E (by2 f (p + 2)) = 1) := fun h9 => c_104 ((eq_nI (p := tg f E (by2 f (p + 2))) (n := 1) (Nat.lt_trans (tg_lt _ _ _) (by decide)) (by decide)).mpr h9)
                      refine ps_st (S' := (127, [(0, .ref m0), (1, .int (nI p))], [.ref m0], M1)) rfl rfl rfl ?_
                      refine ps_st (S' := (129, [(0, .ref m0), (1, .int (nI p))], [.int 20, .ref m0], M1)) rfl rfl rfl ?_
                      refine ps_st (S' := (130, [(0, .ref m0), (1, .int (nI p))], [.int (nI p), .int 20, .ref m0], M1)) rfl rfl rfl ?_
                      refine ps_st (S' := (131, [(0, .ref m0), (1, .int (nI p))], [.int 2, .int (nI p), .int 20, .ref m0], M1)) rfl rfl rfl ?_
                      refine ps_st (S' := (132, [(0, .ref m0), (1, .int (nI p))], [.int ((nI p) + 2), .int 20, .ref m0], M1)) rfl rfl rfl ?_
                      rw [nI_add1 (p := p) (k := 2) (x := 2) rfl (by omega)]
                      show pl _ _ _ (_, [(0, .ref m0), (1, .int (nI p))], [.int (nI (p + 2)), .int 20, .ref m0], M1) _
                      refine pl_call (a := [.ref m0, .int 20, .int (nI (p + 2))]) (rest := []) rfl rfl rfl (rd_wrong (x1 := 20) (x2 := (nI (p + 2))) hR1) (fun v781 M782 q783 => ?_)
                      obtain ⟨I784, R785, rfl, hR786, hI787, hX788, hi789, hi790⟩ := q783
                      have hi791 := (hI787 51 (by decide)).trans hl51
                      have hi792 := (hI787 52 (by decide)).trans hl52
                      have hi793 := (hI787 53 (by decide)).trans hl53
                      have hi794 := (hI787 58 (by decide)).trans hl58
                      have hi795 := (hI787 55 (by decide)).trans hl55
                      have hi796 := (hI787 25 (by decide)).trans hl25
                      have hF_797 := hF1.mono (cIx hI787 (by decide)) (cRx hX788 (by decide))
                      have hY_798 := hY1.mono (cIx hI787 (by decide)) (cRx hX788 (by decide))
                      have hP_799 := hP1.mono (cIx hI787 (by decide)) (cRx hX788 (by decide))
                      have hK_800 := hK1.mono (cIx hI787 (by decide)) (cRx hX788 (by decide))
                      have hN9_801 := hN91.mono (cIx hI787 (by decide)) (cRx hX788 (by decide))
                      have hEI802 := hEI1.tr hI787 (by decide)
                      have hER803 := hER1.tr hX788 (by decide)
                      show pl _ _ _ (135, [(0, .ref m0), (1, .int (nI p))], [.int 0], M782) _
                      exact ps_ret rfl rfl (Or.inr ⟨(20, p + 2), I784, R785, by
                          rw [← hs, flS_st (i := k) (by omega), ← hpk, fh_20 (by have e1 := ffl_0 cf (by2 f p); have e2 := sev_0 (by2 f p); have e3 := hall_80 (by2 f p); omega) (by rw [tx_no (by omega)]; decide)], rfl, hR786, hEI802, hER803, hi789, hi790⟩)
                    · have c_104 : ¬ (¬ (nI (tg f E (by2 f (p + 2)))) = 1) := of_decide_eq_false c_104
                      have n_104 : tg f E (by2 f (p + 2)) = 1 := (eq_nI (p := tg f E (by2 f (p + 2))) (n := 1) (Nat.lt_trans (tg_lt _ _ _) (by decide)) (by decide)).mp (Decidable.not_not.mp c_104)
                      refine ps_st (S' := (108, [(0, .ref m0), (1, .int (nI p)), (2, .int (nI (by2 f pF))), (3, .int (nI f0)), (4, .int (nI k)), (5, .int (nI (by2 f p)))], [.ref m0], M1)) rfl rfl rfl ?_
                      refine ps_st (S' := (109, [(0, .ref m0), (1, .int (nI p)), (2, .int (nI (by2 f pF))), (3, .int (nI f0)), (4, .int (nI k)), (5, .int (nI (by2 f p)))], [.ref m0, .ref m0], M1)) rfl rfl rfl ?_
                      refine ps_st (S' := (110, [(0, .ref m0), (1, .int (nI p)), (2, .int (nI (by2 f pF))), (3, .int (nI f0)), (4, .int (nI k)), (5, .int (nI (by2 f p)))], [.ref m0, .ref m0, .ref m0], M1)) rfl rfl rfl ?_
                      refine ps_st (S' := (111, [(0, .ref m0), (1, .int (nI p)), (2, .int (nI (by2 f pF))), (3, .int (nI f0)), (4, .int (nI k)), (5, .int (nI (by2 f p)))], [.int (nI p), .ref m0, .ref m0, .ref m0], M1)) rfl rfl rfl ?_
                      refine ps_st (S' := (112, [(0, .ref m0), (1, .int (nI p)), (2, .int (nI (by2 f pF))), (3, .int (nI f0)), (4, .int (nI k)), (5, .int (nI (by2 f p)))], [.int 2, .int (nI p), .ref m0, .ref m0, .ref m0], M1)) rfl rfl rfl ?_
                      refine ps_st (S' := (113, [(0, .ref m0), (1, .int (nI p)), (2, .int (nI (by2 f pF))), (3, .int (nI f0)), (4, .int (nI k)), (5, .int (nI (by2 f p)))], [.int ((nI p) + 2), .ref m0, .ref m0, .ref m0], M1)) rfl rfl rfl ?_
                      rw [nI_add1 (p := p) (k := 2) (x := 2) rfl (by omega)]
                      show pl _ _ _ (_, [(0, .ref m0), (1, .int (nI p)), (2, .int (nI (by2 f pF))), (3, .int (nI f0)), (4, .int (nI k)), (5, .int (nI (by2 f p)))], [.int (nI (p + 2)), .ref m0, .ref m0, .ref m0], M1) _
                      refine pl_call (a := [.ref m0, .int (nI (p + 2))]) (rest := [.ref m0, .ref m0]) rfl rfl rfl (rd_u2 (n := n) (f := f) (p := (p + 2)) hR1 hF1 (by omega)) (fun v804 M805 q806 => ?_)
                      obtain ⟨rfl, rfl⟩ := q806
                      show pl _ _ _ (116, [(0, .ref m0), (1, .int (nI p)), (2, .int (nI (by2 f pF))), (3, .int (nI f0)), (4, .int (nI k)), (5, .int (nI (by2 f p)))], [.int (nI (by2 f (p + 2))), .ref m0, .ref m0], M1) _
                      have hu_113 := by2_lt f (p + 2)
                      refine pl_call (a := [.ref m0, .int (nI (by2 f (p + 2)))]) (rest := [.ref m0]) rfl rfl rfl (rd_symOf (n := n) (f := f) (tx := tx) (cN := cN) (A := A) (N := N) (mj := mj) (E := E) (k := (by2 f (p + 2))) hR1 hl51 hl52 hl53 hF1 hY1 hP1 (hEP) (hN) (hmj) (by omega)) (fun v807 M808 q809 => ?_)
                      obtain ⟨s810, q116_s, rfl, rfl⟩ := q809
                      show pl _ _ _ (119, [(0, .ref m0), (1, .int (nI p)), (2, .int (nI (by2 f pF))), (3, .int (nI f0)), (4, .int (nI k)), (5, .int (nI (by2 f p)))], [.int (nI s810), .ref m0], M1) _
                      have hsl_116 := q116_s.1
                      have htl_116 := hY1.1.2.2.1
                      refine ps_st (S' := (120, [(0, .ref m0), (1, .int (nI p)), (2, .int (nI (by2 f pF))), (3, .int (nI f0)), (4, .int (nI k)), (5, .int (nI (by2 f p)))], [.int 1, .int (nI s810), .ref m0], M1)) rfl rfl rfl ?_
                      refine pl_call (a := [.ref m0, .int (nI s810), .int 1]) (rest := []) rfl rfl rfl (rd_unq1 (tx := tx) (cN := cN) (A := A) (s := s810) (l := (tX f n E (by2 f (p + 2)))) hR1 hY1 (q116_s)) (fun v811 M812 q813 => ?_)
                      obtain ⟨rfl, rfl⟩ := q813
                      show pl _ _ _ (123, [(0, .ref m0), (1, .int (nI p)), (2, .int (nI (by2 f pF))), (3, .int (nI f0)), (4, .int (nI k)), (5, .int (nI (by2 f p)))], [.int (nI (unqN (tX f n E (by2 f (p + 2)))))], M1) _
                      refine ps_if (S1 := (136, [(0, .ref m0), (1, .int (nI p)), (2, .int (nI (by2 f pF))), (3, .int (nI f0)), (4, .int (nI k)), (5, .int (nI (by2 f p)))], [], M1)) (S2 := (126, [(0, .ref m0), (1, .int (nI p))], [], M1)) rfl rfl rfl (fun c_123 => ?_) (fun c_123 => ?_)
                      · have c_123 : ¬ (nI (unqN (tX f n E (by2 f (p + 2))))) = 0 := of_decide_eq_true c_123
                        have n_123 : ¬ (unqN (tX f n E (by2 f (p + 2))) = 0) := fun h9 => c_123 ((eq_nI (p := unqN (tX f n E (by2 f (p + 2)))) (n := 0) (Nat.lt_trans (le1_unq _) (by decide)) (by decide)).mpr h9)
                        refine ps_st (S' := (137, [(0, .ref m0), (1, .int (nI p)), (2, .int (nI (by2 f pF))), (3, .int (nI f0)), (4, .int (nI k)), (5, .int (nI (by2 f p)))], [.ref m0], M1)) rfl rfl rfl ?_
                        refine ps_st (S' := (138, [(0, .ref m0), (1, .int (nI p)), (2, .int (nI (by2 f pF))), (3, .int (nI f0)), (4, .int (nI k)), (5, .int (nI (by2 f p)))], [.ref m0, .ref m0], M1)) rfl rfl rfl ?_
                        refine ps_st (S' := (139, [(0, .ref m0), (1, .int (nI p)), (2, .int (nI (by2 f pF))), (3, .int (nI f0)), (4, .int (nI k)), (5, .int (nI (by2 f p)))], [.int (nI p), .ref m0, .ref m0], M1)) rfl rfl rfl ?_
                        refine ps_st (S' := (140, [(0, .ref m0), (1, .int (nI p)), (2, .int (nI (by2 f pF))), (3, .int (nI f0)), (4, .int (nI k)), (5, .int (nI (by2 f p)))], [.int 4, .int (nI p), .ref m0, .ref m0], M1)) rfl rfl rfl ?_
                        refine ps_st (S' := (141, [(0, .ref m0), (1, .int (nI p)), (2, .int (nI (by2 f pF))), (3, .int (nI f0)), (4, .int (nI k)), (5, .int (nI (by2 f p)))], [.int ((nI p) + 4), .ref m0, .ref m0], M1)) rfl rfl rfl ?_
                        rw [nI_add1 (p := p) (k := 4) (x := 4) rfl (by omega)]
                        show pl _ _ _ (_, [(0, .ref m0), (1, .int (nI p)), (2, .int (nI (by2 f pF))), (3, .int (nI f0)), (4, .int (nI k)), (5, .int (nI (by2 f p)))], [.int (nI (p + 4)), .ref m0, .ref m0], M1) _
                        refine pl_call (a := [.ref m0, .int (nI (p + 4))]) (rest := [.ref m0]) rfl rfl rfl (rd_u2 (n := n) (f := f) (p := (p + 4)) hR1 hF1 (by omega)) (fun v814 M815 q816 => ?_)
                        obtain ⟨rfl, rfl⟩ := q816
                        show pl _ _ _ (144, [(0, .ref m0), (1, .int (nI p)), (2, .int (nI (by2 f pF))), (3, .int (nI f0)), (4, .int (nI k)), (5, .int (nI (by2 f p)))], [.int (nI (by2 f (p + 4))), .ref m0], M1) _
                        have hu_141 := by2_lt f (p + 4)
                        refine pl_call (a := [.ref m0, .int (nI (by2 f (p + 4)))]) (rest := []) rfl rfl rfl (rd_tag (n := n) (f := f) (tx := tx) (cN := cN) (A := A) (N := N) (mj := mj) (E := E) (k := (by2 f (p + 4))) hR1 hl51 hl52 hl53 hF1 hY1 hP1 (hEP) (hN) (hmj) (by2_lt _ _)) (fun v817 M818 q819 => ?_)
                        obtain ⟨rfl, rfl⟩ := q819
                        show pl _ _ _ (147, [(0, .ref m0), (1, .int (nI p)), (2, .int (nI (by2 f pF))), (3, .int (nI f0)), (4, .int (nI k)), (5, .int (nI (by2 f p)))], [.int (nI (tg f E (by2 f (p + 4))))], M1) _
                        have htg_144 := tg_lt f E (by2 f (p + 4))
                        refine ps_st (S' := (148, [(0, .ref m0), (1, .int (nI p)), (2, .int (nI (by2 f pF))), (3, .int (nI f0)), (4, .int (nI k)), (5, .int (nI (by2 f p)))], [.int 1, .int (nI (tg f E (by2 f (p + 4))))], M1)) rfl rfl rfl ?_
                        refine ps_if2 (S1 := (169, [(0, .ref m0), (1, .int (nI p))], [], M1)) (S2 := (151, [(0, .ref m0), (1, .int (nI p)), (2, .int (nI (by2 f pF))), (3, .int (nI f0)), (4, .int (nI k)), (5, .int (nI (by2 f p)))], [], M1)) rfl rfl rfl (fun c_148 => ?_) (fun c_148 => ?_)
                        · have c_148 : ¬ (nI (tg f E (by2 f (p + 4)))) = 1 := of_decide_eq_true c_148
                          have n_148 : ¬ (tg f E (by2 f (p + 4)) = 1) := fun h9 => c_148 ((eq_nI (p := tg f E (by2 f (p + 4))) (n := 1) (Nat.lt_trans (tg_lt _ _ _) (by decide)) (by decide)).mpr h9)
                          refine ps_st (S' := (170, [(0, .ref m0), (1, .int (nI p))], [.ref m0], M1)) rfl rfl rfl ?_
                          refine ps_st (S' := (172, [(0, .ref m0), (1, .int (nI p))], [.int 21, .ref m0], M1)) rfl rfl rfl ?_
                          refine ps_st (S' := (173, [(0, .ref m0), (1, .int (nI p))], [.int (nI p), .int 21, .ref m0], M1)) rfl rfl rfl ?_
                          refine ps_st (S' := (174, [(0, .ref m0), (1, .int (nI p))], [.int 4, .int (nI p), .int 21, .ref m0], M1)) rfl rfl rfl ?_
                          refine ps_st (S' := (175, [(0, .ref m0), (1, .int (nI p))], [.int ((nI p) + 4), .int 21, .ref m0], M1)) rfl rfl rfl ?_
                          rw [nI_add1 (p := p) (k := 4) (x := 4) rfl (by omega)]
                          show pl _ _ _ (_, [(0, .ref m0), (1, .int (nI p))], [.int (nI (p + 4)), .int 21, .ref m0], M1) _
                          refine pl_call (a := [.ref m0, .int 21, .int (nI (p + 4))]) (rest := []) rfl rfl rfl (rd_wrong (x1 := 21) (x2 := (nI (p + 4))) hR1) (fun v820 M821 q822 => ?_)
                          obtain ⟨I823, R824, rfl, hR825, hI826, hX827, hi828, hi829⟩ := q822
                          have hi830 := (hI826 51 (by decide)).trans hl51
                          have hi831 := (hI826 52 (by decide)).trans hl52
                          have hi832 := (hI826 53 (by decide)).trans hl53
                          have hi833 := (hI826 58 (by decide)).trans hl58
                          have hi834 := (hI826 55 (by decide)).trans hl55
                          have hi835 := (hI826 25 (by decide)).trans hl25
                          have hF_836 := hF1.mono (cIx hI826 (by decide)) (cRx hX827 (by decide))
                          have hY_837 := hY1.mono (cIx hI826 (by decide)) (cRx hX827 (by decide))
                          have hP_838 := hP1.mono (cIx hI826 (by decide)) (cRx hX827 (by decide))
                          have hK_839 := hK1.mono (cIx hI826 (by decide)) (cRx hX827 (by decide))
                          have hN9_840 := hN91.mono (cIx hI826 (by decide)) (cRx hX827 (by decide))
                          have hEI841 := hEI1.tr hI826 (by decide)
                          have hER842 := hER1.tr hX827 (by decide)
                          show pl _ _ _ (178, [(0, .ref m0), (1, .int (nI p))], [.int 0], M821) _
                          exact ps_ret rfl rfl (Or.inr ⟨(21, p + 4), I823, R824, by
                              rw [← hs, flS_st (i := k) (by omega), ← hpk, fh_21 (by have e1 := ffl_0 cf (by2 f p); have e2 := sev_0 (by2 f p); have e3 := hall_80 (by2 f p); omega) (by omega) (by rw [tx_no (by omega)]; decide)], rfl, hR825, hEI841, hER842, hi828, hi829⟩)
                        · have c_148 : ¬ (¬ (nI (tg f E (by2 f (p + 4)))) = 1) := of_decide_eq_false c_148
                          have n_148 : tg f E (by2 f (p + 4)) = 1 := (eq_nI (p := tg f E (by2 f (p + 4))) (n := 1) (Nat.lt_trans (tg_lt _ _ _) (by decide)) (by decide)).mp (Decidable.not_not.mp c_148)
                          refine ps_st (S' := (152, [(0, .ref m0), (1, .int (nI p)), (2, .int (nI (by2 f pF))), (3, .int (nI f0)), (4, .int (nI k)), (5, .int (nI (by2 f p)))], [.ref m0], M1)) rfl rfl rfl ?_
                          refine ps_st (S' := (153, [(0, .ref m0), (1, .int (nI p)), (2, .int (nI (by2 f pF))), (3, .int (nI f0)), (4, .int (nI k)), (5, .int (nI (by2 f p)))], [.ref m0, .ref m0], M1)) rfl rfl rfl ?_
                          refine ps_st (S' := (154, [(0, .ref m0), (1, .int (nI p)), (2, .int (nI (by2 f pF))), (3, .int (nI f0)), (4, .int (nI k)), (5, .int (nI (by2 f p)))], [.ref m0, .ref m0, .ref m0], M1)) rfl rfl rfl ?_
                          refine ps_st (S' := (155, [(0, .ref m0), (1, .int (nI p)), (2, .int (nI (by2 f pF))), (3, .int (nI f0)), (4, .int (nI k)), (5, .int (nI (by2 f p)))], [.int (nI p), .ref m0, .ref m0, .ref m0], M1)) rfl rfl rfl ?_
                          refine ps_st (S' := (156, [(0, .ref m0), (1, .int (nI p)), (2, .int (nI (by2 f pF))), (3, .int (nI f0)), (4, .int (nI k)), (5, .int (nI (by2 f p)))], [.int 4, .int (nI p), .ref m0, .ref m0, .ref m0], M1)) rfl rfl rfl ?_
                          refine ps_st (S' := (157, [(0, .ref m0), (1, .int (nI p)), (2, .int (nI (by2 f pF))), (3, .int (nI f0)), (4, .int (nI k)), (5, .int (nI (by2 f p)))], [.int ((nI p) + 4), .ref m0, .ref m0, .ref m0], M1)) rfl rfl rfl ?_
                          rw [nI_add1 (p := p) (k := 4) (x := 4) rfl (by omega)]
                          show pl _ _ _ (_, [(0, .ref m0), (1, .int (nI p)), (2, .int (nI (by2 f pF))), (3, .int (nI f0)), (4, .int (nI k)), (5, .int (nI (by2 f p)))], [.int (nI (p + 4)), .ref m0, .ref m0, .ref m0], M1) _
                          refine pl_call (a := [.ref m0, .int (nI (p + 4))]) (rest := [.ref m0, .ref m0]) rfl rfl rfl (rd_u2 (n := n) (f := f) (p := (p + 4)) hR1 hF1 (by omega)) (fun v843 M844 q845 => ?_)
                          obtain ⟨rfl, rfl⟩ := q845
                          show pl _ _ _ (160, [(0, .ref m0), (1, .int (nI p)), (2, .int (nI (by2 f pF))), (3, .int (nI f0)), (4, .int (nI k)), (5, .int (nI (by2 f p)))], [.int (nI (by2 f (p + 4))), .ref m0, .ref m0], M1) _
                          have hu_157 := by2_lt f (p + 4)
                          refine pl_call (a := [.ref m0, .int (nI (by2 f (p + 4)))]) (rest := [.ref m0]) rfl rfl rfl (rd_symOf (n := n) (f := f) (tx := tx) (cN := cN) (A := A) (N := N) (mj := mj) (E := E) (k := (by2 f (p + 4))) hR1 hl51 hl52 hl53 hF1 hY1 hP1 (hEP) (hN) (hmj) (by omega)) (fun v846 M847 q848 => ?_)
                          obtain ⟨s849, q160_s, rfl, rfl⟩ := q848
                          show pl _ _ _ (163, [(0, .ref m0), (1, .int (nI p)), (2, .int (nI (by2 f pF))), (3, .int (nI f0)), (4, .int (nI k)), (5, .int (nI (by2 f p)))], [.int (nI s849), .ref m0], M1) _
                          have hsl_160 := q160_s.1
                          have htl_160 := hY1.1.2.2.1
                          refine pl_call (a := [.ref m0, .int (nI s849)]) (rest := []) rfl rfl rfl (rd_isField (tx := tx) (cN := cN) (A := A) (s := s849) (l := (tX f n E (by2 f (p + 4)))) hR1 hY1 (q160_s)) (fun v850 M851 q852 => ?_)
                          obtain ⟨rfl, rfl⟩ := q852
                          show pl _ _ _ (166, [(0, .ref m0), (1, .int (nI p)), (2, .int (nI (by2 f pF))), (3, .int (nI f0)), (4, .int (nI k)), (5, .int (nI (by2 f p)))], [.int (nI (fldN (tX f n E (by2 f (p + 4)))))], M1) _
                          refine ps_if (S1 := (179, [(0, .ref m0), (1, .int (nI p)), (2, .int (nI (by2 f pF))), (3, .int (nI f0)), (4, .int (nI k)), (5, .int (nI (by2 f p)))], [], M1)) (S2 := (169, [(0, .ref m0), (1, .int (nI p))], [], M1)) rfl rfl rfl (fun c_166 => ?_) (fun c_166 => ?_)
                          · have c_166 : ¬ (nI (fldN (tX f n E (by2 f (p + 4))))) = 0 := of_decide_eq_true c_166
                            have n_166 : ¬ (fldN (tX f n E (by2 f (p + 4))) = 0) := fun h9 => c_166 ((eq_nI (p := fldN (tX f n E (by2 f (p + 4)))) (n := 0) (Nat.lt_trans (le1_fld _) (by decide)) (by decide)).mpr h9)
                            refine ps_st (S' := (180, [(0, .ref m0), (1, .int (nI p)), (2, .int (nI (by2 f pF))), (3, .int (nI f0)), (4, .int (nI k)), (5, .int (nI (by2 f p)))], [.ref m0], M1)) rfl rfl rfl ?_
                            refine pr_int (j := 25) (S' := (183, [(0, .ref m0), (1, .int (nI p)), (2, .int (nI (by2 f pF))), (3, .int (nI f0)), (4, .int (nI k)), (5, .int (nI (by2 f p)))], [.int (nI (f0 + k))], M1)) rfl hR1 rfl hl25 rfl ?_
                            refine ps_st (S' := (185, [(6, .int (nI (f0 + k))), (0, .ref m0), (1, .int (nI p)), (2, .int (nI (by2 f pF))), (3, .int (nI f0)), (4, .int (nI k)), (5, .int (nI (by2 f p)))], [], M1)) rfl rfl rfl ?_
                            refine ps_st (S' := (186, [(6, .int (nI (f0 + k))), (0, .ref m0), (1, .int (nI p)), (2, .int (nI (by2 f pF))), (3, .int (nI f0)), (4, .int (nI k)), (5, .int (nI (by2 f p)))], [.ref m0], M1)) rfl rfl rfl ?_
                            refine pr_ref (j := 27) (S' := (189, [(6, .int (nI (f0 + k))), (0, .ref m0), (1, .int (nI p)), (2, .int (nI (by2 f pF))), (3, .int (nI f0)), (4, .int (nI k)), (5, .int (nI (by2 f p)))], [.ref (q 27)], M1)) rfl hR1 rfl rfl ?_
                            refine ps_st (S' := (191, [(6, .int (nI (f0 + k))), (0, .ref m0), (1, .int (nI p)), (2, .int (nI (by2 f pF))), (3, .int (nI f0)), (4, .int (nI k)), (5, .int (nI (by2 f p)))], [.int (nI (f0 + k)), .ref (q 27)], M1)) rfl rfl rfl ?_
                            refine ps_st (S' := (193, [(6, .int (nI (f0 + k))), (0, .ref m0), (1, .int (nI p)), (2, .int (nI (by2 f pF))), (3, .int (nI f0)), (4, .int (nI k)), (5, .int (nI (by2 f p)))], [.int (nI (by2 f p)), .int (nI (f0 + k)), .ref (q 27)], M1)) rfl rfl rfl ?_
                            refine pr_st (a := 27) (j := f0 + k) rfl hR1 rfl (by omega) (fun M853 R854 i1_193 hR855 hS856 => ?_)
                            have hF_857 := hF1.mono (fun _ _ => rfl) (rRx hS856 (by decide))
                            have hY_858 := hY1.mono (fun _ _ => rfl) (rRx hS856 (by decide))
                            have hP_859 := hP1.mono (fun _ _ => rfl) (rRx hS856 (by decide))
                            have hK_860 := hK1.mono (fun _ _ => rfl) (rRx hS856 (by decide))
                            have hN9_861 := hN91.mono (fun _ _ => rfl) (rRx hS856 (by decide))
                            have hER862 := hER1.st hS856 (by decide)
                            show pl _ _ _ (194, [(6, .int (nI (f0 + k))), (0, .ref m0), (1, .int (nI p)), (2, .int (nI (by2 f pF))), (3, .int (nI f0)), (4, .int (nI k)), (5, .int (nI (by2 f p)))], [], M853) _
                            have c27_863 : CE 27 (f0 + k) (nI (by2 f p)) I1 R854 := CE.st hS856
                            refine ps_st (S' := (195, [(6, .int (nI (f0 + k))), (0, .ref m0), (1, .int (nI p)), (2, .int (nI (by2 f pF))), (3, .int (nI f0)), (4, .int (nI k)), (5, .int (nI (by2 f p)))], [.ref m0], M853)) rfl rfl rfl ?_
                            refine pr_ref (j := 28) (S' := (198, [(6, .int (nI (f0 + k))), (0, .ref m0), (1, .int (nI p)), (2, .int (nI (by2 f pF))), (3, .int (nI f0)), (4, .int (nI k)), (5, .int (nI (by2 f p)))], [.ref (q 28)], M853)) rfl hR855 rfl rfl ?_
                            refine ps_st (S' := (200, [(6, .int (nI (f0 + k))), (0, .ref m0), (1, .int (nI p)), (2, .int (nI (by2 f pF))), (3, .int (nI f0)), (4, .int (nI k)), (5, .int (nI (by2 f p)))], [.int (nI (f0 + k)), .ref (q 28)], M853)) rfl rfl rfl ?_
                            refine ps_st (S' := (201, [(6, .int (nI (f0 + k))), (0, .ref m0), (1, .int (nI p)), (2, .int (nI (by2 f pF))), (3, .int (nI f0)), (4, .int (nI k)), (5, .int (nI (by2 f p)))], [.ref m0, .int (nI (f0 + k)), .ref (q 28)], M853)) rfl rfl rfl ?_
                            refine ps_st (S' := (202, [(6, .int (nI (f0 + k))), (0, .ref m0), (1, .int (nI p)), (2, .int (nI (by2 f pF))), (3, .int (nI f0)), (4, .int (nI k)), (5, .int (nI (by2 f p)))], [.ref m0, .ref m0, .int (nI (f0 + k)), .ref (q 28)], M853)) rfl rfl rfl ?_
                            refine ps_st (S' := (203, [(6, .int (nI (f0 + k))), (0, .ref m0), (1, .int (nI p)), (2, .int (nI (by2 f pF))), (3, .int (nI f0)), (4, .int (nI k)), (5, .int (nI (by2 f p)))], [.int (nI p), .ref m0, .ref m0, .int (nI (f0 + k)), .ref (q 28)], M853)) rfl rfl rfl ?_
                            refine ps_st (S' := (204, [(6, .int (nI (f0 + k))), (0, .ref m0), (1, .int (nI p)), (2, .int (nI (by2 f pF))), (3, .int (nI f0)), (4, .int (nI k)), (5, .int (nI (by2 f p)))], [.int 2, .int (nI p), .ref m0, .ref m0, .int (nI (f0 + k)), .ref (q 28)], M853)) rfl rfl rfl ?_
                            refine ps_st (S' := (205, [(6, .int (nI (f0 + k))), (0, .ref m0), (1, .int (nI p)), (2, .int (nI (by2 f pF))), (3, .int (nI f0)), (4, .int (nI k)), (5, .int (nI (by2 f p)))], [.int ((nI p) + 2), .ref m0, .ref m0, .int (nI (f0 + k)), .ref (q 28)], M853)) rfl rfl rfl ?_
                            rw [nI_add1 (p := p) (k := 2) (x := 2) rfl (by omega)]
                            show pl _ _ _ (_, [(6, .int (nI (f0 + k))), (0, .ref m0), (1, .int (nI p)), (2, .int (nI (by2 f pF))), (3, .int (nI f0)), (4, .int (nI k)), (5, .int (nI (by2 f p)))], [.int (nI (p + 2)), .ref m0, .ref m0, .int (nI (f0 + k)), .ref (q 28)], M853) _
                            refine pl_call (a := [.ref m0, .int (nI (p + 2))]) (rest := [.ref m0, .int (nI (f0 + k)), .ref (q 28)]) rfl rfl rfl (rd_u2 (n := n) (f := f) (p := (p + 2)) hR855 hF_857 (by omega)) (fun v864 M865 q866 => ?_)
                            obtain ⟨rfl, rfl⟩ := q866
                            show pl _ _ _ (208, [(6, .int (nI (f0 + k))), (0, .ref m0), (1, .int (nI p)), (2, .int (nI (by2 f pF))), (3, .int (nI f0)), (4, .int (nI k)), (5, .int (nI (by2 f p)))], [.int (nI (by2 f (p + 2))), .ref m0, .int (nI (f0 + k)), .ref (q 28)], M853) _
                            have hu_205 := by2_lt f (p + 2)
                            refine pl_call (a := [.ref m0, .int (nI (by2 f (p + 2)))]) (rest := [.int (nI (f0 + k)), .ref (q 28)]) rfl rfl rfl (rd_symOf (n := n) (f := f) (tx := tx) (cN := cN) (A := A) (N := N) (mj := mj) (E := E) (k := (by2 f (p + 2))) hR855 hl51 hl52 hl53 hF_857 hY_858 hP_859 (hEP) (hN) (hmj) (by omega)) (fun v867 M868 q869 => ?_)
                            obtain ⟨s870, q208_s, rfl, rfl⟩ := q869
                            show pl _ _ _ (211, [(6, .int (nI (f0 + k))), (0, .ref m0), (1, .int (nI p)), (2, .int (nI (by2 f pF))), (3, .int (nI f0)), (4, .int (nI k)), (5, .int (nI (by2 f p)))], [.int (nI s870), .int (nI (f0 + k)), .ref (q 28)], M853) _
                            have hsl_208 := q208_s.1
                            have htl_208 := hY_858.1.2.2.1
                            refine pr_st (a := 28) (j := f0 + k) rfl hR855 rfl (by omega) (fun M871 R872 i1_211 hR873 hS874 => ?_)
                            have hF_875 := hF_857.mono (fun _ _ => rfl) (rRx hS874 (by decide))
                            have hY_876 := hY_858.mono (fun _ _ => rfl) (rRx hS874 (by decide))
                            have hP_877 := hP_859.mono (fun _ _ => rfl) (rRx hS874 (by decide))
                            have hK_878 := hK_860.mono (fun _ _ => rfl) (rRx hS874 (by decide))
                            have c27_879 := c27_863.mono (fun _ _ => rfl) (rRx hS874 (by decide))
                            have hER880 := hER862.st hS874 (by decide)
                            show pl _ _ _ (212, [(6, .int (nI (f0 + k))), (0, .ref m0), (1, .int (nI p)), (2, .int (nI (by2 f pF))), (3, .int (nI f0)), (4, .int (nI k)), (5, .int (nI (by2 f p)))], [], M871) _
                            have c28_881 : CE 28 (f0 + k) (nI s870) I1 R872 := CE.st hS874
                            have hN9_882 := FN.st (I' := I1) hN9_861 hS874 rfl
                            refine ps_st (S' := (213, [(6, .int (nI (f0 + k))), (0, .ref m0), (1, .int (nI p)), (2, .int (nI (by2 f pF))), (3, .int (nI f0)), (4, .int (nI k)), (5, .int (nI (by2 f p)))], [.ref m0], M871)) rfl rfl rfl ?_
                            refine pr_ref (j := 29) (S' := (216, [(6, .int (nI (f0 + k))), (0, .ref m0), (1, .int (nI p)), (2, .int (nI (by2 f pF))), (3, .int (nI f0)), (4, .int (nI k)), (5, .int (nI (by2 f p)))], [.ref (q 29)], M871)) rfl hR873 rfl rfl ?_
                            refine ps_st (S' := (218, [(6, .int (nI (f0 + k))), (0, .ref m0), (1, .int (nI p)), (2, .int (nI (by2 f pF))), (3, .int (nI f0)), (4, .int (nI k)), (5, .int (nI (by2 f p)))], [.int (nI (f0 + k)), .ref (q 29)], M871)) rfl rfl rfl ?_
                            refine ps_st (S' := (219, [(6, .int (nI (f0 + k))), (0, .ref m0), (1, .int (nI p)), (2, .int (nI (by2 f pF))), (3, .int (nI f0)), (4, .int (nI k)), (5, .int (nI (by2 f p)))], [.ref m0, .int (nI (f0 + k)), .ref (q 29)], M871)) rfl rfl rfl ?_
                            refine ps_st (S' := (220, [(6, .int (nI (f0 + k))), (0, .ref m0), (1, .int (nI p)), (2, .int (nI (by2 f pF))), (3, .int (nI f0)), (4, .int (nI k)), (5, .int (nI (by2 f p)))], [.ref m0, .ref m0, .int (nI (f0 + k)), .ref (q 29)], M871)) rfl rfl rfl ?_
                            refine ps_st (S' := (221, [(6, .int (nI (f0 + k))), (0, .ref m0), (1, .int (nI p)), (2, .int (nI (by2 f pF))), (3, .int (nI f0)), (4, .int (nI k)), (5, .int (nI (by2 f p)))], [.int (nI p), .ref m0, .ref m0, .int (nI (f0 + k)), .ref (q 29)], M871)) rfl rfl rfl ?_
                            refine ps_st (S' := (222, [(6, .int (nI (f0 + k))), (0, .ref m0), (1, .int (nI p)), (2, .int (nI (by2 f pF))), (3, .int (nI f0)), (4, .int (nI k)), (5, .int (nI (by2 f p)))], [.int 4, .int (nI p), .ref m0, .ref m0, .int (nI (f0 + k)), .ref (q 29)], M871)) rfl rfl rfl ?_
                            refine ps_st (S' := (223, [(6, .int (nI (f0 + k))), (0, .ref m0), (1, .int (nI p)), (2, .int (nI (by2 f pF))), (3, .int (nI f0)), (4, .int (nI k)), (5, .int (nI (by2 f p)))], [.int ((nI p) + 4), .ref m0, .ref m0, .int (nI (f0 + k)), .ref (q 29)], M871)) rfl rfl rfl ?_
                            rw [nI_add1 (p := p) (k := 4) (x := 4) rfl (by omega)]
                            show pl _ _ _ (_, [(6, .int (nI (f0 + k))), (0, .ref m0), (1, .int (nI p)), (2, .int (nI (by2 f pF))), (3, .int (nI f0)), (4, .int (nI k)), (5, .int (nI (by2 f p)))], [.int (nI (p + 4)), .ref m0, .ref m0, .int (nI (f0 + k)), .ref (q 29)], M871) _
                            refine pl_call (a := [.ref m0, .int (nI (p + 4))]) (rest := [.ref m0, .int (nI (f0 + k)), .ref (q 29)]) rfl rfl rfl (rd_u2 (n := n) (f := f) (p := (p + 4)) hR873 hF_875 (by omega)) (fun v883 M884 q885 => ?_)
                            obtain ⟨rfl, rfl⟩ := q885
                            show pl _ _ _ (226, [(6, .int (nI (f0 + k))), (0, .ref m0), (1, .int (nI p)), (2, .int (nI (by2 f pF))), (3, .int (nI f0)), (4, .int (nI k)), (5, .int (nI (by2 f p)))], [.int (nI (by2 f (p + 4))), .ref m0, .int (nI (f0 + k)), .ref (q 29)], M871) _
                            have hu_223 := by2_lt f (p + 4)
                            refine pl_call (a := [.ref m0, .int (nI (by2 f (p + 4)))]) (rest := [.int (nI (f0 + k)), .ref (q 29)]) rfl rfl rfl (rd_symOf (n := n) (f := f) (tx := tx) (cN := cN) (A := A) (N := N) (mj := mj) (E := E) (k := (by2 f (p + 4))) hR873 hl51 hl52 hl53 hF_875 hY_876 hP_877 (hEP) (hN) (hmj) (by omega)) (fun v886 M887 q888 => ?_)
                            obtain ⟨s889, q226_s, rfl, rfl⟩ := q888
                            show pl _ _ _ (229, [(6, .int (nI (f0 + k))), (0, .ref m0), (1, .int (nI p)), (2, .int (nI (by2 f pF))), (3, .int (nI f0)), (4, .int (nI k)), (5, .int (nI (by2 f p)))], [.int (nI s889), .int (nI (f0 + k)), .ref (q 29)], M871) _
                            have hsl_226 := q226_s.1
                            have htl_226 := hY_876.1.2.2.1
                            refine pr_st (a := 29) (j := f0 + k) rfl hR873 rfl (by omega) (fun M890 R891 i1_229 hR892 hS893 => ?_)
                            have hF_894 := hF_875.mono (fun _ _ => rfl) (rRx hS893 (by decide))
                            have hY_895 := hY_876.mono (fun _ _ => rfl) (rRx hS893 (by decide))
                            have hP_896 := hP_877.mono (fun _ _ => rfl) (rRx hS893 (by decide))
                            have hK_897 := hK_878.mono (fun _ _ => rfl) (rRx hS893 (by decide))
                            have c27_898 := c27_879.mono (fun _ _ => rfl) (rRx hS893 (by decide))
                            have c28_899 := c28_881.mono (fun _ _ => rfl) (rRx hS893 (by decide))
                            have hER900 := hER880.st hS893 (by decide)
                            show pl _ _ _ (230, [(6, .int (nI (f0 + k))), (0, .ref m0), (1, .int (nI p)), (2, .int (nI (by2 f pF))), (3, .int (nI f0)), (4, .int (nI k)), (5, .int (nI (by2 f p)))], [], M890) _
                            have c29_901 : CE 29 (f0 + k) (nI s889) I1 R891 := CE.st hS893
                            have hN9_902 := FN.st (I' := I1) hN9_882 hS893 rfl
                            refine ps_st (S' := (231, [(6, .int (nI (f0 + k))), (0, .ref m0), (1, .int (nI p)), (2, .int (nI (by2 f pF))), (3, .int (nI f0)), (4, .int (nI k)), (5, .int (nI (by2 f p)))], [.ref m0], M890)) rfl rfl rfl ?_
                            refine pr_ref (j := 30) (S' := (234, [(6, .int (nI (f0 + k))), (0, .ref m0), (1, .int (nI p)), (2, .int (nI (by2 f pF))), (3, .int (nI f0)), (4, .int (nI k)), (5, .int (nI (by2 f p)))], [.ref (q 30)], M890)) rfl hR892 rfl rfl ?_
                            refine ps_st (S' := (236, [(6, .int (nI (f0 + k))), (0, .ref m0), (1, .int (nI p)), (2, .int (nI (by2 f pF))), (3, .int (nI f0)), (4, .int (nI k)), (5, .int (nI (by2 f p)))], [.int (nI (f0 + k)), .ref (q 30)], M890)) rfl rfl rfl ?_
                            refine ps_st (S' := (237, [(6, .int (nI (f0 + k))), (0, .ref m0), (1, .int (nI p)), (2, .int (nI (by2 f pF))), (3, .int (nI f0)), (4, .int (nI k)), (5, .int (nI (by2 f p)))], [.int 0, .int (nI (f0 + k)), .ref (q 30)], M890)) rfl rfl rfl ?_
                            refine pr_st (a := 30) (j := f0 + k) rfl hR892 rfl (by omega) (fun M903 R904 i1_237 hR905 hS906 => ?_)
                            have hF_907 := hF_894.mono (fun _ _ => rfl) (rRx hS906 (by decide))
                            have hY_908 := hY_895.mono (fun _ _ => rfl) (rRx hS906 (by decide))
                            have hP_909 := hP_896.mono (fun _ _ => rfl) (rRx hS906 (by decide))
                            have hK_910 := hK_897.mono (fun _ _ => rfl) (rRx hS906 (by decide))
                            have c27_911 := c27_898.mono (fun _ _ => rfl) (rRx hS906 (by decide))
                            have c28_912 := c28_899.mono (fun _ _ => rfl) (rRx hS906 (by decide))
                            have c29_913 := c29_901.mono (fun _ _ => rfl) (rRx hS906 (by decide))
                            have hN9_914 := hN9_902.mono (fun _ _ => rfl) (rRx hS906 (by decide))
                            have hER915 := hER900.st hS906 (by decide)
                            show pl _ _ _ (238, [(6, .int (nI (f0 + k))), (0, .ref m0), (1, .int (nI p)), (2, .int (nI (by2 f pF))), (3, .int (nI f0)), (4, .int (nI k)), (5, .int (nI (by2 f p)))], [], M903) _
                            refine ps_st (S' := (239, [(6, .int (nI (f0 + k))), (0, .ref m0), (1, .int (nI p)), (2, .int (nI (by2 f pF))), (3, .int (nI f0)), (4, .int (nI k)), (5, .int (nI (by2 f p)))], [.ref m0], M903)) rfl rfl rfl ?_
                            refine pr_ref (j := 31) (S' := (242, [(6, .int (nI (f0 + k))), (0, .ref m0), (1, .int (nI p)), (2, .int (nI (by2 f pF))), (3, .int (nI f0)), (4, .int (nI k)), (5, .int (nI (by2 f p)))], [.ref (q 31)], M903)) rfl hR905 rfl rfl ?_
                            refine ps_st (S' := (244, [(6, .int (nI (f0 + k))), (0, .ref m0), (1, .int (nI p)), (2, .int (nI (by2 f pF))), (3, .int (nI f0)), (4, .int (nI k)), (5, .int (nI (by2 f p)))], [.int (nI (f0 + k)), .ref (q 31)], M903)) rfl rfl rfl ?_
                            refine ps_st (S' := (245, [(6, .int (nI (f0 + k))), (0, .ref m0), (1, .int (nI p)), (2, .int (nI (by2 f pF))), (3, .int (nI f0)), (4, .int (nI k)), (5, .int (nI (by2 f p)))], [.int 0, .int (nI (f0 + k)), .ref (q 31)], M903)) rfl rfl rfl ?_
                            refine pr_st (a := 31) (j := f0 + k) rfl hR905 rfl (by omega) (fun M916 R917 i1_245 hR918 hS919 => ?_)
                            have hF_920 := hF_907.mono (fun _ _ => rfl) (rRx hS919 (by decide))
                            have hY_921 := hY_908.mono (fun _ _ => rfl) (rRx hS919 (by decide))
                            have hP_922 := hP_909.mono (fun _ _ => rfl) (rRx hS919 (by decide))
                            have hK_923 := hK_910.mono (fun _ _ => rfl) (rRx hS919 (by decide))
                            have c27_924 := c27_911.mono (fun _ _ => rfl) (rRx hS919 (by decide))
                            have c28_925 := c28_912.mono (fun _ _ => rfl) (rRx hS919 (by decide))
                            have c29_926 := c29_913.mono (fun _ _ => rfl) (rRx hS919 (by decide))
                            have hN9_927 := hN9_914.mono (fun _ _ => rfl) (rRx hS919 (by decide))
                            have hER928 := hER915.st hS919 (by decide)
                            show pl _ _ _ (246, [(6, .int (nI (f0 + k))), (0, .ref m0), (1, .int (nI p)), (2, .int (nI (by2 f pF))), (3, .int (nI f0)), (4, .int (nI k)), (5, .int (nI (by2 f p)))], [], M916) _
                            refine ps_st (S' := (247, [(6, .int (nI (f0 + k))), (0, .ref m0), (1, .int (nI p)), (2, .int (nI (by2 f pF))), (3, .int (nI f0)), (4, .int (nI k)), (5, .int (nI (by2 f p)))], [.ref m0], M916)) rfl rfl rfl ?_
                            refine pr_ref (j := 32) (S' := (250, [(6, .int (nI (f0 + k))), (0, .ref m0), (1, .int (nI p)), (2, .int (nI (by2 f pF))), (3, .int (nI f0)), (4, .int (nI k)), (5, .int (nI (by2 f p)))], [.ref (q 32)], M916)) rfl hR918 rfl rfl ?_
                            refine ps_st (S' := (252, [(6, .int (nI (f0 + k))), (0, .ref m0), (1, .int (nI p)), (2, .int (nI (by2 f pF))), (3, .int (nI f0)), (4, .int (nI k)), (5, .int (nI (by2 f p)))], [.int (nI (f0 + k)), .ref (q 32)], M916)) rfl rfl rfl ?_
                            refine ps_st (S' := (253, [(6, .int (nI (f0 + k))), (0, .ref m0), (1, .int (nI p)), (2, .int (nI (by2 f pF))), (3, .int (nI f0)), (4, .int (nI k)), (5, .int (nI (by2 f p)))], [.ref m0, .int (nI (f0 + k)), .ref (q 32)], M916)) rfl rfl rfl ?_
                            refine ps_st (S' := (254, [(6, .int (nI (f0 + k))), (0, .ref m0), (1, .int (nI p)), (2, .int (nI (by2 f pF))), (3, .int (nI f0)), (4, .int (nI k)), (5, .int (nI (by2 f p)))], [.int (nI p), .ref m0, .int (nI (f0 + k)), .ref (q 32)], M916)) rfl rfl rfl ?_
                            refine ps_st (S' := (255, [(6, .int (nI (f0 + k))), (0, .ref m0), (1, .int (nI p)), (2, .int (nI (by2 f pF))), (3, .int (nI f0)), (4, .int (nI k)), (5, .int (nI (by2 f p)))], [.int 2, .int (nI p), .ref m0, .int (nI (f0 + k)), .ref (q 32)], M916)) rfl rfl rfl ?_
                            refine ps_st (S' := (256, [(6, .int (nI (f0 + k))), (0, .ref m0), (1, .int (nI p)), (2, .int (nI (by2 f pF))), (3, .int (nI f0)), (4, .int (nI k)), (5, .int (nI (by2 f p)))], [.int ((nI p) + 2), .ref m0, .int (nI (f0 + k)), .ref (q 32)], M916)) rfl rfl rfl ?_
                            rw [nI_add1 (p := p) (k := 2) (x := 2) rfl (by omega)]
                            show pl _ _ _ (_, [(6, .int (nI (f0 + k))), (0, .ref m0), (1, .int (nI p)), (2, .int (nI (by2 f pF))), (3, .int (nI f0)), (4, .int (nI k)), (5, .int (nI (by2 f p)))], [.int (nI (p + 2)), .ref m0, .int (nI (f0 + k)), .ref (q 32)], M916) _
                            refine pl_call (a := [.ref m0, .int (nI (p + 2))]) (rest := [.int (nI (f0 + k)), .ref (q 32)]) rfl rfl rfl (rd_u2 (n := n) (f := f) (p := (p + 2)) hR918 hF_920 (by omega)) (fun v929 M930 q931 => ?_)
                            obtain ⟨rfl, rfl⟩ := q931
                            show pl _ _ _ (259, [(6, .int (nI (f0 + k))), (0, .ref m0), (1, .int (nI p)), (2, .int (nI (by2 f pF))), (3, .int (nI f0)), (4, .int (nI k)), (5, .int (nI (by2 f p)))], [.int (nI (by2 f (p + 2))), .int (nI (f0 + k)), .ref (q 32)], M916) _
                            have hu_256 := by2_lt f (p + 2)
                            refine pr_st (a := 32) (j := f0 + k) rfl hR918 rfl (by omega) (fun M932 R933 i1_259 hR934 hS935 => ?_)
                            have hF_936 := hF_920.mono (fun _ _ => rfl) (rRx hS935 (by decide))
                            have hY_937 := hY_921.mono (fun _ _ => rfl) (rRx hS935 (by decide))
                            have hP_938 := hP_922.mono (fun _ _ => rfl) (rRx hS935 (by decide))
                            have hK_939 := hK_923.mono (fun _ _ => rfl) (rRx hS935 (by decide))
                            have c27_940 := c27_924.mono (fun _ _ => rfl) (rRx hS935 (by decide))
                            have c28_941 := c28_925.mono (fun _ _ => rfl) (rRx hS935 (by decide))
                            have c29_942 := c29_926.mono (fun _ _ => rfl) (rRx hS935 (by decide))
                            have hN9_943 := hN9_927.mono (fun _ _ => rfl) (rRx hS935 (by decide))
                            have hER944 := hER928.st hS935 (by decide)
                            show pl _ _ _ (260, [(6, .int (nI (f0 + k))), (0, .ref m0), (1, .int (nI p)), (2, .int (nI (by2 f pF))), (3, .int (nI f0)), (4, .int (nI k)), (5, .int (nI (by2 f p)))], [], M932) _
                            refine ps_st (S' := (261, [(6, .int (nI (f0 + k))), (0, .ref m0), (1, .int (nI p)), (2, .int (nI (by2 f pF))), (3, .int (nI f0)), (4, .int (nI k)), (5, .int (nI (by2 f p)))], [.ref m0], M932)) rfl rfl rfl ?_
                            refine pr_ref (j := 33) (S' := (264, [(6, .int (nI (f0 + k))), (0, .ref m0), (1, .int (nI p)), (2, .int (nI (by2 f pF))), (3, .int (nI f0)), (4, .int (nI k)), (5, .int (nI (by2 f p)))], [.ref (q 33)], M932)) rfl hR934 rfl rfl ?_
                            refine ps_st (S' := (266, [(6, .int (nI (f0 + k))), (0, .ref m0), (1, .int (nI p)), (2, .int (nI (by2 f pF))), (3, .int (nI f0)), (4, .int (nI k)), (5, .int (nI (by2 f p)))], [.int (nI (f0 + k)), .ref (q 33)], M932)) rfl rfl rfl ?_
                            refine ps_st (S' := (267, [(6, .int (nI (f0 + k))), (0, .ref m0), (1, .int (nI p)), (2, .int (nI (by2 f pF))), (3, .int (nI f0)), (4, .int (nI k)), (5, .int (nI (by2 f p)))], [.ref m0, .int (nI (f0 + k)), .ref (q 33)], M932)) rfl rfl rfl ?_
                            refine ps_st (S' := (268, [(6, .int (nI (f0 + k))), (0, .ref m0), (1, .int (nI p)), (2, .int (nI (by2 f pF))), (3, .int (nI f0)), (4, .int (nI k)), (5, .int (nI (by2 f p)))], [.int (nI p), .ref m0, .int (nI (f0 + k)), .ref (q 33)], M932)) rfl rfl rfl ?_
                            refine ps_st (S' := (269, [(6, .int (nI (f0 + k))), (0, .ref m0), (1, .int (nI p)), (2, .int (nI (by2 f pF))), (3, .int (nI f0)), (4, .int (nI k)), (5, .int (nI (by2 f p)))], [.int 4, .int (nI p), .ref m0, .int (nI (f0 + k)), .ref (q 33)], M932)) rfl rfl rfl ?_
                            refine ps_st (S' := (270, [(6, .int (nI (f0 + k))), (0, .ref m0), (1, .int (nI p)), (2, .int (nI (by2 f pF))), (3, .int (nI f0)), (4, .int (nI k)), (5, .int (nI (by2 f p)))], [.int ((nI p) + 4), .ref m0, .int (nI (f0 + k)), .ref (q 33)], M932)) rfl rfl rfl ?_
                            rw [nI_add1 (p := p) (k := 4) (x := 4) rfl (by omega)]
                            show pl _ _ _ (_, [(6, .int (nI (f0 + k))), (0, .ref m0), (1, .int (nI p)), (2, .int (nI (by2 f pF))), (3, .int (nI f0)), (4, .int (nI k)), (5, .int (nI (by2 f p)))], [.int (nI (p + 4)), .ref m0, .int (nI (f0 + k)), .ref (q 33)], M932) _
                            refine pl_call (a := [.ref m0, .int (nI (p + 4))]) (rest := [.int (nI (f0 + k)), .ref (q 33)]) rfl rfl rfl (rd_u2 (n := n) (f := f) (p := (p + 4)) hR934 hF_936 (by omega)) (fun v945 M946 q947 => ?_)
                            obtain ⟨rfl, rfl⟩ := q947
                            show pl _ _ _ (273, [(6, .int (nI (f0 + k))), (0, .ref m0), (1, .int (nI p)), (2, .int (nI (by2 f pF))), (3, .int (nI f0)), (4, .int (nI k)), (5, .int (nI (by2 f p)))], [.int (nI (by2 f (p + 4))), .int (nI (f0 + k)), .ref (q 33)], M932) _
                            have hu_270 := by2_lt f (p + 4)
                            refine pr_st (a := 33) (j := f0 + k) rfl hR934 rfl (by omega) (fun M948 R949 i1_273 hR950 hS951 => ?_)
                            have hF_952 := hF_936.mono (fun _ _ => rfl) (rRx hS951 (by decide))
                            have hY_953 := hY_937.mono (fun _ _ => rfl) (rRx hS951 (by decide))
                            have hP_954 := hP_938.mono (fun _ _ => rfl) (rRx hS951 (by decide))
                            have hK_955 := hK_939.mono (fun _ _ => rfl) (rRx hS951 (by decide))
                            have c27_956 := c27_940.mono (fun _ _ => rfl) (rRx hS951 (by decide))
                            have c28_957 := c28_941.mono (fun _ _ => rfl) (rRx hS951 (by decide))
                            have c29_958 := c29_942.mono (fun _ _ => rfl) (rRx hS951 (by decide))
                            have hN9_959 := hN9_943.mono (fun _ _ => rfl) (rRx hS951 (by decide))
                            have hER960 := hER944.st hS951 (by decide)
                            show pl _ _ _ (274, [(6, .int (nI (f0 + k))), (0, .ref m0), (1, .int (nI p)), (2, .int (nI (by2 f pF))), (3, .int (nI f0)), (4, .int (nI k)), (5, .int (nI (by2 f p)))], [], M948) _
                            refine ps_st (S' := (275, [(6, .int (nI (f0 + k))), (0, .ref m0), (1, .int (nI p)), (2, .int (nI (by2 f pF))), (3, .int (nI f0)), (4, .int (nI k)), (5, .int (nI (by2 f p)))], [.int (nI f0)], M948)) rfl rfl rfl ?_
                            refine ps_st (S' := (277, [(0, .ref m0), (1, .int (nI p)), (2, .int (nI (by2 f pF))), (3, .int (nI f0)), (4, .int (nI k)), (6, .int (nI (f0 + k))), (7, .int (nI f0))], [], M948)) rfl rfl rfl ?_
                            have h19 : ¬ fflN cf (by2 f p) = 0 := by
                              have e1 := ffl_0 cf (by2 f p)
                              have e2 := sev_0 (by2 f p)
                              have e3 := hall_80 (by2 f p)
                              omega
                            exact ih.2 (k) (p) (0) (s870) (s889) M948 I1 R949 hR950 hEI1 hER960 hl51 hl52 hl53 hl58 hl55 hl25 hF_952 hY_953 hP_954 hK_955 hN9_959 c27_956 c28_957 c29_958 (by omega) (hpk) (by omega) (hs) (by omega) (by omega) (q208_s) (q226_s) (by omega) (by omega) (h19) (by omega) (by omega) (rfl)
                          · have c_166 : ¬ (¬ (nI (fldN (tX f n E (by2 f (p + 4))))) = 0) := of_decide_eq_false c_166
                            have n_166 : fldN (tX f n E (by2 f (p + 4))) = 0 := (eq_nI (p := fldN (tX f n E (by2 f (p + 4)))) (n := 0) (Nat.lt_trans (le1_fld _) (by decide)) (by decide)).mp (Decidable.not_not.mp c_166)
                            refine ps_st (S' := (170, [(0, .ref m0), (1, .int (nI p))], [.ref m0], M1)) rfl rfl rfl ?_
                            refine ps_st (S' := (172, [(0, .ref m0), (1, .int (nI p))], [.int 21, .ref m0], M1)) rfl rfl rfl ?_
                            refine ps_st (S' := (173, [(0, .ref m0), (1, .int (nI p))], [.int (nI p), .int 21, .ref m0], M1)) rfl rfl rfl ?_
                            refine ps_st (S' := (174, [(0, .ref m0), (1, .int (nI p))], [.int 4, .int (nI p), .int 21, .ref m0], M1)) rfl rfl rfl ?_
                            refine ps_st (S' := (175, [(0, .ref m0), (1, .int (nI p))], [.int ((nI p) + 4), .int 21, .ref m0], M1)) rfl rfl rfl ?_
                            rw [nI_add1 (p := p) (k := 4) (x := 4) rfl (by omega)]
                            show pl _ _ _ (_, [(0, .ref m0), (1, .int (nI p))], [.int (nI (p + 4)), .int 21, .ref m0], M1) _
                            refine pl_call (a := [.ref m0, .int 21, .int (nI (p + 4))]) (rest := []) rfl rfl rfl (rd_wrong (x1 := 21) (x2 := (nI (p + 4))) hR1) (fun v961 M962 q963 => ?_)
                            obtain ⟨I964, R965, rfl, hR966, hI967, hX968, hi969, hi970⟩ := q963
                            have hi971 := (hI967 51 (by decide)).trans hl51
                            have hi972 := (hI967 52 (by decide)).trans hl52
                            have hi973 := (hI967 53 (by decide)).trans hl53
                            have hi974 := (hI967 58 (by decide)).trans hl58
                            have hi975 := (hI967 55 (by decide)).trans hl55
                            have hi976 := (hI967 25 (by decide)).trans hl25
                            have hF_977 := hF1.mono (cIx hI967 (by decide)) (cRx hX968 (by decide))
                            have hY_978 := hY1.mono (cIx hI967 (by decide)) (cRx hX968 (by decide))
                            have hP_979 := hP1.mono (cIx hI967 (by decide)) (cRx hX968 (by decide))
                            have hK_980 := hK1.mono (cIx hI967 (by decide)) (cRx hX968 (by decide))
                            have hN9_981 := hN91.mono (cIx hI967 (by decide)) (cRx hX968 (by decide))
                            have hEI982 := hEI1.tr hI967 (by decide)
                            have hER983 := hER1.tr hX968 (by decide)
                            show pl _ _ _ (178, [(0, .ref m0), (1, .int (nI p))], [.int 0], M962) _
                            exact ps_ret rfl rfl (Or.inr ⟨(21, p + 4), I964, R965, by
                                rw [← hs, flS_st (i := k) (by omega), ← hpk, fh_21 (by have e1 := ffl_0 cf (by2 f p); have e2 := sev_0 (by2 f p); have e3 := hall_80 (by2 f p); omega) (by omega) (by omega)], rfl, hR966, hEI982, hER983, hi969, hi970⟩)
                      · have c_123 : ¬ (¬ (nI (unqN (tX f n E (by2 f (p + 2))))) = 0) := of_decide_eq_false c_123
                        have n_123 : unqN (tX f n E (by2 f (p + 2))) = 0 := (eq_nI (p := unqN (tX f n E (by2 f (p + 2)))) (n := 0) (Nat.lt_trans (le1_unq _) (by decide)) (by decide)).mp (Decidable.not_not.mp c_123)
                        refine ps_st (S' := (127, [(0, .ref m0), (1, .int (nI p))], [.ref m0], M1)) rfl rfl rfl ?_
                        refine ps_st (S' := (129, [(0, .ref m0), (1, .int (nI p))], [.int 20, .ref m0], M1)) rfl rfl rfl ?_
                        refine ps_st (S' := (130, [(0, .ref m0), (1, .int (nI p))], [.int (nI p), .int 20, .ref m0], M1)) rfl rfl rfl ?_
                        refine ps_st (S' := (131, [(0, .ref m0), (1, .int (nI p))], [.int 2, .int (nI p), .int 20, .ref m0], M1)) rfl rfl rfl ?_
                        refine ps_st (S' := (132, [(0, .ref m0), (1, .int (nI p))], [.int ((nI p) + 2), .int 20, .ref m0], M1)) rfl rfl rfl ?_
                        rw [nI_add1 (p := p) (k := 2) (x := 2) rfl (by omega)]
                        show pl _ _ _ (_, [(0, .ref m0), (1, .int (nI p))], [.int (nI (p + 2)), .int 20, .ref m0], M1) _
                        refine pl_call (a := [.ref m0, .int 20, .int (nI (p + 2))]) (rest := []) rfl rfl rfl (rd_wrong (x1 := 20) (x2 := (nI (p + 2))) hR1) (fun v984 M985 q986 => ?_)
                        obtain ⟨I987, R988, rfl, hR989, hI990, hX991, hi992, hi993⟩ := q986
                        have hi994 := (hI990 51 (by decide)).trans hl51
                        have hi995 := (hI990 52 (by decide)).trans hl52
                        have hi996 := (hI990 53 (by decide)).trans hl53
                        have hi997 := (hI990 58 (by decide)).trans hl58
                        have hi998 := (hI990 55 (by decide)).trans hl55
                        have hi999 := (hI990 25 (by decide)).trans hl25
                        have hF_1000 := hF1.mono (cIx hI990 (by decide)) (cRx hX991 (by decide))
                        have hY_1001 := hY1.mono (cIx hI990 (by decide)) (cRx hX991 (by decide))
                        have hP_1002 := hP1.mono (cIx hI990 (by decide)) (cRx hX991 (by decide))
                        have hK_1003 := hK1.mono (cIx hI990 (by decide)) (cRx hX991 (by decide))
                        have hN9_1004 := hN91.mono (cIx hI990 (by decide)) (cRx hX991 (by decide))
                        have hEI1005 := hEI1.tr hI990 (by decide)
                        have hER1006 := hER1.tr hX991 (by decide)
                        show pl _ _ _ (135, [(0, .ref m0), (1, .int (nI p))], [.int 0], M985) _
                        exact ps_ret rfl rfl (Or.inr ⟨(20, p + 2), I987, R988, by
                            rw [← hs, flS_st (i := k) (by omega), ← hpk, fh_20 (by have e1 := ffl_0 cf (by2 f p); have e2 := sev_0 (by2 f p); have e3 := hall_80 (by2 f p); omega) (by omega)], rfl, hR989, hEI1005, hER1006, hi992, hi993⟩)
                  · have c_81 : ¬ ((nI (aN (by2 f p) 16607)) = 25) := of_decide_eq_false c_81
                    have n_81 : ¬ (aN (by2 f p) 16607 = 25) := fun h9 => c_81 ((eq_nI (p := aN (by2 f p) 16607) (n := 25) (Nat.lt_of_le_of_lt (an_le _ _) (by decide)) (by decide)).mpr h9)
                    refine ps_st (S' := (85, [(0, .ref m0), (1, .int (nI p))], [.ref m0], M1)) rfl rfl rfl ?_
                    refine ps_st (S' := (87, [(0, .ref m0), (1, .int (nI p))], [.int 19, .ref m0], M1)) rfl rfl rfl ?_
                    refine ps_st (S' := (88, [(0, .ref m0), (1, .int (nI p))], [.int (nI p), .int 19, .ref m0], M1)) rfl rfl rfl ?_
                    refine pl_call (a := [.ref m0, .int 19, .int (nI p)]) (rest := []) rfl rfl rfl (rd_wrong (x1 := 19) (x2 := (nI p)) hR1) (fun v1007 M1008 q1009 => ?_)
                    obtain ⟨I1010, R1011, rfl, hR1012, hI1013, hX1014, hi1015, hi1016⟩ := q1009
                    have hi1017 := (hI1013 51 (by decide)).trans hl51
                    have hi1018 := (hI1013 52 (by decide)).trans hl52
                    have hi1019 := (hI1013 53 (by decide)).trans hl53
                    have hi1020 := (hI1013 58 (by decide)).trans hl58
                    have hi1021 := (hI1013 55 (by decide)).trans hl55
                    have hi1022 := (hI1013 25 (by decide)).trans hl25
                    have hF_1023 := hF1.mono (cIx hI1013 (by decide)) (cRx hX1014 (by decide))
                    have hY_1024 := hY1.mono (cIx hI1013 (by decide)) (cRx hX1014 (by decide))
                    have hP_1025 := hP1.mono (cIx hI1013 (by decide)) (cRx hX1014 (by decide))
                    have hK_1026 := hK1.mono (cIx hI1013 (by decide)) (cRx hX1014 (by decide))
                    have hN9_1027 := hN91.mono (cIx hI1013 (by decide)) (cRx hX1014 (by decide))
                    have hEI1028 := hEI1.tr hI1013 (by decide)
                    have hER1029 := hER1.tr hX1014 (by decide)
                    show pl _ _ _ (91, [(0, .ref m0), (1, .int (nI p))], [.int 0], M1008) _
                    exact ps_ret rfl rfl (Or.inr ⟨(19, p), I1010, R1011, by
                        rw [← hs, flS_st (i := k) (by omega), ← hpk, fh_19 (by have e1 := ffl_0 cf (by2 f p); have e2 := sev_0 (by2 f p); have e3 := hall_80 (by2 f p); omega)], rfl, hR1012, hEI1028, hER1029, hi1015, hi1016⟩)
      · skip
        intro k p j a d M1 I1 R1 hR1 hEI1 hER1 hl51 hl52 hl53 hl58 hl55 hl25 hF1 hY1 hP1 hK1 hN91 c271 c281 c291 hk0 hpk hpe hs hj hx hsa hsd ht1 ht2 h19 h20 h21 hd9
        have hn := hF1.1
        have hu9 := by2_lt f pF
        have htl := hY1.1.2.2.1
        have hBl := hMB.1
        refine ps_st1 (S' := (279, [(0, .ref m0), (1, .int (nI p)), (2, .int (nI (by2 f pF))), (3, .int (nI f0)), (4, .int (nI k)), (6, .int (nI (f0 + k))), (7, .int (nI (f0 + j)))], [.int (nI (f0 + j))], M1)) rfl rfl rfl ?_
        refine ps_st (S' := (281, [(0, .ref m0), (1, .int (nI p)), (2, .int (nI (by2 f pF))), (3, .int (nI f0)), (4, .int (nI k)), (6, .int (nI (f0 + k))), (7, .int (nI (f0 + j)))], [.int (nI (f0 + k)), .int (nI (f0 + j))], M1)) rfl rfl rfl ?_
        refine ps_if2 (S1 := (332, [(0, .ref m0), (1, .int (nI p)), (2, .int (nI (by2 f pF))), (3, .int (nI f0)), (4, .int (nI k)), (6, .int (nI (f0 + k))), (7, .int (nI (f0 + j)))], [], M1)) (S2 := (284, [(0, .ref m0), (1, .int (nI p)), (2, .int (nI (by2 f pF))), (3, .int (nI f0)), (4, .int (nI k)), (6, .int (nI (f0 + k))), (7, .int (nI (f0 + j)))], [], M1)) rfl rfl rfl (fun c_281 => ?_) (fun c_281 => ?_)
        · have c_281 : (nI (f0 + k)) ≤ (nI (f0 + j)) := of_decide_eq_true c_281
          have n_281 : f0 + k ≤ f0 + j := (le_nI (p := f0 + k) (n := f0 + j) (by omega) (by omega)).mp c_281
          refine ps_st (S' := (333, [(0, .ref m0), (1, .int (nI p)), (2, .int (nI (by2 f pF))), (3, .int (nI f0)), (4, .int (nI k)), (6, .int (nI (f0 + k))), (7, .int (nI (f0 + j)))], [.ref m0], M1)) rfl rfl rfl ?_
          refine ps_st (S' := (334, [(0, .ref m0), (1, .int (nI p)), (2, .int (nI (by2 f pF))), (3, .int (nI f0)), (4, .int (nI k)), (6, .int (nI (f0 + k))), (7, .int (nI (f0 + j)))], [.ref m0, .ref m0], M1)) rfl rfl rfl ?_
          refine pr_int (j := 25) (S' := (337, [(0, .ref m0), (1, .int (nI p)), (2, .int (nI (by2 f pF))), (3, .int (nI f0)), (4, .int (nI k)), (6, .int (nI (f0 + k))), (7, .int (nI (f0 + j)))], [.int (nI (f0 + k)), .ref m0], M1)) rfl hR1 rfl hl25 rfl ?_
          refine ps_st (S' := (338, [(0, .ref m0), (1, .int (nI p)), (2, .int (nI (by2 f pF))), (3, .int (nI f0)), (4, .int (nI k)), (6, .int (nI (f0 + k))), (7, .int (nI (f0 + j)))], [.int 1, .int (nI (f0 + k)), .ref m0], M1)) rfl rfl rfl ?_
          refine ps_st (S' := (339, [(0, .ref m0), (1, .int (nI p)), (2, .int (nI (by2 f pF))), (3, .int (nI f0)), (4, .int (nI k)), (6, .int (nI (f0 + k))), (7, .int (nI (f0 + j)))], [.int ((nI (f0 + k)) + 1), .ref m0], M1)) rfl rfl rfl ?_
          rw [nI_add1 (p := f0 + k) (k := 1) (x := 1) rfl (by omega)]
          show pl _ _ _ (_, [(0, .ref m0), (1, .int (nI p)), (2, .int (nI (by2 f pF))), (3, .int (nI f0)), (4, .int (nI k)), (6, .int (nI (f0 + k))), (7, .int (nI (f0 + j)))], [.int (nI (f0 + k + 1)), .ref m0], M1) _
          refine pr_put (j := 25) rfl hR1 rfl (fun M1030 I1031 hR1032 hi1033 hI1034 => ?_)
          have hi1035 := (hI1034 51 (by decide)).trans hl51
          have hi1036 := (hI1034 52 (by decide)).trans hl52
          have hi1037 := (hI1034 53 (by decide)).trans hl53
          have hi1038 := (hI1034 58 (by decide)).trans hl58
          have hi1039 := (hI1034 55 (by decide)).trans hl55
          have hF_1040 := hF1.mono (pIx hI1034 (by decide)) (fun _ _ => rfl)
          have hY_1041 := hY1.mono (pIx hI1034 (by decide)) (fun _ _ => rfl)
          have hP_1042 := hP1.mono (pIx hI1034 (by decide)) (fun _ _ => rfl)
          have hK_1043 := hK1.mono (pIx hI1034 (by decide)) (fun _ _ => rfl)
          have hN9_1044 := hN91.mono (pIx hI1034 (by decide)) (fun _ _ => rfl)
          have c27_1045 := c271.mono (pIx hI1034 (by decide)) (fun _ _ => rfl)
          have c28_1046 := c281.mono (pIx hI1034 (by decide)) (fun _ _ => rfl)
          have c29_1047 := c291.mono (pIx hI1034 (by decide)) (fun _ _ => rfl)
          have hEI1048 := hEI1.put hI1034 (by decide)
          show pl _ _ _ (342, [(0, .ref m0), (1, .int (nI p)), (2, .int (nI (by2 f pF))), (3, .int (nI f0)), (4, .int (nI k)), (6, .int (nI (f0 + k))), (7, .int (nI (f0 + j)))], [], M1030) _
          refine ps_st (S' := (343, [(0, .ref m0), (1, .int (nI p)), (2, .int (nI (by2 f pF))), (3, .int (nI f0)), (4, .int (nI k)), (6, .int (nI (f0 + k))), (7, .int (nI (f0 + j)))], [.ref m0], M1030)) rfl rfl rfl ?_
          refine ps_st (S' := (344, [(0, .ref m0), (1, .int (nI p)), (2, .int (nI (by2 f pF))), (3, .int (nI f0)), (4, .int (nI k)), (6, .int (nI (f0 + k))), (7, .int (nI (f0 + j)))], [.int (nI p), .ref m0], M1030)) rfl rfl rfl ?_
          refine ps_st (S' := (346, [(0, .ref m0), (1, .int (nI p)), (2, .int (nI (by2 f pF))), (3, .int (nI f0)), (4, .int (nI k)), (6, .int (nI (f0 + k))), (7, .int (nI (f0 + j)))], [.int 6, .int (nI p), .ref m0], M1030)) rfl rfl rfl ?_
          refine ps_st (S' := (347, [(0, .ref m0), (1, .int (nI p)), (2, .int (nI (by2 f pF))), (3, .int (nI f0)), (4, .int (nI k)), (6, .int (nI (f0 + k))), (7, .int (nI (f0 + j)))], [.int ((nI p) + 6), .ref m0], M1030)) rfl rfl rfl ?_
          rw [nI_add1 (p := p) (k := 6) (x := 6) rfl (by omega)]
          show pl _ _ _ (_, [(0, .ref m0), (1, .int (nI p)), (2, .int (nI (by2 f pF))), (3, .int (nI f0)), (4, .int (nI k)), (6, .int (nI (f0 + k))), (7, .int (nI (f0 + j)))], [.int (nI (p + 6)), .ref m0], M1030) _
          refine ps_st (S' := (348, [(0, .ref m0), (1, .int (nI p)), (2, .int (nI (by2 f pF))), (3, .int (nI f0)), (4, .int (nI k)), (6, .int (nI (f0 + k))), (7, .int (nI (f0 + j)))], [.int 1, .int (nI (p + 6)), .ref m0], M1030)) rfl rfl rfl ?_
          refine ps_st (S' := (350, [(0, .ref m0), (1, .int (nI p)), (2, .int (nI (by2 f pF))), (3, .int (nI f0)), (4, .int (nI k)), (6, .int (nI (f0 + k))), (7, .int (nI (f0 + j)))], [.int (nI (f0 + k)), .int 1, .int (nI (p + 6)), .ref m0], M1030)) rfl rfl rfl ?_
          have hm9 := hMB.2.2.2 k (by omega)
          rw [← hpk] at hm9
          have hX9 : FX (by2 f p) d (f0 + k) I1031 R1 := ⟨c27_1045, c29_1047⟩
          have hu8 := by2_lt f p
          refine pl_call (a := [.ref m0, .int (nI (p + 6)), .int 1, .int (nI (f0 + k))]) (rest := []) rfl rfl rfl (rd_checkAttributes1 (n := n) (f := f) (tx := tx) (cN := cN) (A := A) (N := N) (mj := mj) (E := E) (p1 := (p + 6)) (e := (E1 k)) (x := (f0 + k)) (fl := (by2 f p)) (ds := d) (l := (tX f n E (by2 f (p + 4)))) hR1032 hi1035 hi1036 hi1037 hF_1040 hY_1041 hP_1042 hK_1043 hX9 (hEP) (hN) (hmj) (⟨by omega, by omega⟩) (hm9.2.2.1) (hx) (hsd) (h21) (hu8)) (fun v1049 M1050 q1051 => ?_)
          rcases q1051 with q1051 | q1051
          · skip
            obtain ⟨e91052, I1053, R1054, q350_s, rfl, hR1055, hI1056, hX1057, hi1058, hi1059⟩ := q1051
            have hi1060 := (hI1056 51 (by decide)).trans hi1035
            have hi1061 := (hI1056 52 (by decide)).trans hi1036
            have hi1062 := (hI1056 53 (by decide)).trans hi1037
            have hi1063 := (hI1056 58 (by decide)).trans hi1038
            have hi1064 := (hI1056 55 (by decide)).trans hi1039
            have hi1065 := (hI1056 25 (by decide)).trans hi1033
            have hF_1066 := hF_1040.mono (cIx hI1056 (by decide)) (cRx hX1057 (by decide))
            have hY_1067 := hY_1041.mono (cIx hI1056 (by decide)) (cRx hX1057 (by decide))
            have hP_1068 := hP_1042.mono (cIx hI1056 (by decide)) (cRx hX1057 (by decide))
            have hK_1069 := hK_1043.mono (cIx hI1056 (by decide)) (cRx hX1057 (by decide))
            have hN9_1070 := hN9_1044.mono (cIx hI1056 (by decide)) (cRx hX1057 (by decide))
            have c27_1071 := c27_1045.mono (cIx hI1056 (by decide)) (cRx hX1057 (by decide))
            have c28_1072 := c28_1046.mono (cIx hI1056 (by decide)) (cRx hX1057 (by decide))
            have c29_1073 := c29_1047.mono (cIx hI1056 (by decide)) (cRx hX1057 (by decide))
            have hX_1074 := hX9.mono (cIx hI1056 (by decide)) (cRx hX1057 (by decide))
            have hEI1075 := hEI1048.tr hI1056 (by decide)
            have hER1076 := hER1.tr hX1057 (by decide)
            show pl _ _ _ (353, [(0, .ref m0), (1, .int (nI p)), (2, .int (nI (by2 f pF))), (3, .int (nI f0)), (4, .int (nI k)), (6, .int (nI (f0 + k))), (7, .int (nI (f0 + j)))], [.int (-1)], M1050) _
            refine ps_st (S' := (354, [(1, .int (-1)), (0, .ref m0), (2, .int (nI (by2 f pF))), (3, .int (nI f0)), (4, .int (nI k)), (6, .int (nI (f0 + k))), (7, .int (nI (f0 + j)))], [], M1050)) rfl rfl rfl ?_
            refine ps_st (S' := (355, [(1, .int (-1)), (0, .ref m0), (2, .int (nI (by2 f pF))), (3, .int (nI f0)), (4, .int (nI k)), (6, .int (nI (f0 + k))), (7, .int (nI (f0 + j)))], [.int (-1)], M1050)) rfl rfl rfl ?_
            refine ps_if (S1 := (360, [(1, .int (-1)), (0, .ref m0), (2, .int (nI (by2 f pF))), (3, .int (nI f0)), (4, .int (nI k)), (6, .int (nI (f0 + k))), (7, .int (nI (f0 + j)))], [], M1050)) (S2 := (358, [(1, .int (-1)), (0, .ref m0), (2, .int (nI (by2 f pF))), (3, .int (nI f0)), (4, .int (nI k)), (6, .int (nI (f0 + k))), (7, .int (nI (f0 + j)))], [], M1050)) rfl rfl rfl (fun c_355 => ?_) (fun c_355 => ?_)
            · exact absurd (of_decide_eq_true c_355) (by decide)
            refine ps_st (S' := (359, [(1, .int (-1)), (0, .ref m0), (2, .int (nI (by2 f pF))), (3, .int (nI f0)), (4, .int (nI k)), (6, .int (nI (f0 + k))), (7, .int (nI (f0 + j)))], [.int 0], M1050)) rfl rfl rfl ?_
            exact ps_ret rfl rfl (Or.inr ⟨e91052, I1053, R1054, by
                rw [← hs, flS_st (i := k) (by omega), ← hpk, fh_n hpk h19 h20 h21 (by rw [← hd9, show k - j = 0 by omega]; rfl), q350_s], rfl, hR1055, hEI1075, hER1076, hi1058, hi1059⟩)
          · skip
            obtain ⟨I1077, R1078, q350_s, rfl, hR1079, hI1080, hX1081⟩ := q1051
            have hi1082 := (hI1080 51 (by decide)).trans hi1035
            have hi1083 := (hI1080 52 (by decide)).trans hi1036
            have hi1084 := (hI1080 53 (by decide)).trans hi1037
            have hi1085 := (hI1080 58 (by decide)).trans hi1038
            have hi1086 := (hI1080 55 (by decide)).trans hi1039
            have hi1087 := (hI1080 25 (by decide)).trans hi1033
            have hF_1088 := hF_1040.mono (cIx hI1080 (by decide)) (cRx hX1081 (by decide))
            have hY_1089 := hY_1041.mono (cIx hI1080 (by decide)) (cRx hX1081 (by decide))
            have hP_1090 := hP_1042.mono (cIx hI1080 (by decide)) (cRx hX1081 (by decide))
            have hK_1091 := hK_1043.mono (cIx hI1080 (by decide)) (cRx hX1081 (by decide))
            have hN9_1092 := hN9_1044.mono (cIx hI1080 (by decide)) (cRx hX1081 (by decide))
            have c27_1093 := c27_1045.mono (cIx hI1080 (by decide)) (cRx hX1081 (by decide))
            have c28_1094 := c28_1046.mono (cIx hI1080 (by decide)) (cRx hX1081 (by decide))
            have c29_1095 := c29_1047.mono (cIx hI1080 (by decide)) (cRx hX1081 (by decide))
            have hX_1096 := hX9.mono (cIx hI1080 (by decide)) (cRx hX1081 (by decide))
            have hEI1097 := hEI1048.tr hI1080 (by decide)
            have hER1098 := hER1.tr hX1081 (by decide)
            show pl _ _ _ (353, [(0, .ref m0), (1, .int (nI p)), (2, .int (nI (by2 f pF))), (3, .int (nI f0)), (4, .int (nI k)), (6, .int (nI (f0 + k))), (7, .int (nI (f0 + j)))], [.int (nI (E1 k))], M1050) _
            refine ps_st (S' := (354, [(1, .int (nI (E1 k))), (0, .ref m0), (2, .int (nI (by2 f pF))), (3, .int (nI f0)), (4, .int (nI k)), (6, .int (nI (f0 + k))), (7, .int (nI (f0 + j)))], [], M1050)) rfl rfl rfl ?_
            refine ps_st (S' := (355, [(1, .int (nI (E1 k))), (0, .ref m0), (2, .int (nI (by2 f pF))), (3, .int (nI f0)), (4, .int (nI k)), (6, .int (nI (f0 + k))), (7, .int (nI (f0 + j)))], [.int (nI (E1 k))], M1050)) rfl rfl rfl ?_
            refine ps_if (S1 := (360, [(1, .int (nI (E1 k))), (0, .ref m0), (2, .int (nI (by2 f pF))), (3, .int (nI f0)), (4, .int (nI k)), (6, .int (nI (f0 + k))), (7, .int (nI (f0 + j)))], [], M1050)) (S2 := (358, [(1, .int (nI (E1 k))), (0, .ref m0), (2, .int (nI (by2 f pF))), (3, .int (nI f0)), (4, .int (nI k)), (6, .int (nI (f0 + k))), (7, .int (nI (f0 + j)))], [], M1050)) rfl rfl rfl (fun c_355 => ?_) (fun c_355 => ?_)
            rotate_left
            · exact absurd ((le_nI (p := 0) (n := E1 k) (by decide) (by omega)).mpr (by omega)) (of_decide_eq_false c_355)
            refine ps_st (S' := (363, [(4, .int ((nI k) + 1)), (1, .int (nI (E1 k))), (0, .ref m0), (2, .int (nI (by2 f pF))), (3, .int (nI f0)), (6, .int (nI (f0 + k))), (7, .int (nI (f0 + j)))], [], M1050)) rfl rfl rfl ?_
            rw [nI_add1 (p := k) (k := 1) (x := 1) rfl (by omega)]
            show pl _ _ _ (_, [(4, .int (nI (k + 1))), (1, .int (nI (E1 k))), (0, .ref m0), (2, .int (nI (by2 f pF))), (3, .int (nI f0)), (6, .int (nI (f0 + k))), (7, .int (nI (f0 + j)))], [], M1050) _
            refine ps_st (S' := (22, [(0, .ref m0), (1, .int (nI (E1 k))), (2, .int (nI (by2 f pF))), (3, .int (nI f0)), (4, .int (nI (k + 1)))], [], M1050)) rfl rfl rfl ?_
            have hN8 := FN.more hN9_1092 hpk c28_1094 c29_1095 hsa hsd ht1 ht2
            exact ih.1 (k + 1) (E1 k) M1050 I1077 R1078 hR1079 hEI1097 hER1098 hi1082 hi1083 hi1084 hi1085 hi1086 hi1087 hF_1088 hY_1089 hP_1090 hK_1091 hN8 (by omega) (fun h9 => (hm9.2.2.2 (by omega)).symm) (hm9.2.1) (by
                rw [← hs, flS_st (i := k) (by omega), ← hpk, fh_n hpk h19 h20 h21 (by rw [← hd9, show k - j = 0 by omega]; rfl), q350_s])
        · have c_281 : ¬ ((nI (f0 + k)) ≤ (nI (f0 + j))) := of_decide_eq_false c_281
          have n_281 : ¬ (f0 + k ≤ f0 + j) := fun h9 => c_281 ((le_nI (p := f0 + k) (n := f0 + j) (by omega) (by omega)).mpr h9)
          obtain ⟨a9, d9, g1, g2, g3, g4, g5, g6⟩ := hN91 j (by omega)
          have g7 := g3.1
          have g8 := g4.1
          have g0 := hsa.1
          have g9 := hsd.1
          have sm1 := sm_sym (k := by2 f (B.getD j 0 + 2)) (m := by2 f (p + 2)) hY1 g3 hsa g5 ht1
          have sm2 := sm_sym (k := by2 f (B.getD j 0 + 4)) (m := by2 f (p + 4)) hY1 g4 hsd g6 ht2
          refine ps_st (S' := (285, [(0, .ref m0), (1, .int (nI p)), (2, .int (nI (by2 f pF))), (3, .int (nI f0)), (4, .int (nI k)), (6, .int (nI (f0 + k))), (7, .int (nI (f0 + j)))], [.ref m0], M1)) rfl rfl rfl ?_
          refine pr_ref (j := 28) (S' := (288, [(0, .ref m0), (1, .int (nI p)), (2, .int (nI (by2 f pF))), (3, .int (nI f0)), (4, .int (nI k)), (6, .int (nI (f0 + k))), (7, .int (nI (f0 + j)))], [.ref (q 28)], M1)) rfl hR1 rfl rfl ?_
          refine ps_st (S' := (290, [(0, .ref m0), (1, .int (nI p)), (2, .int (nI (by2 f pF))), (3, .int (nI f0)), (4, .int (nI k)), (6, .int (nI (f0 + k))), (7, .int (nI (f0 + j)))], [.int (nI (f0 + j)), .ref (q 28)], M1)) rfl rfl rfl ?_
          refine pr_ld (a := 28) (j := f0 + j) (y := (nI a9)) (S' := (291, [(0, .ref m0), (1, .int (nI p)), (2, .int (nI (by2 f pF))), (3, .int (nI f0)), (4, .int (nI k)), (6, .int (nI (f0 + k))), (7, .int (nI (f0 + j)))], [.int (nI a9)], M1)) rfl hR1 rfl (by omega) (fun _ => g1) rfl (fun i1_290 => ?_)
          refine ps_st (S' := (292, [(0, .ref m0), (1, .int (nI p)), (2, .int (nI (by2 f pF))), (3, .int (nI f0)), (4, .int (nI k)), (6, .int (nI (f0 + k))), (7, .int (nI (f0 + j)))], [.ref m0, .int (nI a9)], M1)) rfl rfl rfl ?_
          refine pr_ref (j := 28) (S' := (295, [(0, .ref m0), (1, .int (nI p)), (2, .int (nI (by2 f pF))), (3, .int (nI f0)), (4, .int (nI k)), (6, .int (nI (f0 + k))), (7, .int (nI (f0 + j)))], [.ref (q 28), .int (nI a9)], M1)) rfl hR1 rfl rfl ?_
          refine ps_st (S' := (297, [(0, .ref m0), (1, .int (nI p)), (2, .int (nI (by2 f pF))), (3, .int (nI f0)), (4, .int (nI k)), (6, .int (nI (f0 + k))), (7, .int (nI (f0 + j)))], [.int (nI (f0 + k)), .ref (q 28), .int (nI a9)], M1)) rfl rfl rfl ?_
          refine pr_ld (a := 28) (j := f0 + k) (y := (nI a)) (S' := (298, [(0, .ref m0), (1, .int (nI p)), (2, .int (nI (by2 f pF))), (3, .int (nI f0)), (4, .int (nI k)), (6, .int (nI (f0 + k))), (7, .int (nI (f0 + j)))], [.int (nI a), .int (nI a9)], M1)) rfl hR1 rfl (by omega) (fun _ => c281) rfl (fun i1_297 => ?_)
          refine ps_if2 (S1 := (326, [(0, .ref m0), (1, .int (nI p)), (2, .int (nI (by2 f pF))), (3, .int (nI f0)), (4, .int (nI k)), (6, .int (nI (f0 + k))), (7, .int (nI (f0 + j)))], [], M1)) (S2 := (301, [(0, .ref m0), (1, .int (nI p)), (2, .int (nI (by2 f pF))), (3, .int (nI f0)), (4, .int (nI k)), (6, .int (nI (f0 + k))), (7, .int (nI (f0 + j)))], [], M1)) rfl rfl rfl (fun c_298 => ?_) (fun c_298 => ?_)
          · have c_298 : ¬ (nI a9) = (nI a) := of_decide_eq_true c_298
            have n_298 : ¬ (a9 = a) := fun h9 => c_298 ((eq_nI (p := a9) (n := a) (by omega) (by omega)).mpr h9)
            refine ps_st (S' := (329, [(7, .int ((nI (f0 + j)) + 1)), (0, .ref m0), (1, .int (nI p)), (2, .int (nI (by2 f pF))), (3, .int (nI f0)), (4, .int (nI k)), (6, .int (nI (f0 + k)))], [], M1)) rfl rfl rfl ?_
            rw [nI_add1 (p := f0 + j) (k := 1) (x := 1) rfl (by omega)]
            show pl _ _ _ (_, [(7, .int (nI (f0 + j + 1))), (0, .ref m0), (1, .int (nI p)), (2, .int (nI (by2 f pF))), (3, .int (nI f0)), (4, .int (nI k)), (6, .int (nI (f0 + k)))], [], M1) _
            refine ps_st (S' := (277, [(0, .ref m0), (1, .int (nI p)), (2, .int (nI (by2 f pF))), (3, .int (nI f0)), (4, .int (nI k)), (6, .int (nI (f0 + k))), (7, .int (nI (f0 + j + 1)))], [], M1)) rfl rfl rfl ?_
            exact ih.2 (k) (p) (j + 1) (a) (d) M1 I1 R1 hR1 hEI1 hER1 hl51 hl52 hl53 hl58 hl55 hl25 hF1 hY1 hP1 hK1 hN91 c271 c281 c291 (hk0) (hpk) (hpe) (hs) (by omega) (hx) (hsa) (hsd) (ht1) (ht2) (h19) (h20) (h21) (by
                rw [← hd9, smeS_st (i := j) (by omega), if_neg (by omega)])
          · have c_298 : ¬ (¬ (nI a9) = (nI a)) := of_decide_eq_false c_298
            have n_298 : a9 = a := (eq_nI (p := a9) (n := a) (by omega) (by omega)).mp (Decidable.not_not.mp c_298)
            refine ps_st (S' := (302, [(0, .ref m0), (1, .int (nI p)), (2, .int (nI (by2 f pF))), (3, .int (nI f0)), (4, .int (nI k)), (6, .int (nI (f0 + k))), (7, .int (nI (f0 + j)))], [.ref m0], M1)) rfl rfl rfl ?_
            refine pr_ref (j := 29) (S' := (305, [(0, .ref m0), (1, .int (nI p)), (2, .int (nI (by2 f pF))), (3, .int (nI f0)), (4, .int (nI k)), (6, .int (nI (f0 + k))), (7, .int (nI (f0 + j)))], [.ref (q 29)], M1)) rfl hR1 rfl rfl ?_
            refine ps_st (S' := (307, [(0, .ref m0), (1, .int (nI p)), (2, .int (nI (by2 f pF))), (3, .int (nI f0)), (4, .int (nI k)), (6, .int (nI (f0 + k))), (7, .int (nI (f0 + j)))], [.int (nI (f0 + j)), .ref (q 29)], M1)) rfl rfl rfl ?_
            refine pr_ld (a := 29) (j := f0 + j) (y := (nI d9)) (S' := (308, [(0, .ref m0), (1, .int (nI p)), (2, .int (nI (by2 f pF))), (3, .int (nI f0)), (4, .int (nI k)), (6, .int (nI (f0 + k))), (7, .int (nI (f0 + j)))], [.int (nI d9)], M1)) rfl hR1 rfl (by omega) (fun _ => g2) rfl (fun i1_307 => ?_)
            refine ps_st (S' := (309, [(0, .ref m0), (1, .int (nI p)), (2, .int (nI (by2 f pF))), (3, .int (nI f0)), (4, .int (nI k)), (6, .int (nI (f0 + k))), (7, .int (nI (f0 + j)))], [.ref m0, .int (nI d9)], M1)) rfl rfl rfl ?_
            refine pr_ref (j := 29) (S' := (312, [(0, .ref m0), (1, .int (nI p)), (2, .int (nI (by2 f pF))), (3, .int (nI f0)), (4, .int (nI k)), (6, .int (nI (f0 + k))), (7, .int (nI (f0 + j)))], [.ref (q 29), .int (nI d9)], M1)) rfl hR1 rfl rfl ?_
            refine ps_st (S' := (314, [(0, .ref m0), (1, .int (nI p)), (2, .int (nI (by2 f pF))), (3, .int (nI f0)), (4, .int (nI k)), (6, .int (nI (f0 + k))), (7, .int (nI (f0 + j)))], [.int (nI (f0 + k)), .ref (q 29), .int (nI d9)], M1)) rfl rfl rfl ?_
            refine pr_ld (a := 29) (j := f0 + k) (y := (nI d)) (S' := (315, [(0, .ref m0), (1, .int (nI p)), (2, .int (nI (by2 f pF))), (3, .int (nI f0)), (4, .int (nI k)), (6, .int (nI (f0 + k))), (7, .int (nI (f0 + j)))], [.int (nI d), .int (nI d9)], M1)) rfl hR1 rfl (by omega) (fun _ => c291) rfl (fun i1_314 => ?_)
            refine ps_if2 (S1 := (326, [(0, .ref m0), (1, .int (nI p)), (2, .int (nI (by2 f pF))), (3, .int (nI f0)), (4, .int (nI k)), (6, .int (nI (f0 + k))), (7, .int (nI (f0 + j)))], [], M1)) (S2 := (318, [(0, .ref m0), (1, .int (nI p)), (2, .int (nI (by2 f pF))), (3, .int (nI f0)), (4, .int (nI k)), (6, .int (nI (f0 + k))), (7, .int (nI (f0 + j)))], [], M1)) rfl rfl rfl (fun c_315 => ?_) (fun c_315 => ?_)
            · have c_315 : ¬ (nI d9) = (nI d) := of_decide_eq_true c_315
              have n_315 : ¬ (d9 = d) := fun h9 => c_315 ((eq_nI (p := d9) (n := d) (by omega) (by omega)).mpr h9)
              refine ps_st (S' := (329, [(7, .int ((nI (f0 + j)) + 1)), (0, .ref m0), (1, .int (nI p)), (2, .int (nI (by2 f pF))), (3, .int (nI f0)), (4, .int (nI k)), (6, .int (nI (f0 + k)))], [], M1)) rfl rfl rfl ?_
              rw [nI_add1 (p := f0 + j) (k := 1) (x := 1) rfl (by omega)]
              show pl _ _ _ (_, [(7, .int (nI (f0 + j + 1))), (0, .ref m0), (1, .int (nI p)), (2, .int (nI (by2 f pF))), (3, .int (nI f0)), (4, .int (nI k)), (6, .int (nI (f0 + k)))], [], M1) _
              refine ps_st (S' := (277, [(0, .ref m0), (1, .int (nI p)), (2, .int (nI (by2 f pF))), (3, .int (nI f0)), (4, .int (nI k)), (6, .int (nI (f0 + k))), (7, .int (nI (f0 + j + 1)))], [], M1)) rfl rfl rfl ?_
              exact ih.2 (k) (p) (j + 1) (a) (d) M1 I1 R1 hR1 hEI1 hER1 hl51 hl52 hl53 hl58 hl55 hl25 hF1 hY1 hP1 hK1 hN91 c271 c281 c291 (hk0) (hpk) (hpe) (hs) (by omega) (hx) (hsa) (hsd) (ht1) (ht2) (h19) (h20) (h21) (by
                  rw [← hd9, smeS_st (i := j) (by omega), if_neg (by omega)])
            · have c_315 : ¬ (¬ (nI d9) = (nI d)) := of_decide_eq_false c_315
              have n_315 : d9 = d := (eq_nI (p := d9) (n := d) (by omega) (by omega)).mp (Decidable.not_not.mp c_315)
              refine ps_st (S' := (319, [(0, .ref m0), (1, .int (nI p)), (2, .int (nI (by2 f pF))), (3, .int (nI f0)), (4, .int (nI k)), (6, .int (nI (f0 + k))), (7, .int (nI (f0 + j)))], [.ref m0], M1)) rfl rfl rfl ?_
              refine ps_st (S' := (321, [(0, .ref m0), (1, .int (nI p)), (2, .int (nI (by2 f pF))), (3, .int (nI f0)), (4, .int (nI k)), (6, .int (nI (f0 + k))), (7, .int (nI (f0 + j)))], [.int 22, .ref m0], M1)) rfl rfl rfl ?_
              refine ps_st (S' := (322, [(0, .ref m0), (1, .int (nI p)), (2, .int (nI (by2 f pF))), (3, .int (nI f0)), (4, .int (nI k)), (6, .int (nI (f0 + k))), (7, .int (nI (f0 + j)))], [.int (nI p), .int 22, .ref m0], M1)) rfl rfl rfl ?_
              refine pl_call (a := [.ref m0, .int 22, .int (nI p)]) (rest := []) rfl rfl rfl (rd_wrong (x1 := 22) (x2 := (nI p)) hR1) (fun v1099 M1100 q1101 => ?_)
              obtain ⟨I1102, R1103, rfl, hR1104, hI1105, hX1106, hi1107, hi1108⟩ := q1101
              have hi1109 := (hI1105 51 (by decide)).trans hl51
              have hi1110 := (hI1105 52 (by decide)).trans hl52
              have hi1111 := (hI1105 53 (by decide)).trans hl53
              have hi1112 := (hI1105 58 (by decide)).trans hl58
              have hi1113 := (hI1105 55 (by decide)).trans hl55
              have hi1114 := (hI1105 25 (by decide)).trans hl25
              have hF_1115 := hF1.mono (cIx hI1105 (by decide)) (cRx hX1106 (by decide))
              have hY_1116 := hY1.mono (cIx hI1105 (by decide)) (cRx hX1106 (by decide))
              have hP_1117 := hP1.mono (cIx hI1105 (by decide)) (cRx hX1106 (by decide))
              have hK_1118 := hK1.mono (cIx hI1105 (by decide)) (cRx hX1106 (by decide))
              have hN9_1119 := hN91.mono (cIx hI1105 (by decide)) (cRx hX1106 (by decide))
              have c27_1120 := c271.mono (cIx hI1105 (by decide)) (cRx hX1106 (by decide))
              have c28_1121 := c281.mono (cIx hI1105 (by decide)) (cRx hX1106 (by decide))
              have c29_1122 := c291.mono (cIx hI1105 (by decide)) (cRx hX1106 (by decide))
              have hEI1123 := hEI1.tr hI1105 (by decide)
              have hER1124 := hER1.tr hX1106 (by decide)
              show pl _ _ _ (325, [(0, .ref m0), (1, .int (nI p)), (2, .int (nI (by2 f pF))), (3, .int (nI f0)), (4, .int (nI k)), (6, .int (nI (f0 + k))), (7, .int (nI (f0 + j)))], [.int 0], M1100) _
              exact ps_ret rfl rfl (Or.inr ⟨(22, p), I1102, R1103, by
                  rw [← hs, flS_st (i := k) (by omega), ← hpk, fh_22 hpk h19 h20 h21 (by rw [← hd9, smeS_st (i := j) (by omega), if_pos (by omega)]; exact fun h9 => by cases h9)], rfl, hR1104, hEI1123, hER1124, hi1107, hi1108⟩)
  refine ps_st (S' := (1, [(0, .ref m0)], [.ref m0], M)) rfl rfl rfl ?_
  refine pr_int (j := 55) (S' := (4, [(0, .ref m0)], [.int (nI pF)], M)) rfl hR rfl hi55 rfl ?_
  refine ps_st (S' := (5, [(1, .int (nI pF)), (0, .ref m0)], [], M)) rfl rfl rfl ?_
  refine ps_st (S' := (6, [(1, .int (nI pF)), (0, .ref m0)], [.ref m0], M)) rfl rfl rfl ?_
  refine ps_st (S' := (7, [(1, .int (nI pF)), (0, .ref m0)], [.int (nI pF), .ref m0], M)) rfl rfl rfl ?_
  refine pl_call (a := [.ref m0, .int (nI pF)]) (rest := []) rfl rfl rfl (rd_u2 (n := n) (f := f) (p := pF) hR hF (by omega)) (fun v1125 M1126 q1127 => ?_)
  obtain ⟨rfl, rfl⟩ := q1127
  show pl _ _ _ (10, [(1, .int (nI pF)), (0, .ref m0)], [.int (nI (by2 f pF))], M) _
  have hu_7 := by2_lt f pF
  refine ps_st (S' := (11, [(2, .int (nI (by2 f pF))), (1, .int (nI pF)), (0, .ref m0)], [], M)) rfl rfl rfl ?_
  refine ps_st (S' := (14, [(1, .int ((nI pF) + 2)), (2, .int (nI (by2 f pF))), (0, .ref m0)], [], M)) rfl rfl rfl ?_
  rw [nI_add1 (p := pF) (k := 2) (x := 2) rfl (by omega)]
  show pl _ _ _ (_, [(1, .int (nI (pF + 2))), (2, .int (nI (by2 f pF))), (0, .ref m0)], [], M) _
  refine ps_st (S' := (15, [(1, .int (nI (pF + 2))), (2, .int (nI (by2 f pF))), (0, .ref m0)], [.ref m0], M)) rfl rfl rfl ?_
  refine pr_int (j := 25) (S' := (18, [(1, .int (nI (pF + 2))), (2, .int (nI (by2 f pF))), (0, .ref m0)], [.int (nI f0)], M)) rfl hR rfl hi25 rfl ?_
  refine ps_st (S' := (19, [(3, .int (nI f0)), (1, .int (nI (pF + 2))), (2, .int (nI (by2 f pF))), (0, .ref m0)], [], M)) rfl rfl rfl ?_
  refine ps_st (S' := (20, [(3, .int (nI f0)), (1, .int (nI (pF + 2))), (2, .int (nI (by2 f pF))), (0, .ref m0)], [.int 0], M)) rfl rfl rfl ?_
  refine ps_st (S' := (22, [(0, .ref m0), (1, .int (nI (pF + 2))), (2, .int (nI (by2 f pF))), (3, .int (nI f0)), (4, .int 0)], [], M)) rfl rfl rfl ?_
  exact (LL kf).1 (0) (pF + 2) M I R hR hEI hER hi51 hi52 hi53 hi58 hi55 hi25 hF hY hP hK hFN0 (by omega) (fun h9 => (hMB.2.2.1 (by omega)).symm) (by omega) (rfl)
set_option maxHeartbeats 8000000 in
theorem rd_checkMethods2 {g : xe_G} {m0 : Nat} {q : Nat → Nat} {z : Nat × Nat} {I : rI} {R : rR} {M : mi_H} {n : Nat} {f : Nat → Int32} {tx : List (List Nat)} {cN : Nat} {A : Nat → Nat} {N mj : Nat} {E : List (Nat × Nat)} {pM f0 cf si sc : Nat} {B : List Nat} {E1 : Nat → Nat} (hR : RS g m0 q z I R M) (hi51 : I 51 = some 0) (hi52 : I 52 = some (nI N)) (hi53 : I 53 = some (nI mj)) (hi58 : I 58 = some (nI cf)) (hi56 : I 56 = some (nI pM)) (hi26 : I 26 = some (nI f0)) (hi9 : I 9 = some (nI si)) (hi10 : I 10 = some (nI sc)) (hF : FK n f I R) (hY : SYT tx cN A I R) (hP : RPV f n E tx N I R) (hK : KX I R) (hEP : EP f n E) (hN : N < 65536) (hmj : mj < 65536) (hMB : MBS f n B pM E1) (hf0 : f0 ≤ 8300) (hcf : cf < 65536) (hsi : si < tx.length ∧ tx.getD si [] = ltx 12) (hsc : sc < tx.length ∧ tx.getD sc [] = ltx 13) : pt (mT g) 191 [.ref m0] M (fun v M' => (∃  (I' : rI) (R' : rR), (mtS f n E cf mj B B.length 0 = none) ∧ v = some (.int 1) ∧ RS g m0 q z I' R' M' ∧ eqI [26, 47, 48] I I' ∧ eqR [34, 35, 36, 37, 38, 39, 40, 41, 42, 43, 44, 45, 46] R R' ∧ I' 26 = some (nI (f0 + B.length)) ∧ FN 35 36 f n E tx B f0 B.length I' R') ∨ (∃ (e9 : Nat × Nat) (I' : rI) (R' : rR), (mtS f n E cf mj B B.length 0 = some e9) ∧ v = some (.int 0) ∧ RS g m0 q z I' R' M' ∧ eqI [26, 47, 48] I I' ∧ eqR [34, 35, 36, 37, 38, 39, 40, 41, 42, 43, 44, 45, 46] R R' ∧ I' 47 = some (nI e9.1) ∧ I' 48 = some (nI e9.2))) := by
  refine pt_in (b := mb_191 g) rfl (fun kf => ?_)
  show pl (mT g) kf (mb_191 g).2 (0, [(0, .ref m0)], [], M) _
  have hEI : eqI [26, 47, 48] I I := eqI.rf
  have hER : eqR [34, 35, 36, 37, 38, 39, 40, 41, 42, 43, 44, 45, 46] R R := eqR.rf
  have hn := hF.1
  have hBl := hMB.1
  have hp2 := hMB.2.1
  have hFN0 : FN 35 36 f n E tx B f0 0 I R := fun j hj => absurd hj (Nat.not_lt_zero _)
  have LL : ∀ (kf : Nat), (∀ (k p ib : Nat) (M1 : mi_H) (I1 : rI) (R1 : rR), (RS g m0 q z I1 R1 M1) → (eqI [26, 47, 48] I I1) → (eqR [34, 35, 36, 37, 38, 39, 40, 41, 42, 43, 44, 45, 46] R R1) → (I1 51 = some 0) → (I1 52 = some (nI N)) → (I1 53 = some (nI mj)) → (I1 58 = some (nI cf)) → (I1 56 = some (nI pM)) → (I1 26 = some (nI (f0 + k))) → (I1 9 = some (nI si)) → (I1 10 = some (nI sc)) → (FK n f I1 R1) → (SYT tx cN A I1 R1) → (RPV f n E tx N I1 R1) → (KX I1 R1) → (FN 35 36 f n E tx B f0 k I1 R1) → (k ≤ by2 f pM) → (k < by2 f pM → p = B.getD k 0) → (p ≤ n) → (mtS f n E cf mj B (B.length - k) k = mtS f n E cf mj B B.length 0) → ((ib = 0 ∧ aN cf 512 = 0) ∨ (ib = 1 ∧ ¬ aN cf 512 = 0)) →  pl (mT g) kf (mb_191 g).2 (40, [(0, .ref m0), (1, .int (nI p)), (2, .int (nI (by2 f pM))), (3, .int (nI f0)), (4, .int (nI ib)), (5, .int (nI k))], [], M1) (fun v M' => (∃  (I' : rI) (R' : rR), (mtS f n E cf mj B B.length 0 = none) ∧ v = some (.int 1) ∧ RS g m0 q z I' R' M' ∧ eqI [26, 47, 48] I I' ∧ eqR [34, 35, 36, 37, 38, 39, 40, 41, 42, 43, 44, 45, 46] R R' ∧ I' 26 = some (nI (f0 + B.length)) ∧ FN 35 36 f n E tx B f0 B.length I' R') ∨ (∃ (e9 : Nat × Nat) (I' : rI) (R' : rR), (mtS f n E cf mj B B.length 0 = some e9) ∧ v = some (.int 0) ∧ RS g m0 q z I' R' M' ∧ eqI [26, 47, 48] I I' ∧ eqR [34, 35, 36, 37, 38, 39, 40, 41, 42, 43, 44, 45, 46] R R' ∧ I' 47 = some (nI e9.1) ∧ I' 48 = some (nI e9.2)))) ∧ (∀ (k p ib a i9 i8 : Nat) (M1 : mi_H) (I1 : rI) (R1 : rR), (RS g m0 q z I1 R1 M1) → (eqI [26, 47, 48] I I1) → (eqR [34, 35, 36, 37, 38, 39, 40, 41, 42, 43, 44, 45, 46] R R1) → (I1 51 = some 0) → (I1 52 = some (nI N)) → (I1 53 = some (nI mj)) → (I1 58 = some (nI cf)) → (I1 56 = some (nI pM)) → (I1 26 = some (nI (f0 + k))) → (I1 9 = some (nI si)) → (I1 10 = some (nI sc)) → (FK n f I1 R1) → (SYT tx cN A I1 R1) → (RPV f n E tx N I1 R1) → (KX I1 R1) → (FN 35 36 f n E tx B f0 k I1 R1) → (k < by2 f pM) → (p = B.getD k 0) → (p + 8 ≤ n) → (mtS f n E cf mj B (B.length - k) k = mtS f n E cf mj B B.length 0) → ((ib = 0 ∧ aN cf 512 = 0) ∨ (ib = 1 ∧ ¬ aN cf 512 = 0)) → (a < tx.length ∧ tx.getD a [] = tX f n E (by2 f (p + 2))) → (tg f E (by2 f (p + 2)) = 1) → (¬ mnmN f n E cf (by2 f (p + 2)) = 0) → (¬ mflN f n E cf mj (by2 f p) (by2 f (p + 2)) = 0) → ((i9 = 1 ∧ ¬ eqN (tX f n E (by2 f (p + 2))) (ltx 13) = 0) ∨ (i9 = 0 ∧ eqN (tX f n E (by2 f (p + 2))) (ltx 13) = 0)) → ((i8 = 1 ∧ ¬ eqN (tX f n E (by2 f (p + 2))) (ltx 12) = 0) ∨ (i8 = 0 ∧ eqN (tX f n E (by2 f (p + 2))) (ltx 12) = 0)) →  pl (mT g) kf (mb_191 g).2 (183, [(0, .ref m0), (1, .int (nI p)), (2, .int (nI (by2 f pM))), (3, .int (nI f0)), (4, .int (nI ib)), (5, .int (nI k)), (6, .int (nI (by2 f p))), (7, .int (nI a)), (8, .int (nI i8)), (9, .int (nI i9))], [], M1) (fun v M' => (∃  (I' : rI) (R' : rR), (mtS f n E cf mj B B.length 0 = none) ∧ v = some (.int 1) ∧ RS g m0 q z I' R' M' ∧ eqI [26, 47, 48] I I' ∧ eqR [34, 35, 36, 37, 38, 39, 40, 41, 42, 43, 44, 45, 46] R R' ∧ I' 26 = some (nI (f0 + B.length)) ∧ FN 35 36 f n E tx B f0 B.length I' R') ∨ (∃ (e9 : Nat × Nat) (I' : rI) (R' : rR), (mtS f n E cf mj B B.length 0 = some e9) ∧ v = some (.int 0) ∧ RS g m0 q z I' R' M' ∧ eqI [26, 47, 48] I I' ∧ eqR [34, 35, 36, 37, 38, 39, 40, 41, 42, 43, 44, 45, 46] R R' ∧ I' 47 = some (nI e9.1) ∧ I' 48 = some (nI e9.2)))) ∧ (∀ (k p ib a i9 d : Nat) (M1 : mi_H) (I1 : rI) (R1 : rR), (RS g m0 q z I1 R1 M1) → (eqI [26, 47, 48] I I1) → (eqR [34, 35, 36, 37, 38, 39, 40, 41, 42, 43, 44, 45, 46] R R1) → (I1 51 = some 0) → (I1 52 = some (nI N)) → (I1 53 = some (nI mj)) → (I1 58 = some (nI cf)) → (I1 56 = some (nI pM)) → (I1 26 = some (nI (f0 + k))) → (I1 9 = some (nI si)) → (I1 10 = some (nI sc)) → (FK n f I1 R1) → (SYT tx cN A I1 R1) → (RPV f n E tx N I1 R1) → (KX I1 R1) → (FN 35 36 f n E tx B f0 k I1 R1) → (k < by2 f pM) → (p = B.getD k 0) → (p + 8 ≤ n) → (mtS f n E cf mj B (B.length - k) k = mtS f n E cf mj B B.length 0) → ((ib = 0 ∧ aN cf 512 = 0) ∨ (ib = 1 ∧ ¬ aN cf 512 = 0)) → (a < tx.length ∧ tx.getD a [] = tX f n E (by2 f (p + 2))) → (tg f E (by2 f (p + 2)) = 1) → (¬ mnmN f n E cf (by2 f (p + 2)) = 0) → (¬ mflN f n E cf mj (by2 f p) (by2 f (p + 2)) = 0) → ((i9 = 1 ∧ ¬ eqN (tX f n E (by2 f (p + 2))) (ltx 13) = 0) ∨ (i9 = 0 ∧ eqN (tX f n E (by2 f (p + 2))) (ltx 13) = 0)) → (d < tx.length ∧ tx.getD d [] = tX f n E (by2 f (p + 4))) → (tg f E (by2 f (p + 4)) = 1) → (¬ mthN (tX f n E (by2 f (p + 4))) = 0) → (¬ mdsN f n E (by2 f (p + 2)) (by2 f (p + 4)) (apN f n E p) = 0) →  pl (mT g) kf (mb_191 g).2 (279, [(0, .ref m0), (1, .int (nI p)), (2, .int (nI (by2 f pM))), (3, .int (nI f0)), (4, .int (nI ib)), (5, .int (nI k)), (6, .int (nI (by2 f p))), (7, .int (nI a)), (9, .int (nI i9)), (10, .int (nI d))], [], M1) (fun v M' => (∃  (I' : rI) (R' : rR), (mtS f n E cf mj B B.length 0 = none) ∧ v = some (.int 1) ∧ RS g m0 q z I' R' M' ∧ eqI [26, 47, 48] I I' ∧ eqR [34, 35, 36, 37, 38, 39, 40, 41, 42, 43, 44, 45, 46] R R' ∧ I' 26 = some (nI (f0 + B.length)) ∧ FN 35 36 f n E tx B f0 B.length I' R') ∨ (∃ (e9 : Nat × Nat) (I' : rI) (R' : rR), (mtS f n E cf mj B B.length 0 = some e9) ∧ v = some (.int 0) ∧ RS g m0 q z I' R' M' ∧ eqI [26, 47, 48] I I' ∧ eqR [34, 35, 36, 37, 38, 39, 40, 41, 42, 43, 44, 45, 46] R R' ∧ I' 47 = some (nI e9.1) ∧ I' 48 = some (nI e9.2)))) ∧ (∀ (k p ib a i9 d j : Nat) (M1 : mi_H) (I1 : rI) (R1 : rR), (RS g m0 q z I1 R1 M1) → (eqI [26, 47, 48] I I1) → (eqR [34, 35, 36, 37, 38, 39, 40, 41, 42, 43, 44, 45, 46] R R1) → (I1 51 = some 0) → (I1 52 = some (nI N)) → (I1 53 = some (nI mj)) → (I1 58 = some (nI cf)) → (I1 56 = some (nI pM)) → (I1 26 = some (nI (f0 + k))) → (I1 9 = some (nI si)) → (I1 10 = some (nI sc)) → (FK n f I1 R1) → (SYT tx cN A I1 R1) → (RPV f n E tx N I1 R1) → (KX I1 R1) → (FN 35 36 f n E tx B f0 k I1 R1) → (CE 34 (f0 + k) (nI (by2 f p)) I1 R1) → (CE 35 (f0 + k) (nI a) I1 R1) → (CE 36 (f0 + k) (nI d) I1 R1) → (CX 0 (f0 + k) I1 R1) → (k < by2 f pM) → (p = B.getD k 0) → (p + 8 ≤ n) → (mtS f n E cf mj B (B.length - k) k = mtS f n E cf mj B B.length 0) → ((ib = 0 ∧ aN cf 512 = 0) ∨ (ib = 1 ∧ ¬ aN cf 512 = 0)) → (a < tx.length ∧ tx.getD a [] = tX f n E (by2 f (p + 2))) → (tg f E (by2 f (p + 2)) = 1) → (¬ mnmN f n E cf (by2 f (p + 2)) = 0) → (¬ mflN f n E cf mj (by2 f p) (by2 f (p + 2)) = 0) → ((i9 = 1 ∧ ¬ eqN (tX f n E (by2 f (p + 2))) (ltx 13) = 0) ∨ (i9 = 0 ∧ eqN (tX f n E (by2 f (p + 2))) (ltx 13) = 0)) → (d < tx.length ∧ tx.getD d [] = tX f n E (by2 f (p + 4))) → (tg f E (by2 f (p + 4)) = 1) → (¬ mthN (tX f n E (by2 f (p + 4))) = 0) → (¬ mdsN f n E (by2 f (p + 2)) (by2 f (p + 4)) (apN f n E p) = 0) → (j ≤ k) → (f0 + k < 8300) → (smeS f n E B (by2 f (p + 2)) (by2 f (p + 4)) (k - j) j = smeS f n E B (by2 f (p + 2)) (by2 f (p + 4)) k 0) →  pl (mT g) kf (mb_191 g).2 (399, [(0, .ref m0), (1, .int (nI p)), (2, .int (nI (by2 f pM))), (3, .int (nI f0)), (4, .int (nI ib)), (5, .int (nI k)), (6, .int (nI (by2 f p))), (7, .int (nI a)), (9, .int (nI i9)), (10, .int (nI d)), (11, .int (nI (f0 + k))), (12, .int (nI (f0 + j)))], [], M1) (fun v M' => (∃  (I' : rI) (R' : rR), (mtS f n E cf mj B B.length 0 = none) ∧ v = some (.int 1) ∧ RS g m0 q z I' R' M' ∧ eqI [26, 47, 48] I I' ∧ eqR [34, 35, 36, 37, 38, 39, 40, 41, 42, 43, 44, 45, 46] R R' ∧ I' 26 = some (nI (f0 + B.length)) ∧ FN 35 36 f n E tx B f0 B.length I' R') ∨ (∃ (e9 : Nat × Nat) (I' : rI) (R' : rR), (mtS f n E cf mj B B.length 0 = some e9) ∧ v = some (.int 0) ∧ RS g m0 q z I' R' M' ∧ eqI [26, 47, 48] I I' ∧ eqR [34, 35, 36, 37, 38, 39, 40, 41, 42, 43, 44, 45, 46] R R' ∧ I' 47 = some (nI e9.1) ∧ I' 48 = some (nI e9.2)))) := by
    intro kf
    induction kf with
    | zero => exact ⟨by intros; exact pl_0, by intros; exact pl_0, by intros; exact pl_0, by intros; exact pl_0⟩
    | succ kf ih =>
      refine ⟨?_, ?_, ?_, ?_⟩
      · skip
        intro k p ib M1 I1 R1 hR1 hEI1 hER1 hl51 hl52 hl53 hl58 hl56 hl26 hl9 hl10 hF1 hY1 hP1 hK1 hN91 hk hp hpn hs hib
        have hn := hF1.1
        have hu9 := by2_lt f pM
        have htl := hY1.1.2.2.1
        have hBl := hMB.1
        have hi7 := hsi.1
        have hc7 := hsc.1
        refine ps_st1 (S' := (42, [(0, .ref m0), (1, .int (nI p)), (2, .int (nI (by2 f pM))), (3, .int (nI f0)), (4, .int (nI ib)), (5, .int (nI k))], [.int (nI k)], M1)) rfl rfl rfl ?_
        refine ps_st (S' := (43, [(0, .ref m0), (1, .int (nI p)), (2, .int (nI (by2 f pM))), (3, .int (nI f0)), (4, .int (nI ib)), (5, .int (nI k))], [.int (nI (by2 f pM)), .int (nI k)], M1)) rfl rfl rfl ?_
        refine ps_if2 (S1 := (532, [(0, .ref m0), (1, .int (nI p)), (2, .int (nI (by2 f pM))), (3, .int (nI f0)), (4, .int (nI ib)), (5, .int (nI k))], [], M1)) (S2 := (46, [(0, .ref m0), (1, .int (nI p)), (2, .int (nI (by2 f pM))), (3, .int (nI f0)), (4, .int (nI ib)), (5, .int (nI k))], [], M1)) rfl rfl rfl (fun c_43 => ?_) (fun c_43 => ?_)
        · have c_43 : (nI (by2 f pM)) ≤ (nI k) := of_decide_eq_true c_43
          have n_43 : by2 f pM ≤ k := (le_nI (p := by2 f pM) (n := k) (Nat.lt_trans (by2_lt _ _) (by decide)) (by omega)).mp c_43
          refine ps_st (S' := (533, [(0, .ref m0), (1, .int (nI p)), (2, .int (nI (by2 f pM))), (3, .int (nI f0)), (4, .int (nI ib)), (5, .int (nI k))], [.int 1], M1)) rfl rfl rfl ?_
          exact ps_ret rfl rfl (Or.inl ⟨I1, R1, by
              rw [← hs, show B.length - k = 0 by omega]
              rfl, rfl, hR1, hEI1, hER1, by rw [show B.length = k by omega]; exact hl26, by rw [show B.length = k by omega]; exact hN91⟩)
        · have c_43 : ¬ ((nI (by2 f pM)) ≤ (nI k)) := of_decide_eq_false c_43
          have n_43 : ¬ (by2 f pM ≤ k) := fun h9 => c_43 ((le_nI (p := by2 f pM) (n := k) (Nat.lt_trans (by2_lt _ _) (by decide)) (by omega)).mpr h9)
          have hpk := hp (by omega)
          have hm8 := (hMB.2.2.2 k (by omega)).1
          have hm7 := (hMB.2.2.2 k (by omega)).2.1
          rw [← hpk] at hm8
          have hpe : p + 8 ≤ n := by omega
          have hu8 := by2_lt f p
          refine ps_st (S' := (47, [(0, .ref m0), (1, .int (nI p)), (2, .int (nI (by2 f pM))), (3, .int (nI f0)), (4, .int (nI ib)), (5, .int (nI k))], [.ref m0], M1)) rfl rfl rfl ?_
          refine ps_st (S' := (48, [(0, .ref m0), (1, .int (nI p)), (2, .int (nI (by2 f pM))), (3, .int (nI f0)), (4, .int (nI ib)), (5, .int (nI k))], [.int (nI p), .ref m0], M1)) rfl rfl rfl ?_
          refine pl_call (a := [.ref m0, .int (nI p)]) (rest := []) rfl rfl rfl (rd_u2 (n := n) (f := f) (p := p) hR1 hF1 (by omega)) (fun v1 M2 q3 => ?_)
          obtain ⟨rfl, rfl⟩ := q3
          show pl _ _ _ (51, [(0, .ref m0), (1, .int (nI p)), (2, .int (nI (by2 f pM))), (3, .int (nI f0)), (4, .int (nI ib)), (5, .int (nI k))], [.int (nI (by2 f p))], M1) _
          have hu_48 := by2_lt f p
          refine ps_st (S' := (53, [(6, .int (nI (by2 f p))), (0, .ref m0), (1, .int (nI p)), (2, .int (nI (by2 f pM))), (3, .int (nI f0)), (4, .int (nI ib)), (5, .int (nI k))], [], M1)) rfl rfl rfl ?_
          refine ps_st (S' := (54, [(6, .int (nI (by2 f p))), (0, .ref m0), (1, .int (nI p)), (2, .int (nI (by2 f pM))), (3, .int (nI f0)), (4, .int (nI ib)), (5, .int (nI k))], [.ref m0], M1)) rfl rfl rfl ?_
          refine ps_st (S' := (55, [(6, .int (nI (by2 f p))), (0, .ref m0), (1, .int (nI p)), (2, .int (nI (by2 f pM))), (3, .int (nI f0)), (4, .int (nI ib)), (5, .int (nI k))], [.ref m0, .ref m0], M1)) rfl rfl rfl ?_
          refine ps_st (S' := (56, [(6, .int (nI (by2 f p))), (0, .ref m0), (1, .int (nI p)), (2, .int (nI (by2 f pM))), (3, .int (nI f0)), (4, .int (nI ib)), (5, .int (nI k))], [.int (nI p), .ref m0, .ref m0], M1)) rfl rfl rfl ?_
          refine ps_st (S' := (57, [(6, .int (nI (by2 f p))), (0, .ref m0), (1, .int (nI p)), (2, .int (nI (by2 f pM))), (3, .int (nI f0)), (4, .int (nI ib)), (5, .int (nI k))], [.int 2, .int (nI p), .ref m0, .ref m0], M1)) rfl rfl rfl ?_
          refine ps_st (S' := (58, [(6, .int (nI (by2 f p))), (0, .ref m0), (1, .int (nI p)), (2, .int (nI (by2 f pM))), (3, .int (nI f0)), (4, .int (nI ib)), (5, .int (nI k))], [.int ((nI p) + 2), .ref m0, .ref m0], M1)) rfl rfl rfl ?_
          rw [nI_add1 (p := p) (k := 2) (x := 2) rfl (by omega)]
          show pl _ _ _ (_, [(6, .int (nI (by2 f p))), (0, .ref m0), (1, .int (nI p)), (2, .int (nI (by2 f pM))), (3, .int (nI f0)), (4, .int (nI ib)), (5, .int (nI k))], [.int (nI (p + 2)), .ref m0, .ref m0], M1) _
          refine pl_call (a := [.ref m0, .int (nI (p + 2))]) (rest := [.ref m0]) rfl rfl rfl (rd_u2 (n := n) (f := f) (p := (p + 2)) hR1 hF1 (by omega)) (fun v4 M5 q6 => ?_)
          obtain ⟨rfl, rfl⟩ := q6
          show pl _ _ _ (61, [(6, .int (nI (by2 f p))), (0, .ref m0), (1, .int (nI p)), (2, .int (nI (by2 f pM))), (3, .int (nI f0)), (4, .int (nI ib)), (5, .int (nI k))], [.int (nI (by2 f (p + 2))), .ref m0], M1) _
          have hu_58 := by2_lt f (p + 2)
          refine pl_call (a := [.ref m0, .int (nI (by2 f (p + 2)))]) (rest := []) rfl rfl rfl (rd_tag (n := n) (f := f) (tx := tx) (cN := cN) (A := A) (N := N) (mj := mj) (E := E) (k := (by2 f (p + 2))) hR1 hl51 hl52 hl53 hF1 hY1 hP1 (hEP) (hN) (hmj) (by2_lt _ _)) (fun v7 M8 q9 => ?_)
          obtain ⟨rfl, rfl⟩ := q9
          show pl _ _ _ (64, [(6, .int (nI (by2 f p))), (0, .ref m0), (1, .int (nI p)), (2, .int (nI (by2 f pM))), (3, .int (nI f0)), (4, .int (nI ib)), (5, .int (nI k))], [.int (nI (tg f E (by2 f (p + 2))))], M1) _
          have htg_61 := tg_lt f E (by2 f (p + 2))
          refine ps_st (S' := (65, [(6, .int (nI (by2 f p))), (0, .ref m0), (1, .int (nI p)), (2, .int (nI (by2 f pM))), (3, .int (nI f0)), (4, .int (nI ib)), (5, .int (nI k))], [.int 1, .int (nI (tg f E (by2 f (p + 2))))], M1)) rfl rfl rfl ?_
          refine ps_if2 (S1 := (82, [(6, .int (nI (by2 f p))), (0, .ref m0), (1, .int (nI p)), (2, .int (nI (by2 f pM))), (3, .int (nI f0)), (4, .int (nI ib)), (5, .int (nI k))], [], M1)) (S2 := (68, [(6, .int (nI (by2 f p))), (0, .ref m0), (1, .int (nI p)), (2, .int (nI (by2 f pM))), (3, .int (nI f0)), (4, .int (nI ib)), (5, .int (nI k))], [], M1)) rfl rfl rfl (fun c_65 => ?_) (fun c_65 => ?_)
          · have c_65 : ¬ (nI (tg f E (by2 f (p + 2)))) = 1 := of_decide_eq_true c_65
            have n_65 : ¬ (tg f E (by2 f (p + 2)) = 1) := fun h9 => c_65 ((eq_nI (p := tg f E (by2 f (p + 2))) (n := 1) (Nat.lt_trans (tg_lt _ _ _) (by decide)) (by decide)).mpr h9)
            refine ps_st (S' := (83, [(0, .ref m0), (1, .int (nI p)), (2, .int (nI (by2 f pM))), (3, .int (nI f0)), (4, .int (nI ib)), (5, .int (nI k)), (6, .int (nI (by2 f p)))], [.int (-1)], M1)) rfl rfl rfl ?_
            refine ps_st (S' := (85, [(7, .int (-1)), (0, .ref m0), (1, .int (nI p)), (2, .int (nI (by2 f pM))), (3, .int (nI f0)), (4, .int (nI ib)), (5, .int (nI k)), (6, .int (nI (by2 f p)))], [], M1)) rfl rfl rfl ?_
            refine ps_st (S' := (87, [(7, .int (-1)), (0, .ref m0), (1, .int (nI p)), (2, .int (nI (by2 f pM))), (3, .int (nI f0)), (4, .int (nI ib)), (5, .int (nI k)), (6, .int (nI (by2 f p)))], [.int (-1)], M1)) rfl rfl rfl ?_
            refine ps_st (S' := (88, [(7, .int (-1)), (0, .ref m0), (1, .int (nI p)), (2, .int (nI (by2 f pM))), (3, .int (nI f0)), (4, .int (nI ib)), (5, .int (nI k)), (6, .int (nI (by2 f p)))], [.ref m0, .int (-1)], M1)) rfl rfl rfl ?_
            refine pr_int (j := 9) (S' := (91, [(7, .int (-1)), (0, .ref m0), (1, .int (nI p)), (2, .int (nI (by2 f pM))), (3, .int (nI f0)), (4, .int (nI ib)), (5, .int (nI k)), (6, .int (nI (by2 f p)))], [.int (nI si), .int (-1)], M1)) rfl hR1 rfl hl9 rfl ?_
            refine ps_if2 (S1 := (98, [(7, .int (-1)), (0, .ref m0), (1, .int (nI p)), (2, .int (nI (by2 f pM))), (3, .int (nI f0)), (4, .int (nI ib)), (5, .int (nI k)), (6, .int (nI (by2 f p)))], [], M1)) (S2 := (94, [(7, .int (-1)), (0, .ref m0), (1, .int (nI p)), (2, .int (nI (by2 f pM))), (3, .int (nI f0)), (4, .int (nI ib)), (5, .int (nI k)), (6, .int (nI (by2 f p)))], [], M1)) rfl rfl rfl (fun c_91 => ?_) (fun c_91 => ?_)
            rotate_left
            · exact absurd (m1_ne (by omega)) (of_decide_eq_false c_91)
            refine ps_st (S' := (99, [(0, .ref m0), (1, .int (nI p)), (2, .int (nI (by2 f pM))), (3, .int (nI f0)), (4, .int (nI ib)), (5, .int (nI k)), (6, .int (nI (by2 f p))), (7, .int (-1))], [.int 0], M1)) rfl rfl rfl ?_
            refine ps_st (S' := (101, [(8, .int 0), (0, .ref m0), (1, .int (nI p)), (2, .int (nI (by2 f pM))), (3, .int (nI f0)), (4, .int (nI ib)), (5, .int (nI k)), (6, .int (nI (by2 f p))), (7, .int (-1))], [], M1)) rfl rfl rfl ?_
            refine ps_st (S' := (103, [(8, .int 0), (0, .ref m0), (1, .int (nI p)), (2, .int (nI (by2 f pM))), (3, .int (nI f0)), (4, .int (nI ib)), (5, .int (nI k)), (6, .int (nI (by2 f p))), (7, .int (-1))], [.int (-1)], M1)) rfl rfl rfl ?_
            refine ps_st (S' := (104, [(8, .int 0), (0, .ref m0), (1, .int (nI p)), (2, .int (nI (by2 f pM))), (3, .int (nI f0)), (4, .int (nI ib)), (5, .int (nI k)), (6, .int (nI (by2 f p))), (7, .int (-1))], [.ref m0, .int (-1)], M1)) rfl rfl rfl ?_
            refine pr_int (j := 10) (S' := (107, [(8, .int 0), (0, .ref m0), (1, .int (nI p)), (2, .int (nI (by2 f pM))), (3, .int (nI f0)), (4, .int (nI ib)), (5, .int (nI k)), (6, .int (nI (by2 f p))), (7, .int (-1))], [.int (nI sc), .int (-1)], M1)) rfl hR1 rfl hl10 rfl ?_
            refine ps_if2 (S1 := (114, [(8, .int 0), (0, .ref m0), (1, .int (nI p)), (2, .int (nI (by2 f pM))), (3, .int (nI f0)), (4, .int (nI ib)), (5, .int (nI k)), (6, .int (nI (by2 f p))), (7, .int (-1))], [], M1)) (S2 := (110, [(8, .int 0), (0, .ref m0), (1, .int (nI p)), (2, .int (nI (by2 f pM))), (3, .int (nI f0)), (4, .int (nI ib)), (5, .int (nI k)), (6, .int (nI (by2 f p))), (7, .int (-1))], [], M1)) rfl rfl rfl (fun c_107 => ?_) (fun c_107 => ?_)
            rotate_left
            · exact absurd (m1_ne (by omega)) (of_decide_eq_false c_107)
            refine ps_st (S' := (115, [(0, .ref m0), (1, .int (nI p)), (2, .int (nI (by2 f pM))), (3, .int (nI f0)), (4, .int (nI ib)), (5, .int (nI k)), (6, .int (nI (by2 f p))), (7, .int (-1)), (8, .int 0)], [.int 0], M1)) rfl rfl rfl ?_
            refine ps_st (S' := (117, [(9, .int 0), (0, .ref m0), (1, .int (nI p)), (2, .int (nI (by2 f pM))), (3, .int (nI f0)), (4, .int (nI ib)), (5, .int (nI k)), (6, .int (nI (by2 f p))), (7, .int (-1)), (8, .int 0)], [], M1)) rfl rfl rfl ?_
            refine ps_st (S' := (119, [(9, .int 0), (0, .ref m0), (1, .int (nI p)), (2, .int (nI (by2 f pM))), (3, .int (nI f0)), (4, .int (nI ib)), (5, .int (nI k)), (6, .int (nI (by2 f p))), (7, .int (-1)), (8, .int 0)], [.int (-1)], M1)) rfl rfl rfl ?_
            refine ps_if (S1 := (147, [(0, .ref m0), (1, .int (nI p))], [], M1)) (S2 := (122, [(9, .int 0), (0, .ref m0), (1, .int (nI p)), (2, .int (nI (by2 f pM))), (3, .int (nI f0)), (4, .int (nI ib)), (5, .int (nI k)), (6, .int (nI (by2 f p))), (7, .int (-1)), (8, .int 0)], [], M1)) rfl rfl rfl (fun c_119 => ?_) (fun c_119 => ?_)
            rotate_left
            · exact absurd (by decide) (of_decide_eq_false c_119)
            refine ps_st (S' := (148, [(0, .ref m0), (1, .int (nI p))], [.ref m0], M1)) rfl rfl rfl ?_
            refine ps_st (S' := (150, [(0, .ref m0), (1, .int (nI p))], [.int 24, .ref m0], M1)) rfl rfl rfl ?_
            refine ps_st (S' := (151, [(0, .ref m0), (1, .int (nI p))], [.int (nI p), .int 24, .ref m0], M1)) rfl rfl rfl ?_
            refine ps_st (S' := (152, [(0, .ref m0), (1, .int (nI p))], [.int 2, .int (nI p), .int 24, .ref m0], M1)) rfl rfl rfl ?_
            refine ps_st (S' := (153, [(0, .ref m0), (1, .int (nI p))], [.int ((nI p) + 2), .int 24, .ref m0], M1)) rfl rfl rfl ?_
            rw [nI_add1 (p := p) (k := 2) (x := 2) rfl (by omega)]
            show pl _ _ _ (_, [(0, .ref m0), (1, .int (nI p))], [.int (nI (p + 2)), .int 24, .ref m0], M1) _
            refine pl_call (a := [.ref m0, .int 24, .int (nI (p + 2))]) (rest := []) rfl rfl rfl (rd_wrong (x1 := 24) (x2 := (nI (p + 2))) hR1) (fun v10 M11 q12 => ?_)
            obtain ⟨I13, R14, rfl, hR15, hI16, hX17, hi18, hi19⟩ := q12
            have hi20 := (hI16 51 (by decide)).trans hl51
            have hi21 := (hI16 52 (by decide)).trans hl52
            have hi22 := (hI16 53 (by decide)).trans hl53
            have hi23 := (hI16 58 (by decide)).trans hl58
            have hi24 := (hI16 56 (by decide)).trans hl56
            have hi25 := (hI16 26 (by decide)).trans hl26
            have hi27 := (hI16 9 (by decide)).trans hl9
            have hi28 := (hI16 10 (by decide)).trans hl10
            have hF_29 := hF1.mono (cIx hI16 (by decide)) (cRx hX17 (by decide))
            have hY_30 := hY1.mono (cIx hI16 (by decide)) (cRx hX17 (by decide))
            have hP_31 := hP1.mono (cIx hI16 (by decide)) (cRx hX17 (by decide))
            have hK_32 := hK1.mono (cIx hI16 (by decide)) (cRx hX17 (by decide))
            have hN9_33 := hN91.mono (cIx hI16 (by decide)) (cRx hX17 (by decide))
            have hEI34 := hEI1.tr hI16 (by decide)
            have hER35 := hER1.tr hX17 (by decide)
            show pl _ _ _ (156, [(0, .ref m0), (1, .int (nI p))], [.int 0], M11) _
            exact ps_ret rfl rfl (Or.inr ⟨(24, p + 2), I13, R14, by
                rw [← hs, mtS_st (i := k) (by omega), ← hpk, mh_24 (mnm_no (by omega))], rfl, hR15, hEI34, hER35, hi18, hi19⟩)
          · have c_65 : ¬ (¬ (nI (tg f E (by2 f (p + 2)))) = 1) := of_decide_eq_false c_65
            have n_65 : tg f E (by2 f (p + 2)) = 1 := (eq_nI (p := tg f E (by2 f (p + 2))) (n := 1) (Nat.lt_trans (tg_lt _ _ _) (by decide)) (by decide)).mp (Decidable.not_not.mp c_65)
            refine ps_st (S' := (69, [(6, .int (nI (by2 f p))), (0, .ref m0), (1, .int (nI p)), (2, .int (nI (by2 f pM))), (3, .int (nI f0)), (4, .int (nI ib)), (5, .int (nI k))], [.ref m0], M1)) rfl rfl rfl ?_
            refine ps_st (S' := (70, [(6, .int (nI (by2 f p))), (0, .ref m0), (1, .int (nI p)), (2, .int (nI (by2 f pM))), (3, .int (nI f0)), (4, .int (nI ib)), (5, .int (nI k))], [.ref m0, .ref m0], M1)) rfl rfl rfl ?_
            refine ps_st (S' := (71, [(6, .int (nI (by2 f p))), (0, .ref m0), (1, .int (nI p)), (2, .int (nI (by2 f pM))), (3, .int (nI f0)), (4, .int (nI ib)), (5, .int (nI k))], [.int (nI p), .ref m0, .ref m0], M1)) rfl rfl rfl ?_
            refine ps_st (S' := (72, [(6, .int (nI (by2 f p))), (0, .ref m0), (1, .int (nI p)), (2, .int (nI (by2 f pM))), (3, .int (nI f0)), (4, .int (nI ib)), (5, .int (nI k))], [.int 2, .int (nI p), .ref m0, .ref m0], M1)) rfl rfl rfl ?_
            refine ps_st (S' := (73, [(6, .int (nI (by2 f p))), (0, .ref m0), (1, .int (nI p)), (2, .int (nI (by2 f pM))), (3, .int (nI f0)), (4, .int (nI ib)), (5, .int (nI k))], [.int ((nI p) + 2), .ref m0, .ref m0], M1)) rfl rfl rfl ?_
            rw [nI_add1 (p := p) (k := 2) (x := 2) rfl (by omega)]
            show pl _ _ _ (_, [(6, .int (nI (by2 f p))), (0, .ref m0), (1, .int (nI p)), (2, .int (nI (by2 f pM))), (3, .int (nI f0)), (4, .int (nI ib)), (5, .int (nI k))], [.int (nI (p + 2)), .ref m0, .ref m0], M1) _
            refine pl_call (a := [.ref m0, .int (nI (p + 2))]) (rest := [.ref m0]) rfl rfl rfl (rd_u2 (n := n) (f := f) (p := (p + 2)) hR1 hF1 (by omega)) (fun v36 M37 q38 => ?_)
            obtain ⟨rfl, rfl⟩ := q38
            show pl _ _ _ (76, [(6, .int (nI (by2 f p))), (0, .ref m0), (1, .int (nI p)), (2, .int (nI (by2 f pM))), (3, .int (nI f0)), (4, .int (nI ib)), (5, .int (nI k))], [.int (nI (by2 f (p + 2))), .ref m0], M1) _
            have hu_73 := by2_lt f (p + 2)
            refine pl_call (a := [.ref m0, .int (nI (by2 f (p + 2)))]) (rest := []) rfl rfl rfl (rd_symOf (n := n) (f := f) (tx := tx) (cN := cN) (A := A) (N := N) (mj := mj) (E := E) (k := (by2 f (p + 2))) hR1 hl51 hl52 hl53 hF1 hY1 hP1 (hEP) (hN) (hmj) (by omega)) (fun v39 M40 q41 => ?_)
            obtain ⟨s42, q76_s, rfl, rfl⟩ := q41
            show pl _ _ _ (79, [(6, .int (nI (by2 f p))), (0, .ref m0), (1, .int (nI p)), (2, .int (nI (by2 f pM))), (3, .int (nI f0)), (4, .int (nI ib)), (5, .int (nI k))], [.int (nI s42)], M1) _
            have hsl_76 := q76_s.1
            have htl_76 := hY1.1.2.2.1
            refine ps_st (S' := (83, [(0, .ref m0), (1, .int (nI p)), (2, .int (nI (by2 f pM))), (3, .int (nI f0)), (4, .int (nI ib)), (5, .int (nI k)), (6, .int (nI (by2 f p)))], [.int (nI s42)], M1)) rfl rfl rfl ?_
            refine ps_st (S' := (85, [(7, .int (nI s42)), (0, .ref m0), (1, .int (nI p)), (2, .int (nI (by2 f pM))), (3, .int (nI f0)), (4, .int (nI ib)), (5, .int (nI k)), (6, .int (nI (by2 f p)))], [], M1)) rfl rfl rfl ?_
            have he1 := sym_eq hY1 q76_s hsi
            have he2 := sym_eq hY1 q76_s hsc
            have hic := ic_no (l := tX f n E (by2 f (p + 2)))
            have hiu := ic_unq (l := tX f n E (by2 f (p + 2)))
            refine ps_st (S' := (87, [(7, .int (nI s42)), (0, .ref m0), (1, .int (nI p)), (2, .int (nI (by2 f pM))), (3, .int (nI f0)), (4, .int (nI ib)), (5, .int (nI k)), (6, .int (nI (by2 f p)))], [.int (nI s42)], M1)) rfl rfl rfl ?_
            refine ps_st (S' := (88, [(7, .int (nI s42)), (0, .ref m0), (1, .int (nI p)), (2, .int (nI (by2 f pM))), (3, .int (nI f0)), (4, .int (nI ib)), (5, .int (nI k)), (6, .int (nI (by2 f p)))], [.ref m0, .int (nI s42)], M1)) rfl rfl rfl ?_
            refine pr_int (j := 9) (S' := (91, [(7, .int (nI s42)), (0, .ref m0), (1, .int (nI p)), (2, .int (nI (by2 f pM))), (3, .int (nI f0)), (4, .int (nI ib)), (5, .int (nI k)), (6, .int (nI (by2 f p)))], [.int (nI si), .int (nI s42)], M1)) rfl hR1 rfl hl9 rfl ?_
            refine ps_if2 (S1 := (98, [(7, .int (nI s42)), (0, .ref m0), (1, .int (nI p)), (2, .int (nI (by2 f pM))), (3, .int (nI f0)), (4, .int (nI ib)), (5, .int (nI k)), (6, .int (nI (by2 f p)))], [], M1)) (S2 := (94, [(7, .int (nI s42)), (0, .ref m0), (1, .int (nI p)), (2, .int (nI (by2 f pM))), (3, .int (nI f0)), (4, .int (nI ib)), (5, .int (nI k)), (6, .int (nI (by2 f p)))], [], M1)) rfl rfl rfl (fun c_91 => ?_) (fun c_91 => ?_)
            · have c_91 : ¬ (nI s42) = (nI si) := of_decide_eq_true c_91
              have n_91 : ¬ (s42 = si) := fun h9 => c_91 ((eq_nI (p := s42) (n := si) (by omega) (by omega)).mpr h9)
              refine ps_st (S' := (99, [(0, .ref m0), (1, .int (nI p)), (2, .int (nI (by2 f pM))), (3, .int (nI f0)), (4, .int (nI ib)), (5, .int (nI k)), (6, .int (nI (by2 f p))), (7, .int (nI s42))], [.int 0], M1)) rfl rfl rfl ?_
              refine ps_st (S' := (101, [(8, .int 0), (0, .ref m0), (1, .int (nI p)), (2, .int (nI (by2 f pM))), (3, .int (nI f0)), (4, .int (nI ib)), (5, .int (nI k)), (6, .int (nI (by2 f p))), (7, .int (nI s42))], [], M1)) rfl rfl rfl ?_
              refine ps_st (S' := (103, [(8, .int 0), (0, .ref m0), (1, .int (nI p)), (2, .int (nI (by2 f pM))), (3, .int (nI f0)), (4, .int (nI ib)), (5, .int (nI k)), (6, .int (nI (by2 f p))), (7, .int (nI s42))], [.int (nI s42)], M1)) rfl rfl rfl ?_
              refine ps_st (S' := (104, [(8, .int 0), (0, .ref m0), (1, .int (nI p)), (2, .int (nI (by2 f pM))), (3, .int (nI f0)), (4, .int (nI ib)), (5, .int (nI k)), (6, .int (nI (by2 f p))), (7, .int (nI s42))], [.ref m0, .int (nI s42)], M1)) rfl rfl rfl ?_
              refine pr_int (j := 10) (S' := (107, [(8, .int 0), (0, .ref m0), (1, .int (nI p)), (2, .int (nI (by2 f pM))), (3, .int (nI f0)), (4, .int (nI ib)), (5, .int (nI k)), (6, .int (nI (by2 f p))), (7, .int (nI s42))], [.int (nI sc), .int (nI s42)], M1)) rfl hR1 rfl hl10 rfl ?_
              refine ps_if2 (S1 := (114, [(8, .int 0), (0, .ref m0), (1, .int (nI p)), (2, .int (nI (by2 f pM))), (3, .int (nI f0)), (4, .int (nI ib)), (5, .int (nI k)), (6, .int (nI (by2 f p))), (7, .int (nI s42))], [], M1)) (S2 := (110, [(8, .int 0), (0, .ref m0), (1, .int (nI p)), (2, .int (nI (by2 f pM))), (3, .int (nI f0)), (4, .int (nI ib)), (5, .int (nI k)), (6, .int (nI (by2 f p))), (7, .int (nI s42))], [], M1)) rfl rfl rfl (fun c_107 => ?_) (fun c_107 => ?_)
              · have c_107 : ¬ (nI s42) = (nI sc) := of_decide_eq_true c_107
                have n_107 : ¬ (s42 = sc) := fun h9 => c_107 ((eq_nI (p := s42) (n := sc) (by omega) (by omega)).mpr h9)
                refine ps_st (S' := (115, [(0, .ref m0), (1, .int (nI p)), (2, .int (nI (by2 f pM))), (3, .int (nI f0)), (4, .int (nI ib)), (5, .int (nI k)), (6, .int (nI (by2 f p))), (7, .int (nI s42)), (8, .int 0)], [.int 0], M1)) rfl rfl rfl ?_
                refine ps_st (S' := (117, [(9, .int 0), (0, .ref m0), (1, .int (nI p)), (2, .int (nI (by2 f pM))), (3, .int (nI f0)), (4, .int (nI ib)), (5, .int (nI k)), (6, .int (nI (by2 f p))), (7, .int (nI s42)), (8, .int 0)], [], M1)) rfl rfl rfl ?_
                refine ps_st (S' := (119, [(9, .int 0), (0, .ref m0), (1, .int (nI p)), (2, .int (nI (by2 f pM))), (3, .int (nI f0)), (4, .int (nI ib)), (5, .int (nI k)), (6, .int (nI (by2 f p))), (7, .int (nI s42)), (8, .int 0)], [.int (nI s42)], M1)) rfl rfl rfl ?_
                refine ps_if (S1 := (147, [(0, .ref m0), (1, .int (nI p))], [], M1)) (S2 := (122, [(9, .int 0), (0, .ref m0), (1, .int (nI p)), (2, .int (nI (by2 f pM))), (3, .int (nI f0)), (4, .int (nI ib)), (5, .int (nI k)), (6, .int (nI (by2 f p))), (7, .int (nI s42)), (8, .int 0)], [], M1)) rfl rfl rfl (fun c_119 => ?_) (fun c_119 => ?_)
                · exact absurd (of_decide_eq_true c_119) (show ¬ ((nI s42) < 0) from fun h9 => absurd ((lt_nI (p := s42) (n := 0) (by omega) (by decide)).mp h9) (by omega))
                refine ps_st (S' := (124, [(9, .int 0), (0, .ref m0), (1, .int (nI p)), (2, .int (nI (by2 f pM))), (3, .int (nI f0)), (4, .int (nI ib)), (5, .int (nI k)), (6, .int (nI (by2 f p))), (7, .int (nI s42)), (8, .int 0)], [.int 0], M1)) rfl rfl rfl ?_
                refine ps_if (S1 := (157, [(0, .ref m0), (1, .int (nI p)), (2, .int (nI (by2 f pM))), (3, .int (nI f0)), (4, .int (nI ib)), (5, .int (nI k)), (6, .int (nI (by2 f p))), (7, .int (nI s42)), (8, .int 0), (9, .int 0)], [], M1)) (S2 := (127, [(9, .int 0), (0, .ref m0), (1, .int (nI p)), (2, .int (nI (by2 f pM))), (3, .int (nI f0)), (4, .int (nI ib)), (5, .int (nI k)), (6, .int (nI (by2 f p))), (7, .int (nI s42)), (8, .int 0)], [], M1)) rfl rfl rfl (fun c_124 => ?_) (fun c_124 => ?_)
                · exact absurd (of_decide_eq_true c_124) (by decide)
                refine ps_st (S' := (129, [(9, .int 0), (0, .ref m0), (1, .int (nI p)), (2, .int (nI (by2 f pM))), (3, .int (nI f0)), (4, .int (nI ib)), (5, .int (nI k)), (6, .int (nI (by2 f p))), (7, .int (nI s42)), (8, .int 0)], [.int 0], M1)) rfl rfl rfl ?_
                refine ps_if (S1 := (137, [(0, .ref m0), (1, .int (nI p)), (2, .int (nI (by2 f pM))), (3, .int (nI f0)), (4, .int (nI ib)), (5, .int (nI k)), (6, .int (nI (by2 f p))), (7, .int (nI s42)), (8, .int 0), (9, .int 0)], [], M1)) (S2 := (132, [(9, .int 0), (0, .ref m0), (1, .int (nI p)), (2, .int (nI (by2 f pM))), (3, .int (nI f0)), (4, .int (nI ib)), (5, .int (nI k)), (6, .int (nI (by2 f p))), (7, .int (nI s42)), (8, .int 0)], [], M1)) rfl rfl rfl (fun c_129 => ?_) (fun c_129 => ?_)
                rotate_left
                · exact absurd (by decide) (of_decide_eq_false c_129)
                refine ps_st (S' := (138, [(0, .ref m0), (1, .int (nI p)), (2, .int (nI (by2 f pM))), (3, .int (nI f0)), (4, .int (nI ib)), (5, .int (nI k)), (6, .int (nI (by2 f p))), (7, .int (nI s42)), (8, .int 0), (9, .int 0)], [.ref m0], M1)) rfl rfl rfl ?_
                refine ps_st (S' := (140, [(0, .ref m0), (1, .int (nI p)), (2, .int (nI (by2 f pM))), (3, .int (nI f0)), (4, .int (nI ib)), (5, .int (nI k)), (6, .int (nI (by2 f p))), (7, .int (nI s42)), (8, .int 0), (9, .int 0)], [.int (nI s42), .ref m0], M1)) rfl rfl rfl ?_
                refine ps_st (S' := (141, [(0, .ref m0), (1, .int (nI p)), (2, .int (nI (by2 f pM))), (3, .int (nI f0)), (4, .int (nI ib)), (5, .int (nI k)), (6, .int (nI (by2 f p))), (7, .int (nI s42)), (8, .int 0), (9, .int 0)], [.int 0, .int (nI s42), .ref m0], M1)) rfl rfl rfl ?_
                refine pl_call (a := [.ref m0, .int (nI s42), .int 0]) (rest := []) rfl rfl rfl (rd_unq0 (tx := tx) (cN := cN) (A := A) (s := s42) (l := (tX f n E (by2 f (p + 2)))) hR1 hY1 (q76_s)) (fun v43 M44 q45 => ?_)
                obtain ⟨rfl, rfl⟩ := q45
                show pl _ _ _ (144, [(0, .ref m0), (1, .int (nI p)), (2, .int (nI (by2 f pM))), (3, .int (nI f0)), (4, .int (nI ib)), (5, .int (nI k)), (6, .int (nI (by2 f p))), (7, .int (nI s42)), (8, .int 0), (9, .int 0)], [.int (nI (unq0 (tX f n E (by2 f (p + 2)))))], M1) _
                refine ps_if (S1 := (157, [(0, .ref m0), (1, .int (nI p)), (2, .int (nI (by2 f pM))), (3, .int (nI f0)), (4, .int (nI ib)), (5, .int (nI k)), (6, .int (nI (by2 f p))), (7, .int (nI s42)), (8, .int 0), (9, .int 0)], [], M1)) (S2 := (147, [(0, .ref m0), (1, .int (nI p))], [], M1)) rfl rfl rfl (fun c_144 => ?_) (fun c_144 => ?_)
                · have c_144 : ¬ (nI (unq0 (tX f n E (by2 f (p + 2))))) = 0 := of_decide_eq_true c_144
                  have n_144 : ¬ (unq0 (tX f n E (by2 f (p + 2))) = 0) := fun h9 => c_144 ((eq_nI (p := unq0 (tX f n E (by2 f (p + 2)))) (n := 0) (Nat.lt_trans (le1_unq0 _) (by decide)) (by decide)).mpr h9)
                  refine ps_st (S' := (159, [(0, .ref m0), (1, .int (nI p)), (2, .int (nI (by2 f pM))), (3, .int (nI f0)), (4, .int (nI ib)), (5, .int (nI k)), (6, .int (nI (by2 f p))), (7, .int (nI s42)), (8, .int 0), (9, .int 0)], [.int 0], M1)) rfl rfl rfl ?_
                  refine ps_if (S1 := (183, [(0, .ref m0), (1, .int (nI p)), (2, .int (nI (by2 f pM))), (3, .int (nI f0)), (4, .int (nI ib)), (5, .int (nI k)), (6, .int (nI (by2 f p))), (7, .int (nI s42)), (8, .int 0), (9, .int 0)], [], M1)) (S2 := (162, [(0, .ref m0), (1, .int (nI p)), (2, .int (nI (by2 f pM))), (3, .int (nI f0)), (4, .int (nI ib)), (5, .int (nI k)), (6, .int (nI (by2 f p))), (7, .int (nI s42)), (8, .int 0), (9, .int 0)], [], M1)) rfl rfl rfl (fun c_159 => ?_) (fun c_159 => ?_)
                  · exact absurd (of_decide_eq_true c_159) (by decide)
                  refine ps_st (S' := (163, [(0, .ref m0), (1, .int (nI p)), (2, .int (nI (by2 f pM))), (3, .int (nI f0)), (4, .int (nI ib)), (5, .int (nI k)), (6, .int (nI (by2 f p))), (7, .int (nI s42)), (8, .int 0), (9, .int 0)], [.ref m0], M1)) rfl rfl rfl ?_
                  refine ps_st (S' := (165, [(0, .ref m0), (1, .int (nI p)), (2, .int (nI (by2 f pM))), (3, .int (nI f0)), (4, .int (nI ib)), (5, .int (nI k)), (6, .int (nI (by2 f p))), (7, .int (nI s42)), (8, .int 0), (9, .int 0)], [.int (nI (by2 f p)), .ref m0], M1)) rfl rfl rfl ?_
                  refine ps_st (S' := (167, [(0, .ref m0), (1, .int (nI p)), (2, .int (nI (by2 f pM))), (3, .int (nI f0)), (4, .int (nI ib)), (5, .int (nI k)), (6, .int (nI (by2 f p))), (7, .int (nI s42)), (8, .int 0), (9, .int 0)], [.int 0, .int (nI (by2 f p)), .ref m0], M1)) rfl rfl rfl ?_
                  refine ps_st (S' := (169, [(0, .ref m0), (1, .int (nI p)), (2, .int (nI (by2 f pM))), (3, .int (nI f0)), (4, .int (nI ib)), (5, .int (nI k)), (6, .int (nI (by2 f p))), (7, .int (nI s42)), (8, .int 0), (9, .int 0)], [.int (nI ib), .int 0, .int (nI (by2 f p)), .ref m0], M1)) rfl rfl rfl ?_
                  refine pl_call (a := [.ref m0, .int (nI (by2 f p)), .int 0, .int (nI ib)]) (rest := []) rfl rfl rfl (rd_fitX (mj := mj) (x := (by2 f p)) (c := cf) (i := 0) (ib := ib) hR1 hl53 (hmj) (hu8) (by decide) (hib)) (fun v46 M47 q48 => ?_)
                  obtain ⟨rfl, rfl⟩ := q48
                  show pl _ _ _ (172, [(0, .ref m0), (1, .int (nI p)), (2, .int (nI (by2 f pM))), (3, .int (nI f0)), (4, .int (nI ib)), (5, .int (nI k)), (6, .int (nI (by2 f p))), (7, .int (nI s42)), (8, .int 0), (9, .int 0)], [.int (nI (fitN mj cf (by2 f p) 0))], M1) _
                  have hft := le1_fit mj cf (by2 f p) 0
                  refine ps_if (S1 := (183, [(0, .ref m0), (1, .int (nI p)), (2, .int (nI (by2 f pM))), (3, .int (nI f0)), (4, .int (nI ib)), (5, .int (nI k)), (6, .int (nI (by2 f p))), (7, .int (nI s42)), (8, .int 0), (9, .int 0)], [], M1)) (S2 := (175, [(0, .ref m0), (1, .int (nI p)), (2, .int (nI (by2 f pM))), (3, .int (nI f0)), (4, .int (nI ib)), (5, .int (nI k)), (6, .int (nI (by2 f p))), (7, .int (nI s42)), (8, .int 0), (9, .int 0)], [], M1)) rfl rfl rfl (fun c_172 => ?_) (fun c_172 => ?_)
                  · have c_172 : ¬ (nI (fitN mj cf (by2 f p) 0)) = 0 := of_decide_eq_true c_172
                    have n_172 : ¬ (fitN mj cf (by2 f p) 0 = 0) := fun h9 => c_172 ((eq_nI (p := fitN mj cf (by2 f p) 0) (n := 0) (Nat.lt_trans (le1_fit _ _ _ _) (by decide)) (by decide)).mpr h9)
                    have hnm : ¬ mnmN f n E cf (by2 f (p + 2)) = 0 := by
                      have m0_ := mnm_0 (f := f) (n := n) (E := E) (c := cf) (x := by2 f (p + 2))
                      have u0_ := uq0 (l := tX f n E (by2 f (p + 2)))
                      omega
                    have hfl : ¬ mflN f n E cf mj (by2 f p) (by2 f (p + 2)) = 0 := by
                      rw [mfl_n (by omega) (by omega)]
                      omega
                    exact ih.2.1 (k) (p) (ib) (s42) (0) (0) M1 I1 R1 hR1 hEI1 hER1 hl51 hl52 hl53 hl58 hl56 hl26 hl9 hl10 hF1 hY1 hP1 hK1 hN91 (by omega) (hpk) (hpe) (hs) (hib) (q76_s) (by omega) (hnm) (hfl) (by omega) (by omega)
                  · have c_172 : ¬ (¬ (nI (fitN mj cf (by2 f p) 0)) = 0) := of_decide_eq_false c_172
                    have n_172 : fitN mj cf (by2 f p) 0 = 0 := (eq_nI (p := fitN mj cf (by2 f p) 0) (n := 0) (Nat.lt_trans (le1_fit _ _ _ _) (by decide)) (by decide)).mp (Decidable.not_not.mp c_172)
                    refine ps_st (S' := (176, [(0, .ref m0), (1, .int (nI p)), (2, .int (nI (by2 f pM))), (3, .int (nI f0)), (4, .int (nI ib)), (5, .int (nI k)), (6, .int (nI (by2 f p))), (7, .int (nI s42)), (8, .int 0), (9, .int 0)], [.ref m0], M1)) rfl rfl rfl ?_
                    refine ps_st (S' := (178, [(0, .ref m0), (1, .int (nI p)), (2, .int (nI (by2 f pM))), (3, .int (nI f0)), (4, .int (nI ib)), (5, .int (nI k)), (6, .int (nI (by2 f p))), (7, .int (nI s42)), (8, .int 0), (9, .int 0)], [.int 23, .ref m0], M1)) rfl rfl rfl ?_
                    refine ps_st (S' := (179, [(0, .ref m0), (1, .int (nI p)), (2, .int (nI (by2 f pM))), (3, .int (nI f0)), (4, .int (nI ib)), (5, .int (nI k)), (6, .int (nI (by2 f p))), (7, .int (nI s42)), (8, .int 0), (9, .int 0)], [.int (nI p), .int 23, .ref m0], M1)) rfl rfl rfl ?_
                    refine pl_call (a := [.ref m0, .int 23, .int (nI p)]) (rest := []) rfl rfl rfl (rd_wrong (x1 := 23) (x2 := (nI p)) hR1) (fun v49 M50 q51 => ?_)
                    obtain ⟨I52, R53, rfl, hR54, hI55, hX56, hi57, hi59⟩ := q51
                    have hi60 := (hI55 51 (by decide)).trans hl51
                    have hi61 := (hI55 52 (by decide)).trans hl52
                    have hi62 := (hI55 53 (by decide)).trans hl53
                    have hi63 := (hI55 58 (by decide)).trans hl58
                    have hi64 := (hI55 56 (by decide)).trans hl56
                    have hi65 := (hI55 26 (by decide)).trans hl26
                    have hi66 := (hI55 9 (by decide)).trans hl9
                    have hi67 := (hI55 10 (by decide)).trans hl10
                    have hF_68 := hF1.mono (cIx hI55 (by decide)) (cRx hX56 (by decide))
                    have hY_69 := hY1.mono (cIx hI55 (by decide)) (cRx hX56 (by decide))
                    have hP_70 := hP1.mono (cIx hI55 (by decide)) (cRx hX56 (by decide))
                    have hK_71 := hK1.mono (cIx hI55 (by decide)) (cRx hX56 (by decide))
                    have hN9_72 := hN91.mono (cIx hI55 (by decide)) (cRx hX56 (by decide))
                    have hEI73 := hEI1.tr hI55 (by decide)
                    have hER74 := hER1.tr hX56 (by decide)
                    show pl _ _ _ (182, [(0, .ref m0), (1, .int (nI p)), (2, .int (nI (by2 f pM))), (3, .int (nI f0)), (4, .int (nI ib)), (5, .int (nI k)), (6, .int (nI (by2 f p))), (7, .int (nI s42)), (8, .int 0), (9, .int 0)], [.int 0], M50) _
                    exact ps_ret rfl rfl (Or.inr ⟨(23, p), I52, R53, by
                        have m0_ := mnm_0 (f := f) (n := n) (E := E) (c := cf) (x := by2 f (p + 2))
                        have u0_ := uq0 (l := tX f n E (by2 f (p + 2)))
                        rw [← hs, mtS_st (i := k) (by omega), ← hpk, mh_23 (by omega) (by rw [mfl_n (by omega) (by omega)]; omega)], rfl, hR54, hEI73, hER74, hi57, hi59⟩)
                · have c_144 : ¬ (¬ (nI (unq0 (tX f n E (by2 f (p + 2))))) = 0) := of_decide_eq_false c_144
                  have n_144 : unq0 (tX f n E (by2 f (p + 2))) = 0 := (eq_nI (p := unq0 (tX f n E (by2 f (p + 2)))) (n := 0) (Nat.lt_trans (le1_unq0 _) (by decide)) (by decide)).mp (Decidable.not_not.mp c_144)
                  refine ps_st (S' := (148, [(0, .ref m0), (1, .int (nI p))], [.ref m0], M1)) rfl rfl rfl ?_
                  refine ps_st (S' := (150, [(0, .ref m0), (1, .int (nI p))], [.int 24, .ref m0], M1)) rfl rfl rfl ?_
                  refine ps_st (S' := (151, [(0, .ref m0), (1, .int (nI p))], [.int (nI p), .int 24, .ref m0], M1)) rfl rfl rfl ?_
                  refine ps_st (S' := (152, [(0, .ref m0), (1, .int (nI p))], [.int 2, .int (nI p), .int 24, .ref m0], M1)) rfl rfl rfl ?_
                  refine ps_st (S' := (153, [(0, .ref m0), (1, .int (nI p))], [.int ((nI p) + 2), .int 24, .ref m0], M1)) rfl rfl rfl ?_
                  rw [nI_add1 (p := p) (k := 2) (x := 2) rfl (by omega)]
                  show pl _ _ _ (_, [(0, .ref m0), (1, .int (nI p))], [.int (nI (p + 2)), .int 24, .ref m0], M1) _
                  refine pl_call (a := [.ref m0, .int 24, .int (nI (p + 2))]) (rest := []) rfl rfl rfl (rd_wrong (x1 := 24) (x2 := (nI (p + 2))) hR1) (fun v75 M76 q77 => ?_)
                  obtain ⟨I78, R79, rfl, hR80, hI81, hX82, hi83, hi84⟩ := q77
                  have hi85 := (hI81 51 (by decide)).trans hl51
                  have hi86 := (hI81 52 (by decide)).trans hl52
                  have hi87 := (hI81 53 (by decide)).trans hl53
                  have hi88 := (hI81 58 (by decide)).trans hl58
                  have hi89 := (hI81 56 (by decide)).trans hl56
                  have hi90 := (hI81 26 (by decide)).trans hl26
                  have hi91 := (hI81 9 (by decide)).trans hl9
                  have hi92 := (hI81 10 (by decide)).trans hl10
                  have hF_93 := hF1.mono (cIx hI81 (by decide)) (cRx hX82 (by decide))
                  have hY_94 := hY1.mono (cIx hI81 (by decide)) (cRx hX82 (by decide))
                  have hP_95 := hP1.mono (cIx hI81 (by decide)) (cRx hX82 (by decide))
                  have hK_96 := hK1.mono (cIx hI81 (by decide)) (cRx hX82 (by decide))
                  have hN9_97 := hN91.mono (cIx hI81 (by decide)) (cRx hX82 (by decide))
                  have hEI98 := hEI1.tr hI81 (by decide)
                  have hER99 := hER1.tr hX82 (by decide)
                  show pl _ _ _ (156, [(0, .ref m0), (1, .int (nI p))], [.int 0], M76) _
                  exact ps_ret rfl rfl (Or.inr ⟨(24, p + 2), I78, R79, by
                      rw [← hs, mtS_st (i := k) (by omega), ← hpk, mh_24 (by have m0_ := mnm_0 (f := f) (n := n) (E := E) (c := cf) (x := by2 f (p + 2)); have u0_ := uq0 (l := tX f n E (by2 f (p + 2))); omega)], rfl, hR80, hEI98, hER99, hi83, hi84⟩)
              · have c_107 : ¬ (¬ (nI s42) = (nI sc)) := of_decide_eq_false c_107
                have n_107 : s42 = sc := (eq_nI (p := s42) (n := sc) (by omega) (by omega)).mp (Decidable.not_not.mp c_107)
                refine ps_st (S' := (111, [(8, .int 0), (0, .ref m0), (1, .int (nI p)), (2, .int (nI (by2 f pM))), (3, .int (nI f0)), (4, .int (nI ib)), (5, .int (nI k)), (6, .int (nI (by2 f p))), (7, .int (nI s42))], [.int 1], M1)) rfl rfl rfl ?_
                refine ps_st (S' := (115, [(0, .ref m0), (1, .int (nI p)), (2, .int (nI (by2 f pM))), (3, .int (nI f0)), (4, .int (nI ib)), (5, .int (nI k)), (6, .int (nI (by2 f p))), (7, .int (nI s42)), (8, .int 0)], [.int 1], M1)) rfl rfl rfl ?_
                refine ps_st (S' := (117, [(9, .int 1), (0, .ref m0), (1, .int (nI p)), (2, .int (nI (by2 f pM))), (3, .int (nI f0)), (4, .int (nI ib)), (5, .int (nI k)), (6, .int (nI (by2 f p))), (7, .int (nI s42)), (8, .int 0)], [], M1)) rfl rfl rfl ?_
                refine ps_st (S' := (119, [(9, .int 1), (0, .ref m0), (1, .int (nI p)), (2, .int (nI (by2 f pM))), (3, .int (nI f0)), (4, .int (nI ib)), (5, .int (nI k)), (6, .int (nI (by2 f p))), (7, .int (nI s42)), (8, .int 0)], [.int (nI s42)], M1)) rfl rfl rfl ?_
                refine ps_if (S1 := (147, [(0, .ref m0), (1, .int (nI p))], [], M1)) (S2 := (122, [(9, .int 1), (0, .ref m0), (1, .int (nI p)), (2, .int (nI (by2 f pM))), (3, .int (nI f0)), (4, .int (nI ib)), (5, .int (nI k)), (6, .int (nI (by2 f p))), (7, .int (nI s42)), (8, .int 0)], [], M1)) rfl rfl rfl (fun c_119 => ?_) (fun c_119 => ?_)
                · exact absurd (of_decide_eq_true c_119) (show ¬ ((nI s42) < 0) from fun h9 => absurd ((lt_nI (p := s42) (n := 0) (by omega) (by decide)).mp h9) (by omega))
                refine ps_st (S' := (124, [(9, .int 1), (0, .ref m0), (1, .int (nI p)), (2, .int (nI (by2 f pM))), (3, .int (nI f0)), (4, .int (nI ib)), (5, .int (nI k)), (6, .int (nI (by2 f p))), (7, .int (nI s42)), (8, .int 0)], [.int 1], M1)) rfl rfl rfl ?_
                refine ps_if (S1 := (157, [(0, .ref m0), (1, .int (nI p)), (2, .int (nI (by2 f pM))), (3, .int (nI f0)), (4, .int (nI ib)), (5, .int (nI k)), (6, .int (nI (by2 f p))), (7, .int (nI s42)), (8, .int 0), (9, .int 1)], [], M1)) (S2 := (127, [(9, .int 1), (0, .ref m0), (1, .int (nI p)), (2, .int (nI (by2 f pM))), (3, .int (nI f0)), (4, .int (nI ib)), (5, .int (nI k)), (6, .int (nI (by2 f p))), (7, .int (nI s42)), (8, .int 0)], [], M1)) rfl rfl rfl (fun c_124 => ?_) (fun c_124 => ?_)
                rotate_left
                · exact absurd (by decide) (of_decide_eq_false c_124)
                refine ps_st (S' := (159, [(0, .ref m0), (1, .int (nI p)), (2, .int (nI (by2 f pM))), (3, .int (nI f0)), (4, .int (nI ib)), (5, .int (nI k)), (6, .int (nI (by2 f p))), (7, .int (nI s42)), (8, .int 0), (9, .int 1)], [.int 1], M1)) rfl rfl rfl ?_
                refine ps_if (S1 := (183, [(0, .ref m0), (1, .int (nI p)), (2, .int (nI (by2 f pM))), (3, .int (nI f0)), (4, .int (nI ib)), (5, .int (nI k)), (6, .int (nI (by2 f p))), (7, .int (nI s42)), (8, .int 0), (9, .int 1)], [], M1)) (S2 := (162, [(0, .ref m0), (1, .int (nI p)), (2, .int (nI (by2 f pM))), (3, .int (nI f0)), (4, .int (nI ib)), (5, .int (nI k)), (6, .int (nI (by2 f p))), (7, .int (nI s42)), (8, .int 0), (9, .int 1)], [], M1)) rfl rfl rfl (fun c_159 => ?_) (fun c_159 => ?_)
                rotate_left
                · exact absurd (by decide) (of_decide_eq_false c_159)
                have hnm : ¬ mnmN f n E cf (by2 f (p + 2)) = 0 := by
                  have m0_ := mnm_0 (f := f) (n := n) (E := E) (c := cf) (x := by2 f (p + 2))
                  have u0_ := uq0 (l := tX f n E (by2 f (p + 2)))
                  omega
                have hfl : ¬ mflN f n E cf mj (by2 f p) (by2 f (p + 2)) = 0 := by
                  rw [mfl_c (by omega)]
                  omega
                exact ih.2.1 (k) (p) (ib) (s42) (1) (0) M1 I1 R1 hR1 hEI1 hER1 hl51 hl52 hl53 hl58 hl56 hl26 hl9 hl10 hF1 hY1 hP1 hK1 hN91 (by omega) (hpk) (hpe) (hs) (hib) (q76_s) (by omega) (hnm) (hfl) (by omega) (by omega)
            · have c_91 : ¬ (¬ (nI s42) = (nI si)) := of_decide_eq_false c_91
              have n_91 : s42 = si := (eq_nI (p := s42) (n := si) (by omega) (by omega)).mp (Decidable.not_not.mp c_91)
              refine ps_st (S' := (95, [(7, .int (nI s42)), (0, .ref m0), (1, .int (nI p)), (2, .int (nI (by2 f pM))), (3, .int (nI f0)), (4, .int (nI ib)), (5, .int (nI k)), (6, .int (nI (by2 f p)))], [.int 1], M1)) rfl rfl rfl ?_
              refine ps_st (S' := (99, [(0, .ref m0), (1, .int (nI p)), (2, .int (nI (by2 f pM))), (3, .int (nI f0)), (4, .int (nI ib)), (5, .int (nI k)), (6, .int (nI (by2 f p))), (7, .int (nI s42))], [.int 1], M1)) rfl rfl rfl ?_
              refine ps_st (S' := (101, [(8, .int 1), (0, .ref m0), (1, .int (nI p)), (2, .int (nI (by2 f pM))), (3, .int (nI f0)), (4, .int (nI ib)), (5, .int (nI k)), (6, .int (nI (by2 f p))), (7, .int (nI s42))], [], M1)) rfl rfl rfl ?_
              refine ps_st (S' := (103, [(8, .int 1), (0, .ref m0), (1, .int (nI p)), (2, .int (nI (by2 f pM))), (3, .int (nI f0)), (4, .int (nI ib)), (5, .int (nI k)), (6, .int (nI (by2 f p))), (7, .int (nI s42))], [.int (nI s42)], M1)) rfl rfl rfl ?_
              refine ps_st (S' := (104, [(8, .int 1), (0, .ref m0), (1, .int (nI p)), (2, .int (nI (by2 f pM))), (3, .int (nI f0)), (4, .int (nI ib)), (5, .int (nI k)), (6, .int (nI (by2 f p))), (7, .int (nI s42))], [.ref m0, .int (nI s42)], M1)) rfl rfl rfl ?_
              refine pr_int (j := 10) (S' := (107, [(8, .int 1), (0, .ref m0), (1, .int (nI p)), (2, .int (nI (by2 f pM))), (3, .int (nI f0)), (4, .int (nI ib)), (5, .int (nI k)), (6, .int (nI (by2 f p))), (7, .int (nI s42))], [.int (nI sc), .int (nI s42)], M1)) rfl hR1 rfl hl10 rfl ?_
              refine ps_if2 (S1 := (114, [(8, .int 1), (0, .ref m0), (1, .int (nI p)), (2, .int (nI (by2 f pM))), (3, .int (nI f0)), (4, .int (nI ib)), (5, .int (nI k)), (6, .int (nI (by2 f p))), (7, .int (nI s42))], [], M1)) (S2 := (110, [(8, .int 1), (0, .ref m0), (1, .int (nI p)), (2, .int (nI (by2 f pM))), (3, .int (nI f0)), (4, .int (nI ib)), (5, .int (nI k)), (6, .int (nI (by2 f p))), (7, .int (nI s42))], [], M1)) rfl rfl rfl (fun c_107 => ?_) (fun c_107 => ?_)
              · have c_107 : ¬ (nI s42) = (nI sc) := of_decide_eq_true c_107
                have n_107 : ¬ (s42 = sc) := fun h9 => c_107 ((eq_nI (p := s42) (n := sc) (by omega) (by omega)).mpr h9)
                refine ps_st (S' := (115, [(0, .ref m0), (1, .int (nI p)), (2, .int (nI (by2 f pM))), (3, .int (nI f0)), (4, .int (nI ib)), (5, .int (nI k)), (6, .int (nI (by2 f p))), (7, .int (nI s42)), (8, .int 1)], [.int 0], M1)) rfl rfl rfl ?_
                refine ps_st (S' := (117, [(9, .int 0), (0, .ref m0), (1, .int (nI p)), (2, .int (nI (by2 f pM))), (3, .int (nI f0)), (4, .int (nI ib)), (5, .int (nI k)), (6, .int (nI (by2 f p))), (7, .int (nI s42)), (8, .int 1)], [], M1)) rfl rfl rfl ?_
                refine ps_st (S' := (119, [(9, .int 0), (0, .ref m0), (1, .int (nI p)), (2, .int (nI (by2 f pM))), (3, .int (nI f0)), (4, .int (nI ib)), (5, .int (nI k)), (6, .int (nI (by2 f p))), (7, .int (nI s42)), (8, .int 1)], [.int (nI s42)], M1)) rfl rfl rfl ?_
                refine ps_if (S1 := (147, [(0, .ref m0), (1, .int (nI p))], [], M1)) (S2 := (122, [(9, .int 0), (0, .ref m0), (1, .int (nI p)), (2, .int (nI (by2 f pM))), (3, .int (nI f0)), (4, .int (nI ib)), (5, .int (nI k)), (6, .int (nI (by2 f p))), (7, .int (nI s42)), (8, .int 1)], [], M1)) rfl rfl rfl (fun c_119 => ?_) (fun c_119 => ?_)
                · exact absurd (of_decide_eq_true c_119) (show ¬ ((nI s42) < 0) from fun h9 => absurd ((lt_nI (p := s42) (n := 0) (by omega) (by decide)).mp h9) (by omega))
                refine ps_st (S' := (124, [(9, .int 0), (0, .ref m0), (1, .int (nI p)), (2, .int (nI (by2 f pM))), (3, .int (nI f0)), (4, .int (nI ib)), (5, .int (nI k)), (6, .int (nI (by2 f p))), (7, .int (nI s42)), (8, .int 1)], [.int 0], M1)) rfl rfl rfl ?_
                refine ps_if (S1 := (157, [(0, .ref m0), (1, .int (nI p)), (2, .int (nI (by2 f pM))), (3, .int (nI f0)), (4, .int (nI ib)), (5, .int (nI k)), (6, .int (nI (by2 f p))), (7, .int (nI s42)), (8, .int 1), (9, .int 0)], [], M1)) (S2 := (127, [(9, .int 0), (0, .ref m0), (1, .int (nI p)), (2, .int (nI (by2 f pM))), (3, .int (nI f0)), (4, .int (nI ib)), (5, .int (nI k)), (6, .int (nI (by2 f p))), (7, .int (nI s42)), (8, .int 1)], [], M1)) rfl rfl rfl (fun c_124 => ?_) (fun c_124 => ?_)
                · exact absurd (of_decide_eq_true c_124) (by decide)
                refine ps_st (S' := (129, [(9, .int 0), (0, .ref m0), (1, .int (nI p)), (2, .int (nI (by2 f pM))), (3, .int (nI f0)), (4, .int (nI ib)), (5, .int (nI k)), (6, .int (nI (by2 f p))), (7, .int (nI s42)), (8, .int 1)], [.int 1], M1)) rfl rfl rfl ?_
                refine ps_if (S1 := (137, [(0, .ref m0), (1, .int (nI p)), (2, .int (nI (by2 f pM))), (3, .int (nI f0)), (4, .int (nI ib)), (5, .int (nI k)), (6, .int (nI (by2 f p))), (7, .int (nI s42)), (8, .int 1), (9, .int 0)], [], M1)) (S2 := (132, [(9, .int 0), (0, .ref m0), (1, .int (nI p)), (2, .int (nI (by2 f pM))), (3, .int (nI f0)), (4, .int (nI ib)), (5, .int (nI k)), (6, .int (nI (by2 f p))), (7, .int (nI s42)), (8, .int 1)], [], M1)) rfl rfl rfl (fun c_129 => ?_) (fun c_129 => ?_)
                · exact absurd (of_decide_eq_true c_129) (by decide)
                refine ps_st (S' := (134, [(9, .int 0), (0, .ref m0), (1, .int (nI p)), (2, .int (nI (by2 f pM))), (3, .int (nI f0)), (4, .int (nI ib)), (5, .int (nI k)), (6, .int (nI (by2 f p))), (7, .int (nI s42)), (8, .int 1)], [.int (nI ib)], M1)) rfl rfl rfl ?_
                refine ps_if (S1 := (157, [(0, .ref m0), (1, .int (nI p)), (2, .int (nI (by2 f pM))), (3, .int (nI f0)), (4, .int (nI ib)), (5, .int (nI k)), (6, .int (nI (by2 f p))), (7, .int (nI s42)), (8, .int 1), (9, .int 0)], [], M1)) (S2 := (137, [(0, .ref m0), (1, .int (nI p)), (2, .int (nI (by2 f pM))), (3, .int (nI f0)), (4, .int (nI ib)), (5, .int (nI k)), (6, .int (nI (by2 f p))), (7, .int (nI s42)), (8, .int 1), (9, .int 0)], [], M1)) rfl rfl rfl (fun c_134 => ?_) (fun c_134 => ?_)
                · have c_134 : (nI ib) = 0 := of_decide_eq_true c_134
                  have n_134 : ib = 0 := (eq_nI (p := ib) (n := 0) (by omega) (by decide)).mp c_134
                  refine ps_st (S' := (159, [(0, .ref m0), (1, .int (nI p)), (2, .int (nI (by2 f pM))), (3, .int (nI f0)), (4, .int (nI ib)), (5, .int (nI k)), (6, .int (nI (by2 f p))), (7, .int (nI s42)), (8, .int 1), (9, .int 0)], [.int 0], M1)) rfl rfl rfl ?_
                  refine ps_if (S1 := (183, [(0, .ref m0), (1, .int (nI p)), (2, .int (nI (by2 f pM))), (3, .int (nI f0)), (4, .int (nI ib)), (5, .int (nI k)), (6, .int (nI (by2 f p))), (7, .int (nI s42)), (8, .int 1), (9, .int 0)], [], M1)) (S2 := (162, [(0, .ref m0), (1, .int (nI p)), (2, .int (nI (by2 f pM))), (3, .int (nI f0)), (4, .int (nI ib)), (5, .int (nI k)), (6, .int (nI (by2 f p))), (7, .int (nI s42)), (8, .int 1), (9, .int 0)], [], M1)) rfl rfl rfl (fun c_159 => ?_) (fun c_159 => ?_)
                  · exact absurd (of_decide_eq_true c_159) (by decide)
                  refine ps_st (S' := (163, [(0, .ref m0), (1, .int (nI p)), (2, .int (nI (by2 f pM))), (3, .int (nI f0)), (4, .int (nI ib)), (5, .int (nI k)), (6, .int (nI (by2 f p))), (7, .int (nI s42)), (8, .int 1), (9, .int 0)], [.ref m0], M1)) rfl rfl rfl ?_
                  refine ps_st (S' := (165, [(0, .ref m0), (1, .int (nI p)), (2, .int (nI (by2 f pM))), (3, .int (nI f0)), (4, .int (nI ib)), (5, .int (nI k)), (6, .int (nI (by2 f p))), (7, .int (nI s42)), (8, .int 1), (9, .int 0)], [.int (nI (by2 f p)), .ref m0], M1)) rfl rfl rfl ?_
                  refine ps_st (S' := (167, [(0, .ref m0), (1, .int (nI p)), (2, .int (nI (by2 f pM))), (3, .int (nI f0)), (4, .int (nI ib)), (5, .int (nI k)), (6, .int (nI (by2 f p))), (7, .int (nI s42)), (8, .int 1), (9, .int 0)], [.int 1, .int (nI (by2 f p)), .ref m0], M1)) rfl rfl rfl ?_
                  refine ps_st (S' := (169, [(0, .ref m0), (1, .int (nI p)), (2, .int (nI (by2 f pM))), (3, .int (nI f0)), (4, .int (nI ib)), (5, .int (nI k)), (6, .int (nI (by2 f p))), (7, .int (nI s42)), (8, .int 1), (9, .int 0)], [.int (nI ib), .int 1, .int (nI (by2 f p)), .ref m0], M1)) rfl rfl rfl ?_
                  refine pl_call (a := [.ref m0, .int (nI (by2 f p)), .int 1, .int (nI ib)]) (rest := []) rfl rfl rfl (rd_fitX (mj := mj) (x := (by2 f p)) (c := cf) (i := 1) (ib := ib) hR1 hl53 (hmj) (hu8) (by decide) (hib)) (fun v100 M101 q102 => ?_)
                  obtain ⟨rfl, rfl⟩ := q102
                  show pl _ _ _ (172, [(0, .ref m0), (1, .int (nI p)), (2, .int (nI (by2 f pM))), (3, .int (nI f0)), (4, .int (nI ib)), (5, .int (nI k)), (6, .int (nI (by2 f p))), (7, .int (nI s42)), (8, .int 1), (9, .int 0)], [.int (nI (fitN mj cf (by2 f p) 1))], M1) _
                  have hft := le1_fit mj cf (by2 f p) 1
                  refine ps_if (S1 := (183, [(0, .ref m0), (1, .int (nI p)), (2, .int (nI (by2 f pM))), (3, .int (nI f0)), (4, .int (nI ib)), (5, .int (nI k)), (6, .int (nI (by2 f p))), (7, .int (nI s42)), (8, .int 1), (9, .int 0)], [], M1)) (S2 := (175, [(0, .ref m0), (1, .int (nI p)), (2, .int (nI (by2 f pM))), (3, .int (nI f0)), (4, .int (nI ib)), (5, .int (nI k)), (6, .int (nI (by2 f p))), (7, .int (nI s42)), (8, .int 1), (9, .int 0)], [], M1)) rfl rfl rfl (fun c_172 => ?_) (fun c_172 => ?_)
                  · have c_172 : ¬ (nI (fitN mj cf (by2 f p) 1)) = 0 := of_decide_eq_true c_172
                    have n_172 : ¬ (fitN mj cf (by2 f p) 1 = 0) := fun h9 => c_172 ((eq_nI (p := fitN mj cf (by2 f p) 1) (n := 0) (Nat.lt_trans (le1_fit _ _ _ _) (by decide)) (by decide)).mpr h9)
                    have hnm : ¬ mnmN f n E cf (by2 f (p + 2)) = 0 := by
                      have m0_ := mnm_0 (f := f) (n := n) (E := E) (c := cf) (x := by2 f (p + 2))
                      have u0_ := uq0 (l := tX f n E (by2 f (p + 2)))
                      omega
                    have hfl : ¬ mflN f n E cf mj (by2 f p) (by2 f (p + 2)) = 0 := by
                      rw [mfl_i (by omega) (by omega)]
                      omega
                    exact ih.2.1 (k) (p) (ib) (s42) (0) (1) M1 I1 R1 hR1 hEI1 hER1 hl51 hl52 hl53 hl58 hl56 hl26 hl9 hl10 hF1 hY1 hP1 hK1 hN91 (by omega) (hpk) (hpe) (hs) (hib) (q76_s) (by omega) (hnm) (hfl) (by omega) (by omega)
                  · have c_172 : ¬ (¬ (nI (fitN mj cf (by2 f p) 1)) = 0) := of_decide_eq_false c_172
                    have n_172 : fitN mj cf (by2 f p) 1 = 0 := (eq_nI (p := fitN mj cf (by2 f p) 1) (n := 0) (Nat.lt_trans (le1_fit _ _ _ _) (by decide)) (by decide)).mp (Decidable.not_not.mp c_172)
                    refine ps_st (S' := (176, [(0, .ref m0), (1, .int (nI p)), (2, .int (nI (by2 f pM))), (3, .int (nI f0)), (4, .int (nI ib)), (5, .int (nI k)), (6, .int (nI (by2 f p))), (7, .int (nI s42)), (8, .int 1), (9, .int 0)], [.ref m0], M1)) rfl rfl rfl ?_
                    refine ps_st (S' := (178, [(0, .ref m0), (1, .int (nI p)), (2, .int (nI (by2 f pM))), (3, .int (nI f0)), (4, .int (nI ib)), (5, .int (nI k)), (6, .int (nI (by2 f p))), (7, .int (nI s42)), (8, .int 1), (9, .int 0)], [.int 23, .ref m0], M1)) rfl rfl rfl ?_
                    refine ps_st (S' := (179, [(0, .ref m0), (1, .int (nI p)), (2, .int (nI (by2 f pM))), (3, .int (nI f0)), (4, .int (nI ib)), (5, .int (nI k)), (6, .int (nI (by2 f p))), (7, .int (nI s42)), (8, .int 1), (9, .int 0)], [.int (nI p), .int 23, .ref m0], M1)) rfl rfl rfl ?_
                    refine pl_call (a := [.ref m0, .int 23, .int (nI p)]) (rest := []) rfl rfl rfl (rd_wrong (x1 := 23) (x2 := (nI p)) hR1) (fun v103 M104 q105 => ?_)
                    obtain ⟨I106, R107, rfl, hR108, hI109, hX110, hi111, hi112⟩ := q105
                    have hi113 := (hI109 51 (by decide)).trans hl51
                    have hi114 := (hI109 52 (by decide)).trans hl52
                    have hi115 := (hI109 53 (by decide)).trans hl53
                    have hi116 := (hI109 58 (by decide)).trans hl58
                    have hi117 := (hI109 56 (by decide)).trans hl56
                    have hi118 := (hI109 26 (by decide)).trans hl26
                    have hi119 := (hI109 9 (by decide)).trans hl9
                    have hi120 := (hI109 10 (by decide)).trans hl10
                    have hF_121 := hF1.mono (cIx hI109 (by decide)) (cRx hX110 (by decide))
                    have hY_122 := hY1.mono (cIx hI109 (by decide)) (cRx hX110 (by decide))
                    have hP_123 := hP1.mono (cIx hI109 (by decide)) (cRx hX110 (by decide))
                    have hK_124 := hK1.mono (cIx hI109 (by decide)) (cRx hX110 (by decide))
                    have hN9_125 := hN91.mono (cIx hI109 (by decide)) (cRx hX110 (by decide))
                    have hEI126 := hEI1.tr hI109 (by decide)
                    have hER127 := hER1.tr hX110 (by decide)
                    show pl _ _ _ (182, [(0, .ref m0), (1, .int (nI p)), (2, .int (nI (by2 f pM))), (3, .int (nI f0)), (4, .int (nI ib)), (5, .int (nI k)), (6, .int (nI (by2 f p))), (7, .int (nI s42)), (8, .int 1), (9, .int 0)], [.int 0], M104) _
                    exact ps_ret rfl rfl (Or.inr ⟨(23, p), I106, R107, by
                        have m0_ := mnm_0 (f := f) (n := n) (E := E) (c := cf) (x := by2 f (p + 2))
                        have u0_ := uq0 (l := tX f n E (by2 f (p + 2)))
                        rw [← hs, mtS_st (i := k) (by omega), ← hpk, mh_23 (by omega) (by rw [mfl_i (by omega) (by omega)]; omega)], rfl, hR108, hEI126, hER127, hi111, hi112⟩)
                · have c_134 : ¬ ((nI ib) = 0) := of_decide_eq_false c_134
                  have n_134 : ¬ (ib = 0) := fun h9 => c_134 ((eq_nI (p := ib) (n := 0) (by omega) (by decide)).mpr h9)
                  refine ps_st (S' := (138, [(0, .ref m0), (1, .int (nI p)), (2, .int (nI (by2 f pM))), (3, .int (nI f0)), (4, .int (nI ib)), (5, .int (nI k)), (6, .int (nI (by2 f p))), (7, .int (nI s42)), (8, .int 1), (9, .int 0)], [.ref m0], M1)) rfl rfl rfl ?_
                  refine ps_st (S' := (140, [(0, .ref m0), (1, .int (nI p)), (2, .int (nI (by2 f pM))), (3, .int (nI f0)), (4, .int (nI ib)), (5, .int (nI k)), (6, .int (nI (by2 f p))), (7, .int (nI s42)), (8, .int 1), (9, .int 0)], [.int (nI s42), .ref m0], M1)) rfl rfl rfl ?_
                  refine ps_st (S' := (141, [(0, .ref m0), (1, .int (nI p)), (2, .int (nI (by2 f pM))), (3, .int (nI f0)), (4, .int (nI ib)), (5, .int (nI k)), (6, .int (nI (by2 f p))), (7, .int (nI s42)), (8, .int 1), (9, .int 0)], [.int 0, .int (nI s42), .ref m0], M1)) rfl rfl rfl ?_
                  refine pl_call (a := [.ref m0, .int (nI s42), .int 0]) (rest := []) rfl rfl rfl (rd_unq0 (tx := tx) (cN := cN) (A := A) (s := s42) (l := (tX f n E (by2 f (p + 2)))) hR1 hY1 (q76_s)) (fun v128 M129 q130 => ?_)
                  obtain ⟨rfl, rfl⟩ := q130
                  show pl _ _ _ (144, [(0, .ref m0), (1, .int (nI p)), (2, .int (nI (by2 f pM))), (3, .int (nI f0)), (4, .int (nI ib)), (5, .int (nI k)), (6, .int (nI (by2 f p))), (7, .int (nI s42)), (8, .int 1), (9, .int 0)], [.int (nI (unq0 (tX f n E (by2 f (p + 2)))))], M1) _
                  refine ps_if (S1 := (157, [(0, .ref m0), (1, .int (nI p)), (2, .int (nI (by2 f pM))), (3, .int (nI f0)), (4, .int (nI ib)), (5, .int (nI k)), (6, .int (nI (by2 f p))), (7, .int (nI s42)), (8, .int 1), (9, .int 0)], [], M1)) (S2 := (147, [(0, .ref m0), (1, .int (nI p))], [], M1)) rfl rfl rfl (fun c_144 => ?_) (fun c_144 => ?_)
                  · have c_144 : ¬ (nI (unq0 (tX f n E (by2 f (p + 2))))) = 0 := of_decide_eq_true c_144
                    have n_144 : ¬ (unq0 (tX f n E (by2 f (p + 2))) = 0) := fun h9 => c_144 ((eq_nI (p := unq0 (tX f n E (by2 f (p + 2)))) (n := 0) (Nat.lt_trans (le1_unq0 _) (by decide)) (by decide)).mpr h9)
                    refine ps_st (S' := (159, [(0, .ref m0), (1, .int (nI p)), (2, .int (nI (by2 f pM))), (3, .int (nI f0)), (4, .int (nI ib)), (5, .int (nI k)), (6, .int (nI (by2 f p))), (7, .int (nI s42)), (8, .int 1), (9, .int 0)], [.int 0], M1)) rfl rfl rfl ?_
                    refine ps_if (S1 := (183, [(0, .ref m0), (1, .int (nI p)), (2, .int (nI (by2 f pM))), (3, .int (nI f0)), (4, .int (nI ib)), (5, .int (nI k)), (6, .int (nI (by2 f p))), (7, .int (nI s42)), (8, .int 1), (9, .int 0)], [], M1)) (S2 := (162, [(0, .ref m0), (1, .int (nI p)), (2, .int (nI (by2 f pM))), (3, .int (nI f0)), (4, .int (nI ib)), (5, .int (nI k)), (6, .int (nI (by2 f p))), (7, .int (nI s42)), (8, .int 1), (9, .int 0)], [], M1)) rfl rfl rfl (fun c_159 => ?_) (fun c_159 => ?_)
                    · exact absurd (of_decide_eq_true c_159) (by decide)
                    refine ps_st (S' := (163, [(0, .ref m0), (1, .int (nI p)), (2, .int (nI (by2 f pM))), (3, .int (nI f0)), (4, .int (nI ib)), (5, .int (nI k)), (6, .int (nI (by2 f p))), (7, .int (nI s42)), (8, .int 1), (9, .int 0)], [.ref m0], M1)) rfl rfl rfl ?_
                    refine ps_st (S' := (165, [(0, .ref m0), (1, .int (nI p)), (2, .int (nI (by2 f pM))), (3, .int (nI f0)), (4, .int (nI ib)), (5, .int (nI k)), (6, .int (nI (by2 f p))), (7, .int (nI s42)), (8, .int 1), (9, .int 0)], [.int (nI (by2 f p)), .ref m0], M1)) rfl rfl rfl ?_
                    refine ps_st (S' := (167, [(0, .ref m0), (1, .int (nI p)), (2, .int (nI (by2 f pM))), (3, .int (nI f0)), (4, .int (nI ib)), (5, .int (nI k)), (6, .int (nI (by2 f p))), (7, .int (nI s42)), (8, .int 1), (9, .int 0)], [.int 1, .int (nI (by2 f p)), .ref m0], M1)) rfl rfl rfl ?_
                    refine ps_st (S' := (169, [(0, .ref m0), (1, .int (nI p)), (2, .int (nI (by2 f pM))), (3, .int (nI f0)), (4, .int (nI ib)), (5, .int (nI k)), (6, .int (nI (by2 f p))), (7, .int (nI s42)), (8, .int 1), (9, .int 0)], [.int (nI ib), .int 1, .int (nI (by2 f p)), .ref m0], M1)) rfl rfl rfl ?_
                    refine pl_call (a := [.ref m0, .int (nI (by2 f p)), .int 1, .int (nI ib)]) (rest := []) rfl rfl rfl (rd_fitX (mj := mj) (x := (by2 f p)) (c := cf) (i := 1) (ib := ib) hR1 hl53 (hmj) (hu8) (by decide) (hib)) (fun v131 M132 q133 => ?_)
                    obtain ⟨rfl, rfl⟩ := q133
                    show pl _ _ _ (172, [(0, .ref m0), (1, .int (nI p)), (2, .int (nI (by2 f pM))), (3, .int (nI f0)), (4, .int (nI ib)), (5, .int (nI k)), (6, .int (nI (by2 f p))), (7, .int (nI s42)), (8, .int 1), (9, .int 0)], [.int (nI (fitN mj cf (by2 f p) 1))], M1) _
                    have hft := le1_fit mj cf (by2 f p) 1
                    refine ps_if (S1 := (183, [(0, .ref m0), (1, .int (nI p)), (2, .int (nI (by2 f pM))), (3, .int (nI f0)), (4, .int (nI ib)), (5, .int (nI k)), (6, .int (nI (by2 f p))), (7, .int (nI s42)), (8, .int 1), (9, .int 0)], [], M1)) (S2 := (175, [(0, .ref m0), (1, .int (nI p)), (2, .int (nI (by2 f pM))), (3, .int (nI f0)), (4, .int (nI ib)), (5, .int (nI k)), (6, .int (nI (by2 f p))), (7, .int (nI s42)), (8, .int 1), (9, .int 0)], [], M1)) rfl rfl rfl (fun c_172 => ?_) (fun c_172 => ?_)
                    · have c_172 : ¬ (nI (fitN mj cf (by2 f p) 1)) = 0 := of_decide_eq_true c_172
                      have n_172 : ¬ (fitN mj cf (by2 f p) 1 = 0) := fun h9 => c_172 ((eq_nI (p := fitN mj cf (by2 f p) 1) (n := 0) (Nat.lt_trans (le1_fit _ _ _ _) (by decide)) (by decide)).mpr h9)
                      have hnm : ¬ mnmN f n E cf (by2 f (p + 2)) = 0 := by
                        have m0_ := mnm_0 (f := f) (n := n) (E := E) (c := cf) (x := by2 f (p + 2))
                        have u0_ := uq0 (l := tX f n E (by2 f (p + 2)))
                        omega
                      have hfl : ¬ mflN f n E cf mj (by2 f p) (by2 f (p + 2)) = 0 := by
                        rw [mfl_i (by omega) (by omega)]
                        omega
                      exact ih.2.1 (k) (p) (ib) (s42) (0) (1) M1 I1 R1 hR1 hEI1 hER1 hl51 hl52 hl53 hl58 hl56 hl26 hl9 hl10 hF1 hY1 hP1 hK1 hN91 (by omega) (hpk) (hpe) (hs) (hib) (q76_s) (by omega) (hnm) (hfl) (by omega) (by omega)
                    · have c_172 : ¬ (¬ (nI (fitN mj cf (by2 f p) 1)) = 0) := of_decide_eq_false c_172
                      have n_172 : fitN mj cf (by2 f p) 1 = 0 := (eq_nI (p := fitN mj cf (by2 f p) 1) (n := 0) (Nat.lt_trans (le1_fit _ _ _ _) (by decide)) (by decide)).mp (Decidable.not_not.mp c_172)
                      refine ps_st (S' := (176, [(0, .ref m0), (1, .int (nI p)), (2, .int (nI (by2 f pM))), (3, .int (nI f0)), (4, .int (nI ib)), (5, .int (nI k)), (6, .int (nI (by2 f p))), (7, .int (nI s42)), (8, .int 1), (9, .int 0)], [.ref m0], M1)) rfl rfl rfl ?_
                      refine ps_st (S' := (178, [(0, .ref m0), (1, .int (nI p)), (2, .int (nI (by2 f pM))), (3, .int (nI f0)), (4, .int (nI ib)), (5, .int (nI k)), (6, .int (nI (by2 f p))), (7, .int (nI s42)), (8, .int 1), (9, .int 0)], [.int 23, .ref m0], M1)) rfl rfl rfl ?_
                      refine ps_st (S' := (179, [(0, .ref m0), (1, .int (nI p)), (2, .int (nI (by2 f pM))), (3, .int (nI f0)), (4, .int (nI ib)), (5, .int (nI k)), (6, .int (nI (by2 f p))), (7, .int (nI s42)), (8, .int 1), (9, .int 0)], [.int (nI p), .int 23, .ref m0], M1)) rfl rfl rfl ?_
                      refine pl_call (a := [.ref m0, .int 23, .int (nI p)]) (rest := []) rfl rfl rfl (rd_wrong (x1 := 23) (x2 := (nI p)) hR1) (fun v134 M135 q136 => ?_)
                      obtain ⟨I137, R138, rfl, hR139, hI140, hX141, hi142, hi143⟩ := q136
                      have hi144 := (hI140 51 (by decide)).trans hl51
                      have hi145 := (hI140 52 (by decide)).trans hl52
                      have hi146 := (hI140 53 (by decide)).trans hl53
                      have hi147 := (hI140 58 (by decide)).trans hl58
                      have hi148 := (hI140 56 (by decide)).trans hl56
                      have hi149 := (hI140 26 (by decide)).trans hl26
                      have hi150 := (hI140 9 (by decide)).trans hl9
                      have hi151 := (hI140 10 (by decide)).trans hl10
                      have hF_152 := hF1.mono (cIx hI140 (by decide)) (cRx hX141 (by decide))
                      have hY_153 := hY1.mono (cIx hI140 (by decide)) (cRx hX141 (by decide))
                      have hP_154 := hP1.mono (cIx hI140 (by decide)) (cRx hX141 (by decide))
                      have hK_155 := hK1.mono (cIx hI140 (by decide)) (cRx hX141 (by decide))
                      have hN9_156 := hN91.mono (cIx hI140 (by decide)) (cRx hX141 (by decide))
                      have hEI157 := hEI1.tr hI140 (by decide)
                      have hER158 := hER1.tr hX141 (by decide)
                      show pl _ _ _ (182, [(0, .ref m0), (1, .int (nI p)), (2, .int (nI (by2 f pM))), (3, .int (nI f0)), (4, .int (nI ib)), (5, .int (nI k)), (6, .int (nI (by2 f p))), (7, .int (nI s42)), (8, .int 1), (9, .int 0)], [.int 0], M135) _
                      exact ps_ret rfl rfl (Or.inr ⟨(23, p), I137, R138, by
                          have m0_ := mnm_0 (f := f) (n := n) (E := E) (c := cf) (x := by2 f (p + 2))
                          have u0_ := uq0 (l := tX f n E (by2 f (p + 2)))
                          rw [← hs, mtS_st (i := k) (by omega), ← hpk, mh_23 (by omega) (by rw [mfl_i (by omega) (by omega)]; omega)], rfl, hR139, hEI157, hER158, hi142, hi143⟩)
                  · have c_144 : ¬ (¬ (nI (unq0 (tX f n E (by2 f (p + 2))))) = 0) := of_decide_eq_false c_144
                    have n_144 : unq0 (tX f n E (by2 f (p + 2))) = 0 := (eq_nI (p := unq0 (tX f n E (by2 f (p + 2)))) (n := 0) (Nat.lt_trans (le1_unq0 _) (by decide)) (by decide)).mp (Decidable.not_not.mp c_144)
                    refine ps_st (S' := (148, [(0, .ref m0), (1, .int (nI p))], [.ref m0], M1)) rfl rfl rfl ?_
                    refine ps_st (S' := (150, [(0, .ref m0), (1, .int (nI p))], [.int 24, .ref m0], M1)) rfl rfl rfl ?_
                    refine ps_st (S' := (151, [(0, .ref m0), (1, .int (nI p))], [.int (nI p), .int 24, .ref m0], M1)) rfl rfl rfl ?_
                    refine ps_st (S' := (152, [(0, .ref m0), (1, .int (nI p))], [.int 2, .int (nI p), .int 24, .ref m0], M1)) rfl rfl rfl ?_
                    refine ps_st (S' := (153, [(0, .ref m0), (1, .int (nI p))], [.int ((nI p) + 2), .int 24, .ref m0], M1)) rfl rfl rfl ?_
                    rw [nI_add1 (p := p) (k := 2) (x := 2) rfl (by omega)]
                    show pl _ _ _ (_, [(0, .ref m0), (1, .int (nI p))], [.int (nI (p + 2)), .int 24, .ref m0], M1) _
                    refine pl_call (a := [.ref m0, .int 24, .int (nI (p + 2))]) (rest := []) rfl rfl rfl (rd_wrong (x1 := 24) (x2 := (nI (p + 2))) hR1) (fun v159 M160 q161 => ?_)
                    obtain ⟨I162, R163, rfl, hR164, hI165, hX166, hi167, hi168⟩ := q161
                    have hi169 := (hI165 51 (by decide)).trans hl51
                    have hi170 := (hI165 52 (by decide)).trans hl52
                    have hi171 := (hI165 53 (by decide)).trans hl53
                    have hi172 := (hI165 58 (by decide)).trans hl58
                    have hi173 := (hI165 56 (by decide)).trans hl56
                    have hi174 := (hI165 26 (by decide)).trans hl26
                    have hi175 := (hI165 9 (by decide)).trans hl9
                    have hi176 := (hI165 10 (by decide)).trans hl10
                    have hF_177 := hF1.mono (cIx hI165 (by decide)) (cRx hX166 (by decide))
                    have hY_178 := hY1.mono (cIx hI165 (by decide)) (cRx hX166 (by decide))
                    have hP_179 := hP1.mono (cIx hI165 (by decide)) (cRx hX166 (by decide))
                    have hK_180 := hK1.mono (cIx hI165 (by decide)) (cRx hX166 (by decide))
                    have hN9_181 := hN91.mono (cIx hI165 (by decide)) (cRx hX166 (by decide))
                    have hEI182 := hEI1.tr hI165 (by decide)
                    have hER183 := hER1.tr hX166 (by decide)
                    show pl _ _ _ (156, [(0, .ref m0), (1, .int (nI p))], [.int 0], M160) _
                    exact ps_ret rfl rfl (Or.inr ⟨(24, p + 2), I162, R163, by
                        rw [← hs, mtS_st (i := k) (by omega), ← hpk, mh_24 (by have m0_ := mnm_0 (f := f) (n := n) (E := E) (c := cf) (x := by2 f (p + 2)); have u0_ := uq0 (l := tX f n E (by2 f (p + 2))); omega)], rfl, hR164, hEI182, hER183, hi167, hi168⟩)
              · have c_107 : ¬ (¬ (nI s42) = (nI sc)) := of_decide_eq_false c_107
                have n_107 : s42 = sc := (eq_nI (p := s42) (n := sc) (by omega) (by omega)).mp (Decidable.not_not.mp c_107)
                refine ps_st (S' := (111, [(8, .int 1), (0, .ref m0), (1, .int (nI p)), (2, .int (nI (by2 f pM))), (3, .int (nI f0)), (4, .int (nI ib)), (5, .int (nI k)), (6, .int (nI (by2 f p))), (7, .int (nI s42))], [.int 1], M1)) rfl rfl rfl ?_
                refine ps_st (S' := (115, [(0, .ref m0), (1, .int (nI p)), (2, .int (nI (by2 f pM))), (3, .int (nI f0)), (4, .int (nI ib)), (5, .int (nI k)), (6, .int (nI (by2 f p))), (7, .int (nI s42)), (8, .int 1)], [.int 1], M1)) rfl rfl rfl ?_
                refine ps_st (S' := (117, [(9, .int 1), (0, .ref m0), (1, .int (nI p)), (2, .int (nI (by2 f pM))), (3, .int (nI f0)), (4, .int (nI ib)), (5, .int (nI k)), (6, .int (nI (by2 f p))), (7, .int (nI s42)), (8, .int 1)], [], M1)) rfl rfl rfl ?_
                refine ps_st (S' := (119, [(9, .int 1), (0, .ref m0), (1, .int (nI p)), (2, .int (nI (by2 f pM))), (3, .int (nI f0)), (4, .int (nI ib)), (5, .int (nI k)), (6, .int (nI (by2 f p))), (7, .int (nI s42)), (8, .int 1)], [.int (nI s42)], M1)) rfl rfl rfl ?_
                refine ps_if (S1 := (147, [(0, .ref m0), (1, .int (nI p))], [], M1)) (S2 := (122, [(9, .int 1), (0, .ref m0), (1, .int (nI p)), (2, .int (nI (by2 f pM))), (3, .int (nI f0)), (4, .int (nI ib)), (5, .int (nI k)), (6, .int (nI (by2 f p))), (7, .int (nI s42)), (8, .int 1)], [], M1)) rfl rfl rfl (fun c_119 => ?_) (fun c_119 => ?_)
                · exact absurd (of_decide_eq_true c_119) (show ¬ ((nI s42) < 0) from fun h9 => absurd ((lt_nI (p := s42) (n := 0) (by omega) (by decide)).mp h9) (by omega))
                refine ps_st (S' := (124, [(9, .int 1), (0, .ref m0), (1, .int (nI p)), (2, .int (nI (by2 f pM))), (3, .int (nI f0)), (4, .int (nI ib)), (5, .int (nI k)), (6, .int (nI (by2 f p))), (7, .int (nI s42)), (8, .int 1)], [.int 1], M1)) rfl rfl rfl ?_
                refine ps_if (S1 := (157, [(0, .ref m0), (1, .int (nI p)), (2, .int (nI (by2 f pM))), (3, .int (nI f0)), (4, .int (nI ib)), (5, .int (nI k)), (6, .int (nI (by2 f p))), (7, .int (nI s42)), (8, .int 1), (9, .int 1)], [], M1)) (S2 := (127, [(9, .int 1), (0, .ref m0), (1, .int (nI p)), (2, .int (nI (by2 f pM))), (3, .int (nI f0)), (4, .int (nI ib)), (5, .int (nI k)), (6, .int (nI (by2 f p))), (7, .int (nI s42)), (8, .int 1)], [], M1)) rfl rfl rfl (fun c_124 => ?_) (fun c_124 => ?_)
                rotate_left
                · exact absurd (by decide) (of_decide_eq_false c_124)
                refine ps_st (S' := (159, [(0, .ref m0), (1, .int (nI p)), (2, .int (nI (by2 f pM))), (3, .int (nI f0)), (4, .int (nI ib)), (5, .int (nI k)), (6, .int (nI (by2 f p))), (7, .int (nI s42)), (8, .int 1), (9, .int 1)], [.int 1], M1)) rfl rfl rfl ?_
                refine ps_if (S1 := (183, [(0, .ref m0), (1, .int (nI p)), (2, .int (nI (by2 f pM))), (3, .int (nI f0)), (4, .int (nI ib)), (5, .int (nI k)), (6, .int (nI (by2 f p))), (7, .int (nI s42)), (8, .int 1), (9, .int 1)], [], M1)) (S2 := (162, [(0, .ref m0), (1, .int (nI p)), (2, .int (nI (by2 f pM))), (3, .int (nI f0)), (4, .int (nI ib)), (5, .int (nI k)), (6, .int (nI (by2 f p))), (7, .int (nI s42)), (8, .int 1), (9, .int 1)], [], M1)) rfl rfl rfl (fun c_159 => ?_) (fun c_159 => ?_)
                rotate_left
                · exact absurd (by decide) (of_decide_eq_false c_159)
                exfalso; omega
      · skip
        intro k p ib a i9 i8 M1 I1 R1 hR1 hEI1 hER1 hl51 hl52 hl53 hl58 hl56 hl26 hl9 hl10 hF1 hY1 hP1 hK1 hN91 hk0 hpk hpe hs hib hsa ht1 hnm hfl h9c h8c
        have hn := hF1.1
        have hu9 := by2_lt f pM
        have htl := hY1.1.2.2.1
        have hBl := hMB.1
        have hi7 := hsi.1
        have hc7 := hsc.1
        have hu8 := by2_lt f p
        have hsa1 := hsa.1
        refine ps_st1 (S' := (184, [(0, .ref m0), (1, .int (nI p)), (2, .int (nI (by2 f pM))), (3, .int (nI f0)), (4, .int (nI ib)), (5, .int (nI k)), (6, .int (nI (by2 f p))), (7, .int (nI a)), (8, .int (nI i8)), (9, .int (nI i9))], [.ref m0], M1)) rfl rfl rfl ?_
        refine ps_st (S' := (185, [(0, .ref m0), (1, .int (nI p)), (2, .int (nI (by2 f pM))), (3, .int (nI f0)), (4, .int (nI ib)), (5, .int (nI k)), (6, .int (nI (by2 f p))), (7, .int (nI a)), (8, .int (nI i8)), (9, .int (nI i9))], [.ref m0, .ref m0], M1)) rfl rfl rfl ?_
        refine ps_st (S' := (186, [(0, .ref m0), (1, .int (nI p)), (2, .int (nI (by2 f pM))), (3, .int (nI f0)), (4, .int (nI ib)), (5, .int (nI k)), (6, .int (nI (by2 f p))), (7, .int (nI a)), (8, .int (nI i8)), (9, .int (nI i9))], [.int (nI p), .ref m0, .ref m0], M1)) rfl rfl rfl ?_
        refine ps_st (S' := (187, [(0, .ref m0), (1, .int (nI p)), (2, .int (nI (by2 f pM))), (3, .int (nI f0)), (4, .int (nI ib)), (5, .int (nI k)), (6, .int (nI (by2 f p))), (7, .int (nI a)), (8, .int (nI i8)), (9, .int (nI i9))], [.int 4, .int (nI p), .ref m0, .ref m0], M1)) rfl rfl rfl ?_
        refine ps_st (S' := (188, [(0, .ref m0), (1, .int (nI p)), (2, .int (nI (by2 f pM))), (3, .int (nI f0)), (4, .int (nI ib)), (5, .int (nI k)), (6, .int (nI (by2 f p))), (7, .int (nI a)), (8, .int (nI i8)), (9, .int (nI i9))], [.int ((nI p) + 4), .ref m0, .ref m0], M1)) rfl rfl rfl ?_
        rw [nI_add1 (p := p) (k := 4) (x := 4) rfl (by omega)]
        show pl _ _ _ (_, [(0, .ref m0), (1, .int (nI p)), (2, .int (nI (by2 f pM))), (3, .int (nI f0)), (4, .int (nI ib)), (5, .int (nI k)), (6, .int (nI (by2 f p))), (7, .int (nI a)), (8, .int (nI i8)), (9, .int (nI i9))], [.int (nI (p + 4)), .ref m0, .ref m0], M1) _
        refine pl_call (a := [.ref m0, .int (nI (p + 4))]) (rest := [.ref m0]) rfl rfl rfl (rd_u2 (n := n) (f := f) (p := (p + 4)) hR1 hF1 (by omega)) (fun v184 M185 q186 => ?_)
        obtain ⟨rfl, rfl⟩ := q186
        show pl _ _ _ (191, [(0, .ref m0), (1, .int (nI p)), (2, .int (nI (by2 f pM))), (3, .int (nI f0)), (4, .int (nI ib)), (5, .int (nI k)), (6, .int (nI (by2 f p))), (7, .int (nI a)), (8, .int (nI i8)), (9, .int (nI i9))], [.int (nI (by2 f (p + 4))), .ref m0], M1) _
        have hu_188 := by2_lt f (p + 4)
        refine pl_call (a := [.ref m0, .int (nI (by2 f (p + 4)))]) (rest := []) rfl rfl rfl (rd_tag (n := n) (f := f) (tx := tx) (cN := cN) (A := A) (N := N) (mj := mj) (E := E) (k := (by2 f (p + 4))) hR1 hl51 hl52 hl53 hF1 hY1 hP1 (hEP) (hN) (hmj) (by2_lt _ _)) (fun v187 M188 q189 => ?_)
        obtain ⟨rfl, rfl⟩ := q189
        show pl _ _ _ (194, [(0, .ref m0), (1, .int (nI p)), (2, .int (nI (by2 f pM))), (3, .int (nI f0)), (4, .int (nI ib)), (5, .int (nI k)), (6, .int (nI (by2 f p))), (7, .int (nI a)), (8, .int (nI i8)), (9, .int (nI i9))], [.int (nI (tg f E (by2 f (p + 4))))], M1) _
        have htg_191 := tg_lt f E (by2 f (p + 4))
        refine ps_st (S' := (195, [(0, .ref m0), (1, .int (nI p)), (2, .int (nI (by2 f pM))), (3, .int (nI f0)), (4, .int (nI ib)), (5, .int (nI k)), (6, .int (nI (by2 f p))), (7, .int (nI a)), (8, .int (nI i8)), (9, .int (nI i9))], [.int 1, .int (nI (tg f E (by2 f (p + 4))))], M1)) rfl rfl rfl ?_
        refine ps_if2 (S1 := (212, [(0, .ref m0), (1, .int (nI p)), (2, .int (nI (by2 f pM))), (3, .int (nI f0)), (4, .int (nI ib)), (5, .int (nI k)), (6, .int (nI (by2 f p))), (7, .int (nI a)), (8, .int (nI i8)), (9, .int (nI i9))], [], M1)) (S2 := (198, [(0, .ref m0), (1, .int (nI p)), (2, .int (nI (by2 f pM))), (3, .int (nI f0)), (4, .int (nI ib)), (5, .int (nI k)), (6, .int (nI (by2 f p))), (7, .int (nI a)), (8, .int (nI i8)), (9, .int (nI i9))], [], M1)) rfl rfl rfl (fun c_195 => ?_) (fun c_195 => ?_)
        · have c_195 : ¬ (nI (tg f E (by2 f (p + 4)))) = 1 := of_decide_eq_true c_195
          have n_195 : ¬ (tg f E (by2 f (p + 4)) = 1) := fun h9 => c_195 ((eq_nI (p := tg f E (by2 f (p + 4))) (n := 1) (Nat.lt_trans (tg_lt _ _ _) (by decide)) (by decide)).mpr h9)
          refine ps_st (S' := (213, [(0, .ref m0), (1, .int (nI p)), (2, .int (nI (by2 f pM))), (3, .int (nI f0)), (4, .int (nI ib)), (5, .int (nI k)), (6, .int (nI (by2 f p))), (7, .int (nI a)), (8, .int (nI i8)), (9, .int (nI i9))], [.int (-1)], M1)) rfl rfl rfl ?_
          refine ps_st (S' := (215, [(10, .int (-1)), (0, .ref m0), (1, .int (nI p)), (2, .int (nI (by2 f pM))), (3, .int (nI f0)), (4, .int (nI ib)), (5, .int (nI k)), (6, .int (nI (by2 f p))), (7, .int (nI a)), (8, .int (nI i8)), (9, .int (nI i9))], [], M1)) rfl rfl rfl ?_
          refine ps_st (S' := (217, [(10, .int (-1)), (0, .ref m0), (1, .int (nI p)), (2, .int (nI (by2 f pM))), (3, .int (nI f0)), (4, .int (nI ib)), (5, .int (nI k)), (6, .int (nI (by2 f p))), (7, .int (nI a)), (8, .int (nI i8)), (9, .int (nI i9))], [.int (-1)], M1)) rfl rfl rfl ?_
          refine ps_if (S1 := (269, [(0, .ref m0), (1, .int (nI p))], [], M1)) (S2 := (220, [(10, .int (-1)), (0, .ref m0), (1, .int (nI p)), (2, .int (nI (by2 f pM))), (3, .int (nI f0)), (4, .int (nI ib)), (5, .int (nI k)), (6, .int (nI (by2 f p))), (7, .int (nI a)), (8, .int (nI i8)), (9, .int (nI i9))], [], M1)) rfl rfl rfl (fun c_217 => ?_) (fun c_217 => ?_)
          rotate_left
          · exact absurd (by decide) (of_decide_eq_false c_217)
          refine ps_st (S' := (270, [(0, .ref m0), (1, .int (nI p))], [.ref m0], M1)) rfl rfl rfl ?_
          refine ps_st (S' := (272, [(0, .ref m0), (1, .int (nI p))], [.int 25, .ref m0], M1)) rfl rfl rfl ?_
          refine ps_st (S' := (273, [(0, .ref m0), (1, .int (nI p))], [.int (nI p), .int 25, .ref m0], M1)) rfl rfl rfl ?_
          refine ps_st (S' := (274, [(0, .ref m0), (1, .int (nI p))], [.int 4, .int (nI p), .int 25, .ref m0], M1)) rfl rfl rfl ?_
          refine ps_st (S' := (275, [(0, .ref m0), (1, .int (nI p))], [.int ((nI p) + 4), .int 25, .ref m0], M1)) rfl rfl rfl ?_
          rw [nI_add1 (p := p) (k := 4) (x := 4) rfl (by omega)]
          show pl _ _ _ (_, [(0, .ref m0), (1, .int (nI p))], [.int (nI (p + 4)), .int 25, .ref m0], M1) _
          refine pl_call (a := [.ref m0, .int 25, .int (nI (p + 4))]) (rest := []) rfl rfl rfl (rd_wrong (x1 := 25) (x2 := (nI (p + 4))) hR1) (fun v190 M191 q192 => ?_)
          obtain ⟨I193, R194, rfl, hR195, hI196, hX197, hi198, hi199⟩ := q192
          have hi200 := (hI196 51 (by decide)).trans hl51
          have hi201 := (hI196 52 (by decide)).trans hl52
          have hi202 := (hI196 53 (by decide)).trans hl53
          have hi203 := (hI196 58 (by decide)).trans hl58
          have hi204 := (hI196 56 (by decide)).trans hl56
          have hi205 := (hI196 26 (by decide)).trans hl26
          have hi206 := (hI196 9 (by decide)).trans hl9
          have hi207 := (hI196 10 (by decide)).trans hl10
          have hF_208 := hF1.mono (cIx hI196 (by decide)) (cRx hX197 (by decide))
          have hY_209 := hY1.mono (cIx hI196 (by decide)) (cRx hX197 (by decide))
          have hP_210 := hP1.mono (cIx hI196 (by decide)) (cRx hX197 (by decide))
          have hK_211 := hK1.mono (cIx hI196 (by decide)) (cRx hX197 (by decide))
          have hN9_212 := hN91.mono (cIx hI196 (by decide)) (cRx hX197 (by decide))
          have hEI213 := hEI1.tr hI196 (by decide)
          have hER214 := hER1.tr hX197 (by decide)
          show pl _ _ _ (278, [(0, .ref m0), (1, .int (nI p))], [.int 0], M191) _
          exact ps_ret rfl rfl (Or.inr ⟨(25, p + 4), I193, R194, by
              have h25 : mdsN f n E (by2 f (p + 2)) (by2 f (p + 4)) (apN f n E p) = 0 := by
                have m0_ := mds_0 (f := f) (n := n) (E := E) (x := by2 f (p + 2)) (d := by2 f (p + 4)) (w := apN f n E p)
                have a0_ := ap_9 (f := f) (n := n) (E := E) (p := p)
                exact m0_.mpr (Or.inl (by rw [tx_no (by omega)]; decide))
              rw [← hs, mtS_st (i := k) (by omega), ← hpk, mh_25 hnm hfl h25], rfl, hR195, hEI213, hER214, hi198, hi199⟩)
        · have c_195 : ¬ (¬ (nI (tg f E (by2 f (p + 4)))) = 1) := of_decide_eq_false c_195
          have n_195 : tg f E (by2 f (p + 4)) = 1 := (eq_nI (p := tg f E (by2 f (p + 4))) (n := 1) (Nat.lt_trans (tg_lt _ _ _) (by decide)) (by decide)).mp (Decidable.not_not.mp c_195)
          refine ps_st (S' := (199, [(0, .ref m0), (1, .int (nI p)), (2, .int (nI (by2 f pM))), (3, .int (nI f0)), (4, .int (nI ib)), (5, .int (nI k)), (6, .int (nI (by2 f p))), (7, .int (nI a)), (8, .int (nI i8)), (9, .int (nI i9))], [.ref m0], M1)) rfl rfl rfl ?_
          refine ps_st (S' := (200, [(0, .ref m0), (1, .int (nI p)), (2, .int (nI (by2 f pM))), (3, .int (nI f0)), (4, .int (nI ib)), (5, .int (nI k)), (6, .int (nI (by2 f p))), (7, .int (nI a)), (8, .int (nI i8)), (9, .int (nI i9))], [.ref m0, .ref m0], M1)) rfl rfl rfl ?_
          refine ps_st (S' := (201, [(0, .ref m0), (1, .int (nI p)), (2, .int (nI (by2 f pM))), (3, .int (nI f0)), (4, .int (nI ib)), (5, .int (nI k)), (6, .int (nI (by2 f p))), (7, .int (nI a)), (8, .int (nI i8)), (9, .int (nI i9))], [.int (nI p), .ref m0, .ref m0], M1)) rfl rfl rfl ?_
          refine ps_st (S' := (202, [(0, .ref m0), (1, .int (nI p)), (2, .int (nI (by2 f pM))), (3, .int (nI f0)), (4, .int (nI ib)), (5, .int (nI k)), (6, .int (nI (by2 f p))), (7, .int (nI a)), (8, .int (nI i8)), (9, .int (nI i9))], [.int 4, .int (nI p), .ref m0, .ref m0], M1)) rfl rfl rfl ?_
          refine ps_st (S' := (203, [(0, .ref m0), (1, .int (nI p)), (2, .int (nI (by2 f pM))), (3, .int (nI f0)), (4, .int (nI ib)), (5, .int (nI k)), (6, .int (nI (by2 f p))), (7, .int (nI a)), (8, .int (nI i8)), (9, .int (nI i9))], [.int ((nI p) + 4), .ref m0, .ref m0], M1)) rfl rfl rfl ?_
          rw [nI_add1 (p := p) (k := 4) (x := 4) rfl (by omega)]
          show pl _ _ _ (_, [(0, .ref m0), (1, .int (nI p)), (2, .int (nI (by2 f pM))), (3, .int (nI f0)), (4, .int (nI ib)), (5, .int (nI k)), (6, .int (nI (by2 f p))), (7, .int (nI a)), (8, .int (nI i8)), (9, .int (nI i9))], [.int (nI (p + 4)), .ref m0, .ref m0], M1) _
          refine pl_call (a := [.ref m0, .int (nI (p + 4))]) (rest := [.ref m0]) rfl rfl rfl (rd_u2 (n := n) (f := f) (p := (p + 4)) hR1 hF1 (by omega)) (fun v215 M216 q217 => ?_)
          obtain ⟨rfl, rfl⟩ := q217
          show pl _ _ _ (206, [(0, .ref m0), (1, .int (nI p)), (2, .int (nI (by2 f pM))), (3, .int (nI f0)), (4, .int (nI ib)), (5, .int (nI k)), (6, .int (nI (by2 f p))), (7, .int (nI a)), (8, .int (nI i8)), (9, .int (nI i9))], [.int (nI (by2 f (p + 4))), .ref m0], M1) _
          have hu_203 := by2_lt f (p + 4)
          refine pl_call (a := [.ref m0, .int (nI (by2 f (p + 4)))]) (rest := []) rfl rfl rfl (rd_symOf (n := n) (f := f) (tx := tx) (cN := cN) (A := A) (N := N) (mj := mj) (E := E) (k := (by2 f (p + 4))) hR1 hl51 hl52 hl53 hF1 hY1 hP1 (hEP) (hN) (hmj) (by omega)) (fun v218 M219 q220 => ?_)
          obtain ⟨s221, q206_s, rfl, rfl⟩ := q220
          show pl _ _ _ (209, [(0, .ref m0), (1, .int (nI p)), (2, .int (nI (by2 f pM))), (3, .int (nI f0)), (4, .int (nI ib)), (5, .int (nI k)), (6, .int (nI (by2 f p))), (7, .int (nI a)), (8, .int (nI i8)), (9, .int (nI i9))], [.int (nI s221)], M1) _
          have hsl_206 := q206_s.1
          have htl_206 := hY1.1.2.2.1
          refine ps_st (S' := (213, [(0, .ref m0), (1, .int (nI p)), (2, .int (nI (by2 f pM))), (3, .int (nI f0)), (4, .int (nI ib)), (5, .int (nI k)), (6, .int (nI (by2 f p))), (7, .int (nI a)), (8, .int (nI i8)), (9, .int (nI i9))], [.int (nI s221)], M1)) rfl rfl rfl ?_
          refine ps_st (S' := (215, [(10, .int (nI s221)), (0, .ref m0), (1, .int (nI p)), (2, .int (nI (by2 f pM))), (3, .int (nI f0)), (4, .int (nI ib)), (5, .int (nI k)), (6, .int (nI (by2 f p))), (7, .int (nI a)), (8, .int (nI i8)), (9, .int (nI i9))], [], M1)) rfl rfl rfl ?_
          refine ps_st (S' := (217, [(10, .int (nI s221)), (0, .ref m0), (1, .int (nI p)), (2, .int (nI (by2 f pM))), (3, .int (nI f0)), (4, .int (nI ib)), (5, .int (nI k)), (6, .int (nI (by2 f p))), (7, .int (nI a)), (8, .int (nI i8)), (9, .int (nI i9))], [.int (nI s221)], M1)) rfl rfl rfl ?_
          refine ps_if (S1 := (269, [(0, .ref m0), (1, .int (nI p))], [], M1)) (S2 := (220, [(10, .int (nI s221)), (0, .ref m0), (1, .int (nI p)), (2, .int (nI (by2 f pM))), (3, .int (nI f0)), (4, .int (nI ib)), (5, .int (nI k)), (6, .int (nI (by2 f p))), (7, .int (nI a)), (8, .int (nI i8)), (9, .int (nI i9))], [], M1)) rfl rfl rfl (fun c_217 => ?_) (fun c_217 => ?_)
          · exact absurd (of_decide_eq_true c_217) (show ¬ ((nI s221) < 0) from fun h9 => absurd ((lt_nI (p := s221) (n := 0) (by omega) (by decide)).mp h9) (by omega))
          refine ps_st (S' := (221, [(10, .int (nI s221)), (0, .ref m0), (1, .int (nI p)), (2, .int (nI (by2 f pM))), (3, .int (nI f0)), (4, .int (nI ib)), (5, .int (nI k)), (6, .int (nI (by2 f p))), (7, .int (nI a)), (8, .int (nI i8)), (9, .int (nI i9))], [.ref m0], M1)) rfl rfl rfl ?_
          refine ps_st (S' := (223, [(10, .int (nI s221)), (0, .ref m0), (1, .int (nI p)), (2, .int (nI (by2 f pM))), (3, .int (nI f0)), (4, .int (nI ib)), (5, .int (nI k)), (6, .int (nI (by2 f p))), (7, .int (nI a)), (8, .int (nI i8)), (9, .int (nI i9))], [.int (nI s221), .ref m0], M1)) rfl rfl rfl ?_
          refine pl_call (a := [.ref m0, .int (nI s221)]) (rest := []) rfl rfl rfl (rd_isMethod (tx := tx) (cN := cN) (A := A) (s := s221) (l := (tX f n E (by2 f (p + 4)))) hR1 hY1 (q206_s)) (fun v222 M223 q224 => ?_)
          obtain ⟨rfl, rfl⟩ := q224
          show pl _ _ _ (226, [(10, .int (nI s221)), (0, .ref m0), (1, .int (nI p)), (2, .int (nI (by2 f pM))), (3, .int (nI f0)), (4, .int (nI ib)), (5, .int (nI k)), (6, .int (nI (by2 f p))), (7, .int (nI a)), (8, .int (nI i8)), (9, .int (nI i9))], [.int (nI (mthN (tX f n E (by2 f (p + 4)))))], M1) _
          refine ps_if (S1 := (269, [(0, .ref m0), (1, .int (nI p))], [], M1)) (S2 := (229, [(10, .int (nI s221)), (0, .ref m0), (1, .int (nI p)), (2, .int (nI (by2 f pM))), (3, .int (nI f0)), (4, .int (nI ib)), (5, .int (nI k)), (6, .int (nI (by2 f p))), (7, .int (nI a)), (8, .int (nI i8)), (9, .int (nI i9))], [], M1)) rfl rfl rfl (fun c_226 => ?_) (fun c_226 => ?_)
          · have c_226 : (nI (mthN (tX f n E (by2 f (p + 4))))) = 0 := of_decide_eq_true c_226
            have n_226 : mthN (tX f n E (by2 f (p + 4))) = 0 := (eq_nI (p := mthN (tX f n E (by2 f (p + 4)))) (n := 0) (Nat.lt_trans (le1_mth _) (by decide)) (by decide)).mp c_226
            refine ps_st (S' := (270, [(0, .ref m0), (1, .int (nI p))], [.ref m0], M1)) rfl rfl rfl ?_
            refine ps_st (S' := (272, [(0, .ref m0), (1, .int (nI p))], [.int 25, .ref m0], M1)) rfl rfl rfl ?_
            refine ps_st (S' := (273, [(0, .ref m0), (1, .int (nI p))], [.int (nI p), .int 25, .ref m0], M1)) rfl rfl rfl ?_
            refine ps_st (S' := (274, [(0, .ref m0), (1, .int (nI p))], [.int 4, .int (nI p), .int 25, .ref m0], M1)) rfl rfl rfl ?_
            refine ps_st (S' := (275, [(0, .ref m0), (1, .int (nI p))], [.int ((nI p) + 4), .int 25, .ref m0], M1)) rfl rfl rfl ?_
            rw [nI_add1 (p := p) (k := 4) (x := 4) rfl (by omega)]
            show pl _ _ _ (_, [(0, .ref m0), (1, .int (nI p))], [.int (nI (p + 4)), .int 25, .ref m0], M1) _
            refine pl_call (a := [.ref m0, .int 25, .int (nI (p + 4))]) (rest := []) rfl rfl rfl (rd_wrong (x1 := 25) (x2 := (nI (p + 4))) hR1) (fun v225 M226 q227 => ?_)
            obtain ⟨I228, R229, rfl, hR230, hI231, hX232, hi233, hi234⟩ := q227
            have hi235 := (hI231 51 (by decide)).trans hl51
            have hi236 := (hI231 52 (by decide)).trans hl52
            have hi237 := (hI231 53 (by decide)).trans hl53
            have hi238 := (hI231 58 (by decide)).trans hl58
            have hi239 := (hI231 56 (by decide)).trans hl56
            have hi240 := (hI231 26 (by decide)).trans hl26
            have hi241 := (hI231 9 (by decide)).trans hl9
            have hi242 := (hI231 10 (by decide)).trans hl10
            have hF_243 := hF1.mono (cIx hI231 (by decide)) (cRx hX232 (by decide))
            have hY_244 := hY1.mono (cIx hI231 (by decide)) (cRx hX232 (by decide))
            have hP_245 := hP1.mono (cIx hI231 (by decide)) (cRx hX232 (by decide))
            have hK_246 := hK1.mono (cIx hI231 (by decide)) (cRx hX232 (by decide))
            have hN9_247 := hN91.mono (cIx hI231 (by decide)) (cRx hX232 (by decide))
            have hEI248 := hEI1.tr hI231 (by decide)
            have hER249 := hER1.tr hX232 (by decide)
            show pl _ _ _ (278, [(0, .ref m0), (1, .int (nI p))], [.int 0], M226) _
            exact ps_ret rfl rfl (Or.inr ⟨(25, p + 4), I228, R229, by
                have h25 : mdsN f n E (by2 f (p + 2)) (by2 f (p + 4)) (apN f n E p) = 0 := by
                  have m0_ := mds_0 (f := f) (n := n) (E := E) (x := by2 f (p + 2)) (d := by2 f (p + 4)) (w := apN f n E p)
                  have a0_ := ap_9 (f := f) (n := n) (E := E) (p := p)
                  omega
                rw [← hs, mtS_st (i := k) (by omega), ← hpk, mh_25 hnm hfl h25], rfl, hR230, hEI248, hER249, hi233, hi234⟩)
          · have c_226 : ¬ ((nI (mthN (tX f n E (by2 f (p + 4))))) = 0) := of_decide_eq_false c_226
            have n_226 : ¬ (mthN (tX f n E (by2 f (p + 4))) = 0) := fun h9 => c_226 ((eq_nI (p := mthN (tX f n E (by2 f (p + 4)))) (n := 0) (Nat.lt_trans (le1_mth _) (by decide)) (by decide)).mpr h9)
            refine ps_st (S' := (231, [(10, .int (nI s221)), (0, .ref m0), (1, .int (nI p)), (2, .int (nI (by2 f pM))), (3, .int (nI f0)), (4, .int (nI ib)), (5, .int (nI k)), (6, .int (nI (by2 f p))), (7, .int (nI a)), (8, .int (nI i8)), (9, .int (nI i9))], [.int (nI i8)], M1)) rfl rfl rfl ?_
            refine ps_if (S1 := (243, [(0, .ref m0), (1, .int (nI p)), (2, .int (nI (by2 f pM))), (3, .int (nI f0)), (4, .int (nI ib)), (5, .int (nI k)), (6, .int (nI (by2 f p))), (7, .int (nI a)), (9, .int (nI i9)), (10, .int (nI s221))], [], M1)) (S2 := (234, [(10, .int (nI s221)), (0, .ref m0), (1, .int (nI p)), (2, .int (nI (by2 f pM))), (3, .int (nI f0)), (4, .int (nI ib)), (5, .int (nI k)), (6, .int (nI (by2 f p))), (7, .int (nI a)), (8, .int (nI i8)), (9, .int (nI i9))], [], M1)) rfl rfl rfl (fun c_231 => ?_) (fun c_231 => ?_)
            · have c_231 : (nI i8) = 0 := of_decide_eq_true c_231
              have n_231 : i8 = 0 := (eq_nI (p := i8) (n := 0) (by omega) (by decide)).mp c_231
              refine ps_st (S' := (244, [(0, .ref m0), (1, .int (nI p)), (2, .int (nI (by2 f pM))), (3, .int (nI f0)), (4, .int (nI ib)), (5, .int (nI k)), (6, .int (nI (by2 f p))), (7, .int (nI a)), (9, .int (nI i9)), (10, .int (nI s221))], [.ref m0], M1)) rfl rfl rfl ?_
              refine ps_st (S' := (246, [(0, .ref m0), (1, .int (nI p)), (2, .int (nI (by2 f pM))), (3, .int (nI f0)), (4, .int (nI ib)), (5, .int (nI k)), (6, .int (nI (by2 f p))), (7, .int (nI a)), (9, .int (nI i9)), (10, .int (nI s221))], [.int (nI s221), .ref m0], M1)) rfl rfl rfl ?_
              obtain ⟨-, -, k_246, W_246, hq1_246, hq2_246, hq3_246, hq4_246, hq5_246, hq6_246, -⟩ := mth_in (l := (tX f n E (by2 f (p + 4)))) (by omega)
              refine pl_call (a := [.ref m0, .int (nI s221)]) (rest := []) rfl rfl rfl (rd_places0 (tx := tx) (cN := cN) (A := A) (s := s221) (l := (tX f n E (by2 f (p + 4)))) (k0 := k_246) (W := W_246) hR1 hY1 (q206_s) (hq1_246) (⟨by omega, hq5_246⟩)) (fun v250 M251 q252 => ?_)
              obtain ⟨rfl, rfl⟩ := q252
              show pl _ _ _ (249, [(0, .ref m0), (1, .int (nI p)), (2, .int (nI (by2 f pM))), (3, .int (nI f0)), (4, .int (nI ib)), (5, .int (nI k)), (6, .int (nI (by2 f p))), (7, .int (nI a)), (9, .int (nI i9)), (10, .int (nI s221))], [.int (nI (W_246))], M1) _
              rw [← hq6_246]
              show pl _ _ _ (_, [(0, .ref m0), (1, .int (nI p)), (2, .int (nI (by2 f pM))), (3, .int (nI f0)), (4, .int (nI ib)), (5, .int (nI k)), (6, .int (nI (by2 f p))), (7, .int (nI a)), (9, .int (nI i9)), (10, .int (nI s221))], [.int (nI (argN (tX f n E (by2 f (p + 4)))))], M1) _
              have hal_246 := argN_lt (tX f n E (by2 f (p + 4)))
              refine ps_st (S' := (251, [(0, .ref m0), (1, .int (nI p)), (2, .int (nI (by2 f pM))), (3, .int (nI f0)), (4, .int (nI ib)), (5, .int (nI k)), (6, .int (nI (by2 f p))), (7, .int (nI a)), (9, .int (nI i9)), (10, .int (nI s221))], [.int (nI (by2 f p)), .int (nI (argN (tX f n E (by2 f (p + 4)))))], M1)) rfl rfl rfl ?_
              refine ps_st (S' := (253, [(0, .ref m0), (1, .int (nI p)), (2, .int (nI (by2 f pM))), (3, .int (nI f0)), (4, .int (nI ib)), (5, .int (nI k)), (6, .int (nI (by2 f p))), (7, .int (nI a)), (9, .int (nI i9)), (10, .int (nI s221))], [.int 8, .int (nI (by2 f p)), .int (nI (argN (tX f n E (by2 f (p + 4)))))], M1)) rfl rfl rfl ?_
              refine ps_st (S' := (254, [(0, .ref m0), (1, .int (nI p)), (2, .int (nI (by2 f pM))), (3, .int (nI f0)), (4, .int (nI ib)), (5, .int (nI k)), (6, .int (nI (by2 f p))), (7, .int (nI a)), (9, .int (nI i9)), (10, .int (nI s221))], [.int ((nI (by2 f p)) &&& 8), .int (nI (argN (tX f n E (by2 f (p + 4)))))], M1)) rfl rfl rfl ?_
              rw [nI_an (p := by2 f p) (k := 8) (x := 8) rfl]
              show pl _ _ _ (_, [(0, .ref m0), (1, .int (nI p)), (2, .int (nI (by2 f pM))), (3, .int (nI f0)), (4, .int (nI ib)), (5, .int (nI k)), (6, .int (nI (by2 f p))), (7, .int (nI a)), (9, .int (nI i9)), (10, .int (nI s221))], [.int (nI (aN (by2 f p) 8)), .int (nI (argN (tX f n E (by2 f (p + 4)))))], M1) _
              refine ps_if (S1 := (261, [(0, .ref m0), (1, .int (nI p)), (2, .int (nI (by2 f pM))), (3, .int (nI f0)), (4, .int (nI ib)), (5, .int (nI k)), (6, .int (nI (by2 f p))), (7, .int (nI a)), (9, .int (nI i9)), (10, .int (nI s221))], [.int (nI (argN (tX f n E (by2 f (p + 4)))))], M1)) (S2 := (257, [(0, .ref m0), (1, .int (nI p)), (2, .int (nI (by2 f pM))), (3, .int (nI f0)), (4, .int (nI ib)), (5, .int (nI k)), (6, .int (nI (by2 f p))), (7, .int (nI a)), (9, .int (nI i9)), (10, .int (nI s221))], [.int (nI (argN (tX f n E (by2 f (p + 4)))))], M1)) rfl rfl rfl (fun c_254 => ?_) (fun c_254 => ?_)
              · have c_254 : ¬ (nI (aN (by2 f p) 8)) = 0 := of_decide_eq_true c_254
                have n_254 : ¬ (aN (by2 f p) 8 = 0) := fun h9 => c_254 ((eq_nI (p := aN (by2 f p) 8) (n := 0) (Nat.lt_of_le_of_lt (an_le _ _) (by decide)) (by decide)).mpr h9)
                refine ps_st (S' := (262, [(0, .ref m0), (1, .int (nI p)), (2, .int (nI (by2 f pM))), (3, .int (nI f0)), (4, .int (nI ib)), (5, .int (nI k)), (6, .int (nI (by2 f p))), (7, .int (nI a)), (9, .int (nI i9)), (10, .int (nI s221))], [.int 0, .int (nI (argN (tX f n E (by2 f (p + 4)))))], M1)) rfl rfl rfl ?_
                refine ps_st (S' := (263, [(0, .ref m0), (1, .int (nI p)), (2, .int (nI (by2 f pM))), (3, .int (nI f0)), (4, .int (nI ib)), (5, .int (nI k)), (6, .int (nI (by2 f p))), (7, .int (nI a)), (9, .int (nI i9)), (10, .int (nI s221))], [.int ((nI (argN (tX f n E (by2 f (p + 4))))) + 0)], M1)) rfl rfl rfl ?_
                rw [nI_add1 (p := argN (tX f n E (by2 f (p + 4)))) (k := 0) (x := 0) rfl (by omega)]
                show pl _ _ _ (_, [(0, .ref m0), (1, .int (nI p)), (2, .int (nI (by2 f pM))), (3, .int (nI f0)), (4, .int (nI ib)), (5, .int (nI k)), (6, .int (nI (by2 f p))), (7, .int (nI a)), (9, .int (nI i9)), (10, .int (nI s221))], [.int (nI (argN (tX f n E (by2 f (p + 4))) + 0))], M1) _
                refine ps_st (S' := (266, [(0, .ref m0), (1, .int (nI p)), (2, .int (nI (by2 f pM))), (3, .int (nI f0)), (4, .int (nI ib)), (5, .int (nI k)), (6, .int (nI (by2 f p))), (7, .int (nI a)), (9, .int (nI i9)), (10, .int (nI s221))], [.int 255, .int (nI (argN (tX f n E (by2 f (p + 4))) + 0))], M1)) rfl rfl rfl ?_
                refine ps_if2 (S1 := (279, [(0, .ref m0), (1, .int (nI p)), (2, .int (nI (by2 f pM))), (3, .int (nI f0)), (4, .int (nI ib)), (5, .int (nI k)), (6, .int (nI (by2 f p))), (7, .int (nI a)), (9, .int (nI i9)), (10, .int (nI s221))], [], M1)) (S2 := (269, [(0, .ref m0), (1, .int (nI p))], [], M1)) rfl rfl rfl (fun c_266 => ?_) (fun c_266 => ?_)
                · have c_266 : (nI (argN (tX f n E (by2 f (p + 4))) + 0)) ≤ 255 := of_decide_eq_true c_266
                  have n_266 : argN (tX f n E (by2 f (p + 4))) + 0 ≤ 255 := (le_nI (p := argN (tX f n E (by2 f (p + 4))) + 0) (n := 255) (by omega) (by decide)).mp c_266
                  have hds : ¬ mdsN f n E (by2 f (p + 2)) (by2 f (p + 4)) (apN f n E p) = 0 := by
                    have m0_ := mds_0 (f := f) (n := n) (E := E) (x := by2 f (p + 2)) (d := by2 f (p + 4)) (w := apN f n E p)
                    have a0_ := ap_9 (f := f) (n := n) (E := E) (p := p)
                    omega
                  exact ih.2.2.1 (k) (p) (ib) (a) (i9) (s221) M1 I1 R1 hR1 hEI1 hER1 hl51 hl52 hl53 hl58 hl56 hl26 hl9 hl10 hF1 hY1 hP1 hK1 hN91 (hk0) (hpk) (hpe) (hs) (hib) (hsa) (ht1) (hnm) (hfl) (h9c) (q206_s) (by omega) (by omega) (hds)
                · have c_266 : ¬ ((nI (argN (tX f n E (by2 f (p + 4))) + 0)) ≤ 255) := of_decide_eq_false c_266
                  have n_266 : ¬ (argN (tX f n E (by2 f (p + 4))) + 0 ≤ 255) := fun h9 => c_266 ((le_nI (p := argN (tX f n E (by2 f (p + 4))) + 0) (n := 255) (by omega) (by decide)).mpr h9)
                  refine ps_st (S' := (270, [(0, .ref m0), (1, .int (nI p))], [.ref m0], M1)) rfl rfl rfl ?_
                  refine ps_st (S' := (272, [(0, .ref m0), (1, .int (nI p))], [.int 25, .ref m0], M1)) rfl rfl rfl ?_
                  refine ps_st (S' := (273, [(0, .ref m0), (1, .int (nI p))], [.int (nI p), .int 25, .ref m0], M1)) rfl rfl rfl ?_
                  refine ps_st (S' := (274, [(0, .ref m0), (1, .int (nI p))], [.int 4, .int (nI p), .int 25, .ref m0], M1)) rfl rfl rfl ?_
                  refine ps_st (S' := (275, [(0, .ref m0), (1, .int (nI p))], [.int ((nI p) + 4), .int 25, .ref m0], M1)) rfl rfl rfl ?_
                  rw [nI_add1 (p := p) (k := 4) (x := 4) rfl (by omega)]
                  show pl _ _ _ (_, [(0, .ref m0), (1, .int (nI p))], [.int (nI (p + 4)), .int 25, .ref m0], M1) _
                  refine pl_call (a := [.ref m0, .int 25, .int (nI (p + 4))]) (rest := []) rfl rfl rfl (rd_wrong (x1 := 25) (x2 := (nI (p + 4))) hR1) (fun v253 M254 q255 => ?_)
                  obtain ⟨I256, R257, rfl, hR258, hI259, hX260, hi261, hi262⟩ := q255
                  have hi263 := (hI259 51 (by decide)).trans hl51
                  have hi264 := (hI259 52 (by decide)).trans hl52
                  have hi265 := (hI259 53 (by decide)).trans hl53
                  have hi266 := (hI259 58 (by decide)).trans hl58
                  have hi267 := (hI259 56 (by decide)).trans hl56
                  have hi268 := (hI259 26 (by decide)).trans hl26
                  have hi269 := (hI259 9 (by decide)).trans hl9
                  have hi270 := (hI259 10 (by decide)).trans hl10
                  have hF_271 := hF1.mono (cIx hI259 (by decide)) (cRx hX260 (by decide))
                  have hY_272 := hY1.mono (cIx hI259 (by decide)) (cRx hX260 (by decide))
                  have hP_273 := hP1.mono (cIx hI259 (by decide)) (cRx hX260 (by decide))
                  have hK_274 := hK1.mono (cIx hI259 (by decide)) (cRx hX260 (by decide))
                  have hN9_275 := hN91.mono (cIx hI259 (by decide)) (cRx hX260 (by decide))
                  have hEI276 := hEI1.tr hI259 (by decide)
                  have hER277 := hER1.tr hX260 (by decide)
                  show pl _ _ _ (278, [(0, .ref m0), (1, .int (nI p))], [.int 0], M254) _
                  exact ps_ret rfl rfl (Or.inr ⟨(25, p + 4), I256, R257, by
                      have h25 : mdsN f n E (by2 f (p + 2)) (by2 f (p + 4)) (apN f n E p) = 0 := by
                        have m0_ := mds_0 (f := f) (n := n) (E := E) (x := by2 f (p + 2)) (d := by2 f (p + 4)) (w := apN f n E p)
                        have a0_ := ap_9 (f := f) (n := n) (E := E) (p := p)
                        omega
                      rw [← hs, mtS_st (i := k) (by omega), ← hpk, mh_25 hnm hfl h25], rfl, hR258, hEI276, hER277, hi261, hi262⟩)
              · have c_254 : ¬ (¬ (nI (aN (by2 f p) 8)) = 0) := of_decide_eq_false c_254
                have n_254 : aN (by2 f p) 8 = 0 := (eq_nI (p := aN (by2 f p) 8) (n := 0) (Nat.lt_of_le_of_lt (an_le _ _) (by decide)) (by decide)).mp (Decidable.not_not.mp c_254)
                refine ps_st (S' := (258, [(0, .ref m0), (1, .int (nI p)), (2, .int (nI (by2 f pM))), (3, .int (nI f0)), (4, .int (nI ib)), (5, .int (nI k)), (6, .int (nI (by2 f p))), (7, .int (nI a)), (9, .int (nI i9)), (10, .int (nI s221))], [.int 1, .int (nI (argN (tX f n E (by2 f (p + 4)))))], M1)) rfl rfl rfl ?_
                refine ps_st (S' := (262, [(0, .ref m0), (1, .int (nI p)), (2, .int (nI (by2 f pM))), (3, .int (nI f0)), (4, .int (nI ib)), (5, .int (nI k)), (6, .int (nI (by2 f p))), (7, .int (nI a)), (9, .int (nI i9)), (10, .int (nI s221))], [.int 1, .int (nI (argN (tX f n E (by2 f (p + 4)))))], M1)) rfl rfl rfl ?_
                refine ps_st (S' := (263, [(0, .ref m0), (1, .int (nI p)), (2, .int (nI (by2 f pM))), (3, .int (nI f0)), (4, .int (nI ib)), (5, .int (nI k)), (6, .int (nI (by2 f p))), (7, .int (nI a)), (9, .int (nI i9)), (10, .int (nI s221))], [.int ((nI (argN (tX f n E (by2 f (p + 4))))) + 1)], M1)) rfl rfl rfl ?_
                rw [nI_add1 (p := argN (tX f n E (by2 f (p + 4)))) (k := 1) (x := 1) rfl (by omega)]
                show pl _ _ _ (_, [(0, .ref m0), (1, .int (nI p)), (2, .int (nI (by2 f pM))), (3, .int (nI f0)), (4, .int (nI ib)), (5, .int (nI k)), (6, .int (nI (by2 f p))), (7, .int (nI a)), (9, .int (nI i9)), (10, .int (nI s221))], [.int (nI (argN (tX f n E (by2 f (p + 4))) + 1))], M1) _
                refine ps_st (S' := (266, [(0, .ref m0), (1, .int (nI p)), (2, .int (nI (by2 f pM))), (3, .int (nI f0)), (4, .int (nI ib)), (5, .int (nI k)), (6, .int (nI (by2 f p))), (7, .int (nI a)), (9, .int (nI i9)), (10, .int (nI s221))], [.int 255, .int (nI (argN (tX f n E (by2 f (p + 4))) + 1))], M1)) rfl rfl rfl ?_
                refine ps_if2 (S1 := (279, [(0, .ref m0), (1, .int (nI p)), (2, .int (nI (by2 f pM))), (3, .int (nI f0)), (4, .int (nI ib)), (5, .int (nI k)), (6, .int (nI (by2 f p))), (7, .int (nI a)), (9, .int (nI i9)), (10, .int (nI s221))], [], M1)) (S2 := (269, [(0, .ref m0), (1, .int (nI p))], [], M1)) rfl rfl rfl (fun c_266 => ?_) (fun c_266 => ?_)
                · have c_266 : (nI (argN (tX f n E (by2 f (p + 4))) + 1)) ≤ 255 := of_decide_eq_true c_266
                  have n_266 : argN (tX f n E (by2 f (p + 4))) + 1 ≤ 255 := (le_nI (p := argN (tX f n E (by2 f (p + 4))) + 1) (n := 255) (by omega) (by decide)).mp c_266
                  have hds : ¬ mdsN f n E (by2 f (p + 2)) (by2 f (p + 4)) (apN f n E p) = 0 := by
                    have m0_ := mds_0 (f := f) (n := n) (E := E) (x := by2 f (p + 2)) (d := by2 f (p + 4)) (w := apN f n E p)
                    have a0_ := ap_9 (f := f) (n := n) (E := E) (p := p)
                    omega
                  exact ih.2.2.1 (k) (p) (ib) (a) (i9) (s221) M1 I1 R1 hR1 hEI1 hER1 hl51 hl52 hl53 hl58 hl56 hl26 hl9 hl10 hF1 hY1 hP1 hK1 hN91 (hk0) (hpk) (hpe) (hs) (hib) (hsa) (ht1) (hnm) (hfl) (h9c) (q206_s) (by omega) (by omega) (hds)
                · have c_266 : ¬ ((nI (argN (tX f n E (by2 f (p + 4))) + 1)) ≤ 255) := of_decide_eq_false c_266
                  have n_266 : ¬ (argN (tX f n E (by2 f (p + 4))) + 1 ≤ 255) := fun h9 => c_266 ((le_nI (p := argN (tX f n E (by2 f (p + 4))) + 1) (n := 255) (by omega) (by decide)).mpr h9)
                  refine ps_st (S' := (270, [(0, .ref m0), (1, .int (nI p))], [.ref m0], M1)) rfl rfl rfl ?_
                  refine ps_st (S' := (272, [(0, .ref m0), (1, .int (nI p))], [.int 25, .ref m0], M1)) rfl rfl rfl ?_
                  refine ps_st (S' := (273, [(0, .ref m0), (1, .int (nI p))], [.int (nI p), .int 25, .ref m0], M1)) rfl rfl rfl ?_
                  refine ps_st (S' := (274, [(0, .ref m0), (1, .int (nI p))], [.int 4, .int (nI p), .int 25, .ref m0], M1)) rfl rfl rfl ?_
                  refine ps_st (S' := (275, [(0, .ref m0), (1, .int (nI p))], [.int ((nI p) + 4), .int 25, .ref m0], M1)) rfl rfl rfl ?_
                  rw [nI_add1 (p := p) (k := 4) (x := 4) rfl (by omega)]
                  show pl _ _ _ (_, [(0, .ref m0), (1, .int (nI p))], [.int (nI (p + 4)), .int 25, .ref m0], M1) _
                  refine pl_call (a := [.ref m0, .int 25, .int (nI (p + 4))]) (rest := []) rfl rfl rfl (rd_wrong (x1 := 25) (x2 := (nI (p + 4))) hR1) (fun v278 M279 q280 => ?_)
                  obtain ⟨I281, R282, rfl, hR283, hI284, hX285, hi286, hi287⟩ := q280
                  have hi288 := (hI284 51 (by decide)).trans hl51
                  have hi289 := (hI284 52 (by decide)).trans hl52
                  have hi290 := (hI284 53 (by decide)).trans hl53
                  have hi291 := (hI284 58 (by decide)).trans hl58
                  have hi292 := (hI284 56 (by decide)).trans hl56
                  have hi293 := (hI284 26 (by decide)).trans hl26
                  have hi294 := (hI284 9 (by decide)).trans hl9
                  have hi295 := (hI284 10 (by decide)).trans hl10
                  have hF_296 := hF1.mono (cIx hI284 (by decide)) (cRx hX285 (by decide))
                  have hY_297 := hY1.mono (cIx hI284 (by decide)) (cRx hX285 (by decide))
                  have hP_298 := hP1.mono (cIx hI284 (by decide)) (cRx hX285 (by decide))
                  have hK_299 := hK1.mono (cIx hI284 (by decide)) (cRx hX285 (by decide))
                  have hN9_300 := hN91.mono (cIx hI284 (by decide)) (cRx hX285 (by decide))
                  have hEI301 := hEI1.tr hI284 (by decide)
                  have hER302 := hER1.tr hX285 (by decide)
                  show pl _ _ _ (278, [(0, .ref m0), (1, .int (nI p))], [.int 0], M279) _
                  exact ps_ret rfl rfl (Or.inr ⟨(25, p + 4), I281, R282, by
                      have h25 : mdsN f n E (by2 f (p + 2)) (by2 f (p + 4)) (apN f n E p) = 0 := by
                        have m0_ := mds_0 (f := f) (n := n) (E := E) (x := by2 f (p + 2)) (d := by2 f (p + 4)) (w := apN f n E p)
                        have a0_ := ap_9 (f := f) (n := n) (E := E) (p := p)
                        omega
                      rw [← hs, mtS_st (i := k) (by omega), ← hpk, mh_25 hnm hfl h25], rfl, hR283, hEI301, hER302, hi286, hi287⟩)
            · have c_231 : ¬ ((nI i8) = 0) := of_decide_eq_false c_231
              have n_231 : ¬ (i8 = 0) := fun h9 => c_231 ((eq_nI (p := i8) (n := 0) (by omega) (by decide)).mpr h9)
              refine ps_st (S' := (235, [(10, .int (nI s221)), (0, .ref m0), (1, .int (nI p)), (2, .int (nI (by2 f pM))), (3, .int (nI f0)), (4, .int (nI ib)), (5, .int (nI k)), (6, .int (nI (by2 f p))), (7, .int (nI a)), (8, .int (nI i8)), (9, .int (nI i9))], [.ref m0], M1)) rfl rfl rfl ?_
              refine ps_st (S' := (237, [(10, .int (nI s221)), (0, .ref m0), (1, .int (nI p)), (2, .int (nI (by2 f pM))), (3, .int (nI f0)), (4, .int (nI ib)), (5, .int (nI k)), (6, .int (nI (by2 f p))), (7, .int (nI a)), (8, .int (nI i8)), (9, .int (nI i9))], [.int (nI s221), .ref m0], M1)) rfl rfl rfl ?_
              refine pl_call (a := [.ref m0, .int (nI s221)]) (rest := []) rfl rfl rfl (rd_endsV (tx := tx) (cN := cN) (A := A) (s := s221) (l := (tX f n E (by2 f (p + 4)))) hR1 hY1 (q206_s) (by omega)) (fun v303 M304 q305 => ?_)
              obtain ⟨rfl, rfl⟩ := q305
              show pl _ _ _ (240, [(10, .int (nI s221)), (0, .ref m0), (1, .int (nI p)), (2, .int (nI (by2 f pM))), (3, .int (nI f0)), (4, .int (nI ib)), (5, .int (nI k)), (6, .int (nI (by2 f p))), (7, .int (nI a)), (8, .int (nI i8)), (9, .int (nI i9))], [.int (nI (nresN (tX f n E (by2 f (p + 4)))))], M1) _
              refine ps_if (S1 := (269, [(0, .ref m0), (1, .int (nI p))], [], M1)) (S2 := (243, [(0, .ref m0), (1, .int (nI p)), (2, .int (nI (by2 f pM))), (3, .int (nI f0)), (4, .int (nI ib)), (5, .int (nI k)), (6, .int (nI (by2 f p))), (7, .int (nI a)), (9, .int (nI i9)), (10, .int (nI s221))], [], M1)) rfl rfl rfl (fun c_240 => ?_) (fun c_240 => ?_)
              · have c_240 : (nI (nresN (tX f n E (by2 f (p + 4))))) = 0 := of_decide_eq_true c_240
                have n_240 : nresN (tX f n E (by2 f (p + 4))) = 0 := (eq_nI (p := nresN (tX f n E (by2 f (p + 4)))) (n := 0) (Nat.lt_trans (le1_nres _) (by decide)) (by decide)).mp c_240
                refine ps_st (S' := (270, [(0, .ref m0), (1, .int (nI p))], [.ref m0], M1)) rfl rfl rfl ?_
                refine ps_st (S' := (272, [(0, .ref m0), (1, .int (nI p))], [.int 25, .ref m0], M1)) rfl rfl rfl ?_
                refine ps_st (S' := (273, [(0, .ref m0), (1, .int (nI p))], [.int (nI p), .int 25, .ref m0], M1)) rfl rfl rfl ?_
                refine ps_st (S' := (274, [(0, .ref m0), (1, .int (nI p))], [.int 4, .int (nI p), .int 25, .ref m0], M1)) rfl rfl rfl ?_
                refine ps_st (S' := (275, [(0, .ref m0), (1, .int (nI p))], [.int ((nI p) + 4), .int 25, .ref m0], M1)) rfl rfl rfl ?_
                rw [nI_add1 (p := p) (k := 4) (x := 4) rfl (by omega)]
                show pl _ _ _ (_, [(0, .ref m0), (1, .int (nI p))], [.int (nI (p + 4)), .int 25, .ref m0], M1) _
                refine pl_call (a := [.ref m0, .int 25, .int (nI (p + 4))]) (rest := []) rfl rfl rfl (rd_wrong (x1 := 25) (x2 := (nI (p + 4))) hR1) (fun v306 M307 q308 => ?_)
                obtain ⟨I309, R310, rfl, hR311, hI312, hX313, hi314, hi315⟩ := q308
                have hi316 := (hI312 51 (by decide)).trans hl51
                have hi317 := (hI312 52 (by decide)).trans hl52
                have hi318 := (hI312 53 (by decide)).trans hl53
                have hi319 := (hI312 58 (by decide)).trans hl58
                have hi320 := (hI312 56 (by decide)).trans hl56
                have hi321 := (hI312 26 (by decide)).trans hl26
                have hi322 := (hI312 9 (by decide)).trans hl9
                have hi323 := (hI312 10 (by decide)).trans hl10
                have hF_324 := hF1.mono (cIx hI312 (by decide)) (cRx hX313 (by decide))
                have hY_325 := hY1.mono (cIx hI312 (by decide)) (cRx hX313 (by decide))
                have hP_326 := hP1.mono (cIx hI312 (by decide)) (cRx hX313 (by decide))
                have hK_327 := hK1.mono (cIx hI312 (by decide)) (cRx hX313 (by decide))
                have hN9_328 := hN91.mono (cIx hI312 (by decide)) (cRx hX313 (by decide))
                have hEI329 := hEI1.tr hI312 (by decide)
                have hER330 := hER1.tr hX313 (by decide)
                show pl _ _ _ (278, [(0, .ref m0), (1, .int (nI p))], [.int 0], M307) _
                exact ps_ret rfl rfl (Or.inr ⟨(25, p + 4), I309, R310, by
                    have h25 : mdsN f n E (by2 f (p + 2)) (by2 f (p + 4)) (apN f n E p) = 0 := by
                      have m0_ := mds_0 (f := f) (n := n) (E := E) (x := by2 f (p + 2)) (d := by2 f (p + 4)) (w := apN f n E p)
                      have a0_ := ap_9 (f := f) (n := n) (E := E) (p := p)
                      omega
                    rw [← hs, mtS_st (i := k) (by omega), ← hpk, mh_25 hnm hfl h25], rfl, hR311, hEI329, hER330, hi314, hi315⟩)
              · have c_240 : ¬ ((nI (nresN (tX f n E (by2 f (p + 4))))) = 0) := of_decide_eq_false c_240
                have n_240 : ¬ (nresN (tX f n E (by2 f (p + 4))) = 0) := fun h9 => c_240 ((eq_nI (p := nresN (tX f n E (by2 f (p + 4)))) (n := 0) (Nat.lt_trans (le1_nres _) (by decide)) (by decide)).mpr h9)
                refine ps_st (S' := (244, [(0, .ref m0), (1, .int (nI p)), (2, .int (nI (by2 f pM))), (3, .int (nI f0)), (4, .int (nI ib)), (5, .int (nI k)), (6, .int (nI (by2 f p))), (7, .int (nI a)), (9, .int (nI i9)), (10, .int (nI s221))], [.ref m0], M1)) rfl rfl rfl ?_
                refine ps_st (S' := (246, [(0, .ref m0), (1, .int (nI p)), (2, .int (nI (by2 f pM))), (3, .int (nI f0)), (4, .int (nI ib)), (5, .int (nI k)), (6, .int (nI (by2 f p))), (7, .int (nI a)), (9, .int (nI i9)), (10, .int (nI s221))], [.int (nI s221), .ref m0], M1)) rfl rfl rfl ?_
                obtain ⟨-, -, k_246, W_246, hq1_246, hq2_246, hq3_246, hq4_246, hq5_246, hq6_246, -⟩ := mth_in (l := (tX f n E (by2 f (p + 4)))) (by omega)
                refine pl_call (a := [.ref m0, .int (nI s221)]) (rest := []) rfl rfl rfl (rd_places0 (tx := tx) (cN := cN) (A := A) (s := s221) (l := (tX f n E (by2 f (p + 4)))) (k0 := k_246) (W := W_246) hR1 hY1 (q206_s) (hq1_246) (⟨by omega, hq5_246⟩)) (fun v331 M332 q333 => ?_)
                obtain ⟨rfl, rfl⟩ := q333
                show pl _ _ _ (249, [(0, .ref m0), (1, .int (nI p)), (2, .int (nI (by2 f pM))), (3, .int (nI f0)), (4, .int (nI ib)), (5, .int (nI k)), (6, .int (nI (by2 f p))), (7, .int (nI a)), (9, .int (nI i9)), (10, .int (nI s221))], [.int (nI (W_246))], M1) _
                rw [← hq6_246]
                show pl _ _ _ (_, [(0, .ref m0), (1, .int (nI p)), (2, .int (nI (by2 f pM))), (3, .int (nI f0)), (4, .int (nI ib)), (5, .int (nI k)), (6, .int (nI (by2 f p))), (7, .int (nI a)), (9, .int (nI i9)), (10, .int (nI s221))], [.int (nI (argN (tX f n E (by2 f (p + 4)))))], M1) _
                have hal_246 := argN_lt (tX f n E (by2 f (p + 4)))
                refine ps_st (S' := (251, [(0, .ref m0), (1, .int (nI p)), (2, .int (nI (by2 f pM))), (3, .int (nI f0)), (4, .int (nI ib)), (5, .int (nI k)), (6, .int (nI (by2 f p))), (7, .int (nI a)), (9, .int (nI i9)), (10, .int (nI s221))], [.int (nI (by2 f p)), .int (nI (argN (tX f n E (by2 f (p + 4)))))], M1)) rfl rfl rfl ?_
                refine ps_st (S' := (253, [(0, .ref m0), (1, .int (nI p)), (2, .int (nI (by2 f pM))), (3, .int (nI f0)), (4, .int (nI ib)), (5, .int (nI k)), (6, .int (nI (by2 f p))), (7, .int (nI a)), (9, .int (nI i9)), (10, .int (nI s221))], [.int 8, .int (nI (by2 f p)), .int (nI (argN (tX f n E (by2 f (p + 4)))))], M1)) rfl rfl rfl ?_
                refine ps_st (S' := (254, [(0, .ref m0), (1, .int (nI p)), (2, .int (nI (by2 f pM))), (3, .int (nI f0)), (4, .int (nI ib)), (5, .int (nI k)), (6, .int (nI (by2 f p))), (7, .int (nI a)), (9, .int (nI i9)), (10, .int (nI s221))], [.int ((nI (by2 f p)) &&& 8), .int (nI (argN (tX f n E (by2 f (p + 4)))))], M1)) rfl rfl rfl ?_
                rw [nI_an (p := by2 f p) (k := 8) (x := 8) rfl]
                show pl _ _ _ (_, [(0, .ref m0), (1, .int (nI p)), (2, .int (nI (by2 f pM))), (3, .int (nI f0)), (4, .int (nI ib)), (5, .int (nI k)), (6, .int (nI (by2 f p))), (7, .int (nI a)), (9, .int (nI i9)), (10, .int (nI s221))], [.int (nI (aN (by2 f p) 8)), .int (nI (argN (tX f n E (by2 f (p + 4)))))], M1) _
                refine ps_if (S1 := (261, [(0, .ref m0), (1, .int (nI p)), (2, .int (nI (by2 f pM))), (3, .int (nI f0)), (4, .int (nI ib)), (5, .int (nI k)), (6, .int (nI (by2 f p))), (7, .int (nI a)), (9, .int (nI i9)), (10, .int (nI s221))], [.int (nI (argN (tX f n E (by2 f (p + 4)))))], M1)) (S2 := (257, [(0, .ref m0), (1, .int (nI p)), (2, .int (nI (by2 f pM))), (3, .int (nI f0)), (4, .int (nI ib)), (5, .int (nI k)), (6, .int (nI (by2 f p))), (7, .int (nI a)), (9, .int (nI i9)), (10, .int (nI s221))], [.int (nI (argN (tX f n E (by2 f (p + 4)))))], M1)) rfl rfl rfl (fun c_254 => ?_) (fun c_254 => ?_)
                · have c_254 : ¬ (nI (aN (by2 f p) 8)) = 0 := of_decide_eq_true c_254
                  have n_254 : ¬ (aN (by2 f p) 8 = 0) := fun h9 => c_254 ((eq_nI (p := aN (by2 f p) 8) (n := 0) (Nat.lt_of_le_of_lt (an_le _ _) (by decide)) (by decide)).mpr h9)
                  refine ps_st (S' := (262, [(0, .ref m0), (1, .int (nI p)), (2, .int (nI (by2 f pM))), (3, .int (nI f0)), (4, .int (nI ib)), (5, .int (nI k)), (6, .int (nI (by2 f p))), (7, .int (nI a)), (9, .int (nI i9)), (10, .int (nI s221))], [.int 0, .int (nI (argN (tX f n E (by2 f (p + 4)))))], M1)) rfl rfl rfl ?_
                  refine ps_st (S' := (263, [(0, .ref m0), (1, .int (nI p)), (2, .int (nI (by2 f pM))), (3, .int (nI f0)), (4, .int (nI ib)), (5, .int (nI k)), (6, .int (nI (by2 f p))), (7, .int (nI a)), (9, .int (nI i9)), (10, .int (nI s221))], [.int ((nI (argN (tX f n E (by2 f (p + 4))))) + 0)], M1)) rfl rfl rfl ?_
                  rw [nI_add1 (p := argN (tX f n E (by2 f (p + 4)))) (k := 0) (x := 0) rfl (by omega)]
                  show pl _ _ _ (_, [(0, .ref m0), (1, .int (nI p)), (2, .int (nI (by2 f pM))), (3, .int (nI f0)), (4, .int (nI ib)), (5, .int (nI k)), (6, .int (nI (by2 f p))), (7, .int (nI a)), (9, .int (nI i9)), (10, .int (nI s221))], [.int (nI (argN (tX f n E (by2 f (p + 4))) + 0))], M1) _
                  refine ps_st (S' := (266, [(0, .ref m0), (1, .int (nI p)), (2, .int (nI (by2 f pM))), (3, .int (nI f0)), (4, .int (nI ib)), (5, .int (nI k)), (6, .int (nI (by2 f p))), (7, .int (nI a)), (9, .int (nI i9)), (10, .int (nI s221))], [.int 255, .int (nI (argN (tX f n E (by2 f (p + 4))) + 0))], M1)) rfl rfl rfl ?_
                  refine ps_if2 (S1 := (279, [(0, .ref m0), (1, .int (nI p)), (2, .int (nI (by2 f pM))), (3, .int (nI f0)), (4, .int (nI ib)), (5, .int (nI k)), (6, .int (nI (by2 f p))), (7, .int (nI a)), (9, .int (nI i9)), (10, .int (nI s221))], [], M1)) (S2 := (269, [(0, .ref m0), (1, .int (nI p))], [], M1)) rfl rfl rfl (fun c_266 => ?_) (fun c_266 => ?_)
                  · have c_266 : (nI (argN (tX f n E (by2 f (p + 4))) + 0)) ≤ 255 := of_decide_eq_true c_266
                    have n_266 : argN (tX f n E (by2 f (p + 4))) + 0 ≤ 255 := (le_nI (p := argN (tX f n E (by2 f (p + 4))) + 0) (n := 255) (by omega) (by decide)).mp c_266
                    have hds : ¬ mdsN f n E (by2 f (p + 2)) (by2 f (p + 4)) (apN f n E p) = 0 := by
                      have m0_ := mds_0 (f := f) (n := n) (E := E) (x := by2 f (p + 2)) (d := by2 f (p + 4)) (w := apN f n E p)
                      have a0_ := ap_9 (f := f) (n := n) (E := E) (p := p)
                      omega
                    exact ih.2.2.1 (k) (p) (ib) (a) (i9) (s221) M1 I1 R1 hR1 hEI1 hER1 hl51 hl52 hl53 hl58 hl56 hl26 hl9 hl10 hF1 hY1 hP1 hK1 hN91 (hk0) (hpk) (hpe) (hs) (hib) (hsa) (ht1) (hnm) (hfl) (h9c) (q206_s) (by omega) (by omega) (hds)
                  · have c_266 : ¬ ((nI (argN (tX f n E (by2 f (p + 4))) + 0)) ≤ 255) := of_decide_eq_false c_266
                    have n_266 : ¬ (argN (tX f n E (by2 f (p + 4))) + 0 ≤ 255) := fun h9 => c_266 ((le_nI (p := argN (tX f n E (by2 f (p + 4))) + 0) (n := 255) (by omega) (by decide)).mpr h9)
                    refine ps_st (S' := (270, [(0, .ref m0), (1, .int (nI p))], [.ref m0], M1)) rfl rfl rfl ?_
                    refine ps_st (S' := (272, [(0, .ref m0), (1, .int (nI p))], [.int 25, .ref m0], M1)) rfl rfl rfl ?_
                    refine ps_st (S' := (273, [(0, .ref m0), (1, .int (nI p))], [.int (nI p), .int 25, .ref m0], M1)) rfl rfl rfl ?_
                    refine ps_st (S' := (274, [(0, .ref m0), (1, .int (nI p))], [.int 4, .int (nI p), .int 25, .ref m0], M1)) rfl rfl rfl ?_
                    refine ps_st (S' := (275, [(0, .ref m0), (1, .int (nI p))], [.int ((nI p) + 4), .int 25, .ref m0], M1)) rfl rfl rfl ?_
                    rw [nI_add1 (p := p) (k := 4) (x := 4) rfl (by omega)]
                    show pl _ _ _ (_, [(0, .ref m0), (1, .int (nI p))], [.int (nI (p + 4)), .int 25, .ref m0], M1) _
                    refine pl_call (a := [.ref m0, .int 25, .int (nI (p + 4))]) (rest := []) rfl rfl rfl (rd_wrong (x1 := 25) (x2 := (nI (p + 4))) hR1) (fun v334 M335 q336 => ?_)
                    obtain ⟨I337, R338, rfl, hR339, hI340, hX341, hi342, hi343⟩ := q336
                    have hi344 := (hI340 51 (by decide)).trans hl51
                    have hi345 := (hI340 52 (by decide)).trans hl52
                    have hi346 := (hI340 53 (by decide)).trans hl53
                    have hi347 := (hI340 58 (by decide)).trans hl58
                    have hi348 := (hI340 56 (by decide)).trans hl56
                    have hi349 := (hI340 26 (by decide)).trans hl26
                    have hi350 := (hI340 9 (by decide)).trans hl9
                    have hi351 := (hI340 10 (by decide)).trans hl10
                    have hF_352 := hF1.mono (cIx hI340 (by decide)) (cRx hX341 (by decide))
                    have hY_353 := hY1.mono (cIx hI340 (by decide)) (cRx hX341 (by decide))
                    have hP_354 := hP1.mono (cIx hI340 (by decide)) (cRx hX341 (by decide))
                    have hK_355 := hK1.mono (cIx hI340 (by decide)) (cRx hX341 (by decide))
                    have hN9_356 := hN91.mono (cIx hI340 (by decide)) (cRx hX341 (by decide))
                    have hEI357 := hEI1.tr hI340 (by decide)
                    have hER358 := hER1.tr hX341 (by decide)
                    show pl _ _ _ (278, [(0, .ref m0), (1, .int (nI p))], [.int 0], M335) _
                    exact ps_ret rfl rfl (Or.inr ⟨(25, p + 4), I337, R338, by
                        have h25 : mdsN f n E (by2 f (p + 2)) (by2 f (p + 4)) (apN f n E p) = 0 := by
                          have m0_ := mds_0 (f := f) (n := n) (E := E) (x := by2 f (p + 2)) (d := by2 f (p + 4)) (w := apN f n E p)
                          have a0_ := ap_9 (f := f) (n := n) (E := E) (p := p)
                          omega
                        rw [← hs, mtS_st (i := k) (by omega), ← hpk, mh_25 hnm hfl h25], rfl, hR339, hEI357, hER358, hi342, hi343⟩)
                · have c_254 : ¬ (¬ (nI (aN (by2 f p) 8)) = 0) := of_decide_eq_false c_254
                  have n_254 : aN (by2 f p) 8 = 0 := (eq_nI (p := aN (by2 f p) 8) (n := 0) (Nat.lt_of_le_of_lt (an_le _ _) (by decide)) (by decide)).mp (Decidable.not_not.mp c_254)
                  refine ps_st (S' := (258, [(0, .ref m0), (1, .int (nI p)), (2, .int (nI (by2 f pM))), (3, .int (nI f0)), (4, .int (nI ib)), (5, .int (nI k)), (6, .int (nI (by2 f p))), (7, .int (nI a)), (9, .int (nI i9)), (10, .int (nI s221))], [.int 1, .int (nI (argN (tX f n E (by2 f (p + 4)))))], M1)) rfl rfl rfl ?_
                  refine ps_st (S' := (262, [(0, .ref m0), (1, .int (nI p)), (2, .int (nI (by2 f pM))), (3, .int (nI f0)), (4, .int (nI ib)), (5, .int (nI k)), (6, .int (nI (by2 f p))), (7, .int (nI a)), (9, .int (nI i9)), (10, .int (nI s221))], [.int 1, .int (nI (argN (tX f n E (by2 f (p + 4)))))], M1)) rfl rfl rfl ?_
                  refine ps_st (S' := (263, [(0, .ref m0), (1, .int (nI p)), (2, .int (nI (by2 f pM))), (3, .int (nI f0)), (4, .int (nI ib)), (5, .int (nI k)), (6, .int (nI (by2 f p))), (7, .int (nI a)), (9, .int (nI i9)), (10, .int (nI s221))], [.int ((nI (argN (tX f n E (by2 f (p + 4))))) + 1)], M1)) rfl rfl rfl ?_
                  rw [nI_add1 (p := argN (tX f n E (by2 f (p + 4)))) (k := 1) (x := 1) rfl (by omega)]
                  show pl _ _ _ (_, [(0, .ref m0), (1, .int (nI p)), (2, .int (nI (by2 f pM))), (3, .int (nI f0)), (4, .int (nI ib)), (5, .int (nI k)), (6, .int (nI (by2 f p))), (7, .int (nI a)), (9, .int (nI i9)), (10, .int (nI s221))], [.int (nI (argN (tX f n E (by2 f (p + 4))) + 1))], M1) _
                  refine ps_st (S' := (266, [(0, .ref m0), (1, .int (nI p)), (2, .int (nI (by2 f pM))), (3, .int (nI f0)), (4, .int (nI ib)), (5, .int (nI k)), (6, .int (nI (by2 f p))), (7, .int (nI a)), (9, .int (nI i9)), (10, .int (nI s221))], [.int 255, .int (nI (argN (tX f n E (by2 f (p + 4))) + 1))], M1)) rfl rfl rfl ?_
                  refine ps_if2 (S1 := (279, [(0, .ref m0), (1, .int (nI p)), (2, .int (nI (by2 f pM))), (3, .int (nI f0)), (4, .int (nI ib)), (5, .int (nI k)), (6, .int (nI (by2 f p))), (7, .int (nI a)), (9, .int (nI i9)), (10, .int (nI s221))], [], M1)) (S2 := (269, [(0, .ref m0), (1, .int (nI p))], [], M1)) rfl rfl rfl (fun c_266 => ?_) (fun c_266 => ?_)
                  · have c_266 : (nI (argN (tX f n E (by2 f (p + 4))) + 1)) ≤ 255 := of_decide_eq_true c_266
                    have n_266 : argN (tX f n E (by2 f (p + 4))) + 1 ≤ 255 := (le_nI (p := argN (tX f n E (by2 f (p + 4))) + 1) (n := 255) (by omega) (by decide)).mp c_266
                    have hds : ¬ mdsN f n E (by2 f (p + 2)) (by2 f (p + 4)) (apN f n E p) = 0 := by
                      have m0_ := mds_0 (f := f) (n := n) (E := E) (x := by2 f (p + 2)) (d := by2 f (p + 4)) (w := apN f n E p)
                      have a0_ := ap_9 (f := f) (n := n) (E := E) (p := p)
                      omega
                    exact ih.2.2.1 (k) (p) (ib) (a) (i9) (s221) M1 I1 R1 hR1 hEI1 hER1 hl51 hl52 hl53 hl58 hl56 hl26 hl9 hl10 hF1 hY1 hP1 hK1 hN91 (hk0) (hpk) (hpe) (hs) (hib) (hsa) (ht1) (hnm) (hfl) (h9c) (q206_s) (by omega) (by omega) (hds)
                  · have c_266 : ¬ ((nI (argN (tX f n E (by2 f (p + 4))) + 1)) ≤ 255) := of_decide_eq_false c_266
                    have n_266 : ¬ (argN (tX f n E (by2 f (p + 4))) + 1 ≤ 255) := fun h9 => c_266 ((le_nI (p := argN (tX f n E (by2 f (p + 4))) + 1) (n := 255) (by omega) (by decide)).mpr h9)
                    refine ps_st (S' := (270, [(0, .ref m0), (1, .int (nI p))], [.ref m0], M1)) rfl rfl rfl ?_
                    refine ps_st (S' := (272, [(0, .ref m0), (1, .int (nI p))], [.int 25, .ref m0], M1)) rfl rfl rfl ?_
                    refine ps_st (S' := (273, [(0, .ref m0), (1, .int (nI p))], [.int (nI p), .int 25, .ref m0], M1)) rfl rfl rfl ?_
                    refine ps_st (S' := (274, [(0, .ref m0), (1, .int (nI p))], [.int 4, .int (nI p), .int 25, .ref m0], M1)) rfl rfl rfl ?_
                    refine ps_st (S' := (275, [(0, .ref m0), (1, .int (nI p))], [.int ((nI p) + 4), .int 25, .ref m0], M1)) rfl rfl rfl ?_
                    rw [nI_add1 (p := p) (k := 4) (x := 4) rfl (by omega)]
                    show pl _ _ _ (_, [(0, .ref m0), (1, .int (nI p))], [.int (nI (p + 4)), .int 25, .ref m0], M1) _
                    refine pl_call (a := [.ref m0, .int 25, .int (nI (p + 4))]) (rest := []) rfl rfl rfl (rd_wrong (x1 := 25) (x2 := (nI (p + 4))) hR1) (fun v359 M360 q361 => ?_)
                    obtain ⟨I362, R363, rfl, hR364, hI365, hX366, hi367, hi368⟩ := q361
                    have hi369 := (hI365 51 (by decide)).trans hl51
                    have hi370 := (hI365 52 (by decide)).trans hl52
                    have hi371 := (hI365 53 (by decide)).trans hl53
                    have hi372 := (hI365 58 (by decide)).trans hl58
                    have hi373 := (hI365 56 (by decide)).trans hl56
                    have hi374 := (hI365 26 (by decide)).trans hl26
                    have hi375 := (hI365 9 (by decide)).trans hl9
                    have hi376 := (hI365 10 (by decide)).trans hl10
                    have hF_377 := hF1.mono (cIx hI365 (by decide)) (cRx hX366 (by decide))
                    have hY_378 := hY1.mono (cIx hI365 (by decide)) (cRx hX366 (by decide))
                    have hP_379 := hP1.mono (cIx hI365 (by decide)) (cRx hX366 (by decide))
                    have hK_380 := hK1.mono (cIx hI365 (by decide)) (cRx hX366 (by decide))
                    have hN9_381 := hN91.mono (cIx hI365 (by decide)) (cRx hX366 (by decide))
                    have hEI382 := hEI1.tr hI365 (by decide)
                    have hER383 := hER1.tr hX366 (by decide)
                    show pl _ _ _ (278, [(0, .ref m0), (1, .int (nI p))], [.int 0], M360) _
                    exact ps_ret rfl rfl (Or.inr ⟨(25, p + 4), I362, R363, by
                        have h25 : mdsN f n E (by2 f (p + 2)) (by2 f (p + 4)) (apN f n E p) = 0 := by
                          have m0_ := mds_0 (f := f) (n := n) (E := E) (x := by2 f (p + 2)) (d := by2 f (p + 4)) (w := apN f n E p)
                          have a0_ := ap_9 (f := f) (n := n) (E := E) (p := p)
                          omega
                        rw [← hs, mtS_st (i := k) (by omega), ← hpk, mh_25 hnm hfl h25], rfl, hR364, hEI382, hER383, hi367, hi368⟩)
      · skip
        intro k p ib a i9 d M1 I1 R1 hR1 hEI1 hER1 hl51 hl52 hl53 hl58 hl56 hl26 hl9 hl10 hF1 hY1 hP1 hK1 hN91 hk0 hpk hpe hs hib hsa ht1 hnm hfl h9c hsd ht2 hmt hds
        have hn := hF1.1
        have hu9 := by2_lt f pM
        have htl := hY1.1.2.2.1
        have hBl := hMB.1
        have hi7 := hsi.1
        have hc7 := hsc.1
        have hu8 := by2_lt f p
        have hsa1 := hsa.1
        have hsd1 := hsd.1
        refine ps_st1 (S' := (280, [(0, .ref m0), (1, .int (nI p)), (2, .int (nI (by2 f pM))), (3, .int (nI f0)), (4, .int (nI ib)), (5, .int (nI k)), (6, .int (nI (by2 f p))), (7, .int (nI a)), (9, .int (nI i9)), (10, .int (nI d))], [.ref m0], M1)) rfl rfl rfl ?_
        refine pr_int (j := 26) (S' := (283, [(0, .ref m0), (1, .int (nI p)), (2, .int (nI (by2 f pM))), (3, .int (nI f0)), (4, .int (nI ib)), (5, .int (nI k)), (6, .int (nI (by2 f p))), (7, .int (nI a)), (9, .int (nI i9)), (10, .int (nI d))], [.int (nI (f0 + k))], M1)) rfl hR1 rfl hl26 rfl ?_
        refine ps_st (S' := (285, [(11, .int (nI (f0 + k))), (0, .ref m0), (1, .int (nI p)), (2, .int (nI (by2 f pM))), (3, .int (nI f0)), (4, .int (nI ib)), (5, .int (nI k)), (6, .int (nI (by2 f p))), (7, .int (nI a)), (9, .int (nI i9)), (10, .int (nI d))], [], M1)) rfl rfl rfl ?_
        refine ps_st (S' := (286, [(11, .int (nI (f0 + k))), (0, .ref m0), (1, .int (nI p)), (2, .int (nI (by2 f pM))), (3, .int (nI f0)), (4, .int (nI ib)), (5, .int (nI k)), (6, .int (nI (by2 f p))), (7, .int (nI a)), (9, .int (nI i9)), (10, .int (nI d))], [.ref m0], M1)) rfl rfl rfl ?_
        refine pr_ref (j := 34) (S' := (289, [(11, .int (nI (f0 + k))), (0, .ref m0), (1, .int (nI p)), (2, .int (nI (by2 f pM))), (3, .int (nI f0)), (4, .int (nI ib)), (5, .int (nI k)), (6, .int (nI (by2 f p))), (7, .int (nI a)), (9, .int (nI i9)), (10, .int (nI d))], [.ref (q 34)], M1)) rfl hR1 rfl rfl ?_
        refine ps_st (S' := (291, [(11, .int (nI (f0 + k))), (0, .ref m0), (1, .int (nI p)), (2, .int (nI (by2 f pM))), (3, .int (nI f0)), (4, .int (nI ib)), (5, .int (nI k)), (6, .int (nI (by2 f p))), (7, .int (nI a)), (9, .int (nI i9)), (10, .int (nI d))], [.int (nI (f0 + k)), .ref (q 34)], M1)) rfl rfl rfl ?_
        refine ps_st (S' := (293, [(11, .int (nI (f0 + k))), (0, .ref m0), (1, .int (nI p)), (2, .int (nI (by2 f pM))), (3, .int (nI f0)), (4, .int (nI ib)), (5, .int (nI k)), (6, .int (nI (by2 f p))), (7, .int (nI a)), (9, .int (nI i9)), (10, .int (nI d))], [.int (nI (by2 f p)), .int (nI (f0 + k)), .ref (q 34)], M1)) rfl rfl rfl ?_
        refine pr_st (a := 34) (j := f0 + k) rfl hR1 rfl (by omega) (fun M384 R385 i1_293 hR386 hS387 => ?_)
        have hF_388 := hF1.mono (fun _ _ => rfl) (rRx hS387 (by decide))
        have hY_389 := hY1.mono (fun _ _ => rfl) (rRx hS387 (by decide))
        have hP_390 := hP1.mono (fun _ _ => rfl) (rRx hS387 (by decide))
        have hK_391 := hK1.mono (fun _ _ => rfl) (rRx hS387 (by decide))
        have hN9_392 := hN91.mono (fun _ _ => rfl) (rRx hS387 (by decide))
        have hER393 := hER1.st hS387 (by decide)
        show pl _ _ _ (294, [(11, .int (nI (f0 + k))), (0, .ref m0), (1, .int (nI p)), (2, .int (nI (by2 f pM))), (3, .int (nI f0)), (4, .int (nI ib)), (5, .int (nI k)), (6, .int (nI (by2 f p))), (7, .int (nI a)), (9, .int (nI i9)), (10, .int (nI d))], [], M384) _
        have c34_394 : CE 34 (f0 + k) (nI (by2 f p)) I1 R385 := CE.st hS387
        refine ps_st (S' := (295, [(11, .int (nI (f0 + k))), (0, .ref m0), (1, .int (nI p)), (2, .int (nI (by2 f pM))), (3, .int (nI f0)), (4, .int (nI ib)), (5, .int (nI k)), (6, .int (nI (by2 f p))), (7, .int (nI a)), (9, .int (nI i9)), (10, .int (nI d))], [.ref m0], M384)) rfl rfl rfl ?_
        refine pr_ref (j := 35) (S' := (298, [(11, .int (nI (f0 + k))), (0, .ref m0), (1, .int (nI p)), (2, .int (nI (by2 f pM))), (3, .int (nI f0)), (4, .int (nI ib)), (5, .int (nI k)), (6, .int (nI (by2 f p))), (7, .int (nI a)), (9, .int (nI i9)), (10, .int (nI d))], [.ref (q 35)], M384)) rfl hR386 rfl rfl ?_
        refine ps_st (S' := (300, [(11, .int (nI (f0 + k))), (0, .ref m0), (1, .int (nI p)), (2, .int (nI (by2 f pM))), (3, .int (nI f0)), (4, .int (nI ib)), (5, .int (nI k)), (6, .int (nI (by2 f p))), (7, .int (nI a)), (9, .int (nI i9)), (10, .int (nI d))], [.int (nI (f0 + k)), .ref (q 35)], M384)) rfl rfl rfl ?_
        refine ps_st (S' := (302, [(11, .int (nI (f0 + k))), (0, .ref m0), (1, .int (nI p)), (2, .int (nI (by2 f pM))), (3, .int (nI f0)), (4, .int (nI ib)), (5, .int (nI k)), (6, .int (nI (by2 f p))), (7, .int (nI a)), (9, .int (nI i9)), (10, .int (nI d))], [.int (nI a), .int (nI (f0 + k)), .ref (q 35)], M384)) rfl rfl rfl ?_
        refine pr_st (a := 35) (j := f0 + k) rfl hR386 rfl (by omega) (fun M395 R396 i1_302 hR397 hS398 => ?_)
        have hF_399 := hF_388.mono (fun _ _ => rfl) (rRx hS398 (by decide))
        have hY_400 := hY_389.mono (fun _ _ => rfl) (rRx hS398 (by decide))
        have hP_401 := hP_390.mono (fun _ _ => rfl) (rRx hS398 (by decide))
        have hK_402 := hK_391.mono (fun _ _ => rfl) (rRx hS398 (by decide))
        have c34_403 := c34_394.mono (fun _ _ => rfl) (rRx hS398 (by decide))
        have hER404 := hER393.st hS398 (by decide)
        show pl _ _ _ (303, [(11, .int (nI (f0 + k))), (0, .ref m0), (1, .int (nI p)), (2, .int (nI (by2 f pM))), (3, .int (nI f0)), (4, .int (nI ib)), (5, .int (nI k)), (6, .int (nI (by2 f p))), (7, .int (nI a)), (9, .int (nI i9)), (10, .int (nI d))], [], M395) _
        have c35_405 : CE 35 (f0 + k) (nI a) I1 R396 := CE.st hS398
        have hN9_406 := FN.st (I' := I1) hN9_392 hS398 rfl
        refine ps_st (S' := (304, [(11, .int (nI (f0 + k))), (0, .ref m0), (1, .int (nI p)), (2, .int (nI (by2 f pM))), (3, .int (nI f0)), (4, .int (nI ib)), (5, .int (nI k)), (6, .int (nI (by2 f p))), (7, .int (nI a)), (9, .int (nI i9)), (10, .int (nI d))], [.ref m0], M395)) rfl rfl rfl ?_
        refine pr_ref (j := 36) (S' := (307, [(11, .int (nI (f0 + k))), (0, .ref m0), (1, .int (nI p)), (2, .int (nI (by2 f pM))), (3, .int (nI f0)), (4, .int (nI ib)), (5, .int (nI k)), (6, .int (nI (by2 f p))), (7, .int (nI a)), (9, .int (nI i9)), (10, .int (nI d))], [.ref (q 36)], M395)) rfl hR397 rfl rfl ?_
        refine ps_st (S' := (309, [(11, .int (nI (f0 + k))), (0, .ref m0), (1, .int (nI p)), (2, .int (nI (by2 f pM))), (3, .int (nI f0)), (4, .int (nI ib)), (5, .int (nI k)), (6, .int (nI (by2 f p))), (7, .int (nI a)), (9, .int (nI i9)), (10, .int (nI d))], [.int (nI (f0 + k)), .ref (q 36)], M395)) rfl rfl rfl ?_
        refine ps_st (S' := (311, [(11, .int (nI (f0 + k))), (0, .ref m0), (1, .int (nI p)), (2, .int (nI (by2 f pM))), (3, .int (nI f0)), (4, .int (nI ib)), (5, .int (nI k)), (6, .int (nI (by2 f p))), (7, .int (nI a)), (9, .int (nI i9)), (10, .int (nI d))], [.int (nI d), .int (nI (f0 + k)), .ref (q 36)], M395)) rfl rfl rfl ?_
        refine pr_st (a := 36) (j := f0 + k) rfl hR397 rfl (by omega) (fun M407 R408 i1_311 hR409 hS410 => ?_)
        have hF_411 := hF_399.mono (fun _ _ => rfl) (rRx hS410 (by decide))
        have hY_412 := hY_400.mono (fun _ _ => rfl) (rRx hS410 (by decide))
        have hP_413 := hP_401.mono (fun _ _ => rfl) (rRx hS410 (by decide))
        have hK_414 := hK_402.mono (fun _ _ => rfl) (rRx hS410 (by decide))
        have c34_415 := c34_403.mono (fun _ _ => rfl) (rRx hS410 (by decide))
        have c35_416 := c35_405.mono (fun _ _ => rfl) (rRx hS410 (by decide))
        have hER417 := hER404.st hS410 (by decide)
        show pl _ _ _ (312, [(11, .int (nI (f0 + k))), (0, .ref m0), (1, .int (nI p)), (2, .int (nI (by2 f pM))), (3, .int (nI f0)), (4, .int (nI ib)), (5, .int (nI k)), (6, .int (nI (by2 f p))), (7, .int (nI a)), (9, .int (nI i9)), (10, .int (nI d))], [], M407) _
        have c36_418 : CE 36 (f0 + k) (nI d) I1 R408 := CE.st hS410
        have hN9_419 := FN.st (I' := I1) hN9_406 hS410 rfl
        refine ps_st (S' := (313, [(11, .int (nI (f0 + k))), (0, .ref m0), (1, .int (nI p)), (2, .int (nI (by2 f pM))), (3, .int (nI f0)), (4, .int (nI ib)), (5, .int (nI k)), (6, .int (nI (by2 f p))), (7, .int (nI a)), (9, .int (nI i9)), (10, .int (nI d))], [.ref m0], M407)) rfl rfl rfl ?_
        refine pr_ref (j := 37) (S' := (316, [(11, .int (nI (f0 + k))), (0, .ref m0), (1, .int (nI p)), (2, .int (nI (by2 f pM))), (3, .int (nI f0)), (4, .int (nI ib)), (5, .int (nI k)), (6, .int (nI (by2 f p))), (7, .int (nI a)), (9, .int (nI i9)), (10, .int (nI d))], [.ref (q 37)], M407)) rfl hR409 rfl rfl ?_
        refine ps_st (S' := (318, [(11, .int (nI (f0 + k))), (0, .ref m0), (1, .int (nI p)), (2, .int (nI (by2 f pM))), (3, .int (nI f0)), (4, .int (nI ib)), (5, .int (nI k)), (6, .int (nI (by2 f p))), (7, .int (nI a)), (9, .int (nI i9)), (10, .int (nI d))], [.int (nI (f0 + k)), .ref (q 37)], M407)) rfl rfl rfl ?_
        refine ps_st (S' := (319, [(11, .int (nI (f0 + k))), (0, .ref m0), (1, .int (nI p)), (2, .int (nI (by2 f pM))), (3, .int (nI f0)), (4, .int (nI ib)), (5, .int (nI k)), (6, .int (nI (by2 f p))), (7, .int (nI a)), (9, .int (nI i9)), (10, .int (nI d))], [.int (-1), .int (nI (f0 + k)), .ref (q 37)], M407)) rfl rfl rfl ?_
        refine pr_st (a := 37) (j := f0 + k) rfl hR409 rfl (by omega) (fun M420 R421 i1_319 hR422 hS423 => ?_)
        have hF_424 := hF_411.mono (fun _ _ => rfl) (rRx hS423 (by decide))
        have hY_425 := hY_412.mono (fun _ _ => rfl) (rRx hS423 (by decide))
        have hP_426 := hP_413.mono (fun _ _ => rfl) (rRx hS423 (by decide))
        have hK_427 := hK_414.mono (fun _ _ => rfl) (rRx hS423 (by decide))
        have c34_428 := c34_415.mono (fun _ _ => rfl) (rRx hS423 (by decide))
        have c35_429 := c35_416.mono (fun _ _ => rfl) (rRx hS423 (by decide))
        have c36_430 := c36_418.mono (fun _ _ => rfl) (rRx hS423 (by decide))
        have hN9_431 := hN9_419.mono (fun _ _ => rfl) (rRx hS423 (by decide))
        have hER432 := hER417.st hS423 (by decide)
        show pl _ _ _ (320, [(11, .int (nI (f0 + k))), (0, .ref m0), (1, .int (nI p)), (2, .int (nI (by2 f pM))), (3, .int (nI f0)), (4, .int (nI ib)), (5, .int (nI k)), (6, .int (nI (by2 f p))), (7, .int (nI a)), (9, .int (nI i9)), (10, .int (nI d))], [], M420) _
        have hC_433 : CX 0 (f0 + k) I1 R421 := by unfold CX; rw [if_pos rfl, hS423, rset_at]
        refine ps_st (S' := (321, [(11, .int (nI (f0 + k))), (0, .ref m0), (1, .int (nI p)), (2, .int (nI (by2 f pM))), (3, .int (nI f0)), (4, .int (nI ib)), (5, .int (nI k)), (6, .int (nI (by2 f p))), (7, .int (nI a)), (9, .int (nI i9)), (10, .int (nI d))], [.ref m0], M420)) rfl rfl rfl ?_
        refine pr_ref (j := 38) (S' := (324, [(11, .int (nI (f0 + k))), (0, .ref m0), (1, .int (nI p)), (2, .int (nI (by2 f pM))), (3, .int (nI f0)), (4, .int (nI ib)), (5, .int (nI k)), (6, .int (nI (by2 f p))), (7, .int (nI a)), (9, .int (nI i9)), (10, .int (nI d))], [.ref (q 38)], M420)) rfl hR422 rfl rfl ?_
        refine ps_st (S' := (326, [(11, .int (nI (f0 + k))), (0, .ref m0), (1, .int (nI p)), (2, .int (nI (by2 f pM))), (3, .int (nI f0)), (4, .int (nI ib)), (5, .int (nI k)), (6, .int (nI (by2 f p))), (7, .int (nI a)), (9, .int (nI i9)), (10, .int (nI d))], [.int (nI (f0 + k)), .ref (q 38)], M420)) rfl rfl rfl ?_
        refine ps_st (S' := (327, [(11, .int (nI (f0 + k))), (0, .ref m0), (1, .int (nI p)), (2, .int (nI (by2 f pM))), (3, .int (nI f0)), (4, .int (nI ib)), (5, .int (nI k)), (6, .int (nI (by2 f p))), (7, .int (nI a)), (9, .int (nI i9)), (10, .int (nI d))], [.int 0, .int (nI (f0 + k)), .ref (q 38)], M420)) rfl rfl rfl ?_
        refine pr_st (a := 38) (j := f0 + k) rfl hR422 rfl (by omega) (fun M434 R435 i1_327 hR436 hS437 => ?_)
        have hF_438 := hF_424.mono (fun _ _ => rfl) (rRx hS437 (by decide))
        have hY_439 := hY_425.mono (fun _ _ => rfl) (rRx hS437 (by decide))
        have hP_440 := hP_426.mono (fun _ _ => rfl) (rRx hS437 (by decide))
        have hK_441 := hK_427.mono (fun _ _ => rfl) (rRx hS437 (by decide))
        have c34_442 := c34_428.mono (fun _ _ => rfl) (rRx hS437 (by decide))
        have c35_443 := c35_429.mono (fun _ _ => rfl) (rRx hS437 (by decide))
        have c36_444 := c36_430.mono (fun _ _ => rfl) (rRx hS437 (by decide))
        have hN9_445 := hN9_431.mono (fun _ _ => rfl) (rRx hS437 (by decide))
        have hC_446 := hC_433.mono (fun _ _ => rfl) (rRx hS437 (by decide))
        have hER447 := hER432.st hS437 (by decide)
        show pl _ _ _ (328, [(11, .int (nI (f0 + k))), (0, .ref m0), (1, .int (nI p)), (2, .int (nI (by2 f pM))), (3, .int (nI f0)), (4, .int (nI ib)), (5, .int (nI k)), (6, .int (nI (by2 f p))), (7, .int (nI a)), (9, .int (nI i9)), (10, .int (nI d))], [], M434) _
        refine ps_st (S' := (329, [(11, .int (nI (f0 + k))), (0, .ref m0), (1, .int (nI p)), (2, .int (nI (by2 f pM))), (3, .int (nI f0)), (4, .int (nI ib)), (5, .int (nI k)), (6, .int (nI (by2 f p))), (7, .int (nI a)), (9, .int (nI i9)), (10, .int (nI d))], [.ref m0], M434)) rfl rfl rfl ?_
        refine pr_ref (j := 39) (S' := (332, [(11, .int (nI (f0 + k))), (0, .ref m0), (1, .int (nI p)), (2, .int (nI (by2 f pM))), (3, .int (nI f0)), (4, .int (nI ib)), (5, .int (nI k)), (6, .int (nI (by2 f p))), (7, .int (nI a)), (9, .int (nI i9)), (10, .int (nI d))], [.ref (q 39)], M434)) rfl hR436 rfl rfl ?_
        refine ps_st (S' := (334, [(11, .int (nI (f0 + k))), (0, .ref m0), (1, .int (nI p)), (2, .int (nI (by2 f pM))), (3, .int (nI f0)), (4, .int (nI ib)), (5, .int (nI k)), (6, .int (nI (by2 f p))), (7, .int (nI a)), (9, .int (nI i9)), (10, .int (nI d))], [.int (nI (f0 + k)), .ref (q 39)], M434)) rfl rfl rfl ?_
        refine ps_st (S' := (335, [(11, .int (nI (f0 + k))), (0, .ref m0), (1, .int (nI p)), (2, .int (nI (by2 f pM))), (3, .int (nI f0)), (4, .int (nI ib)), (5, .int (nI k)), (6, .int (nI (by2 f p))), (7, .int (nI a)), (9, .int (nI i9)), (10, .int (nI d))], [.int 0, .int (nI (f0 + k)), .ref (q 39)], M434)) rfl rfl rfl ?_
        refine pr_st (a := 39) (j := f0 + k) rfl hR436 rfl (by omega) (fun M448 R449 i1_335 hR450 hS451 => ?_)
        have hF_452 := hF_438.mono (fun _ _ => rfl) (rRx hS451 (by decide))
        have hY_453 := hY_439.mono (fun _ _ => rfl) (rRx hS451 (by decide))
        have hP_454 := hP_440.mono (fun _ _ => rfl) (rRx hS451 (by decide))
        have hK_455 := hK_441.mono (fun _ _ => rfl) (rRx hS451 (by decide))
        have c34_456 := c34_442.mono (fun _ _ => rfl) (rRx hS451 (by decide))
        have c35_457 := c35_443.mono (fun _ _ => rfl) (rRx hS451 (by decide))
        have c36_458 := c36_444.mono (fun _ _ => rfl) (rRx hS451 (by decide))
        have hN9_459 := hN9_445.mono (fun _ _ => rfl) (rRx hS451 (by decide))
        have hC_460 := hC_446.mono (fun _ _ => rfl) (rRx hS451 (by decide))
        have hER461 := hER447.st hS451 (by decide)
        show pl _ _ _ (336, [(11, .int (nI (f0 + k))), (0, .ref m0), (1, .int (nI p)), (2, .int (nI (by2 f pM))), (3, .int (nI f0)), (4, .int (nI ib)), (5, .int (nI k)), (6, .int (nI (by2 f p))), (7, .int (nI a)), (9, .int (nI i9)), (10, .int (nI d))], [], M448) _
        refine ps_st (S' := (337, [(11, .int (nI (f0 + k))), (0, .ref m0), (1, .int (nI p)), (2, .int (nI (by2 f pM))), (3, .int (nI f0)), (4, .int (nI ib)), (5, .int (nI k)), (6, .int (nI (by2 f p))), (7, .int (nI a)), (9, .int (nI i9)), (10, .int (nI d))], [.ref m0], M448)) rfl rfl rfl ?_
        refine pr_ref (j := 40) (S' := (340, [(11, .int (nI (f0 + k))), (0, .ref m0), (1, .int (nI p)), (2, .int (nI (by2 f pM))), (3, .int (nI f0)), (4, .int (nI ib)), (5, .int (nI k)), (6, .int (nI (by2 f p))), (7, .int (nI a)), (9, .int (nI i9)), (10, .int (nI d))], [.ref (q 40)], M448)) rfl hR450 rfl rfl ?_
        refine ps_st (S' := (342, [(11, .int (nI (f0 + k))), (0, .ref m0), (1, .int (nI p)), (2, .int (nI (by2 f pM))), (3, .int (nI f0)), (4, .int (nI ib)), (5, .int (nI k)), (6, .int (nI (by2 f p))), (7, .int (nI a)), (9, .int (nI i9)), (10, .int (nI d))], [.int (nI (f0 + k)), .ref (q 40)], M448)) rfl rfl rfl ?_
        refine ps_st (S' := (343, [(11, .int (nI (f0 + k))), (0, .ref m0), (1, .int (nI p)), (2, .int (nI (by2 f pM))), (3, .int (nI f0)), (4, .int (nI ib)), (5, .int (nI k)), (6, .int (nI (by2 f p))), (7, .int (nI a)), (9, .int (nI i9)), (10, .int (nI d))], [.int 0, .int (nI (f0 + k)), .ref (q 40)], M448)) rfl rfl rfl ?_
        refine pr_st (a := 40) (j := f0 + k) rfl hR450 rfl (by omega) (fun M462 R463 i1_343 hR464 hS465 => ?_)
        have hF_466 := hF_452.mono (fun _ _ => rfl) (rRx hS465 (by decide))
        have hY_467 := hY_453.mono (fun _ _ => rfl) (rRx hS465 (by decide))
        have hP_468 := hP_454.mono (fun _ _ => rfl) (rRx hS465 (by decide))
        have hK_469 := hK_455.mono (fun _ _ => rfl) (rRx hS465 (by decide))
        have c34_470 := c34_456.mono (fun _ _ => rfl) (rRx hS465 (by decide))
        have c35_471 := c35_457.mono (fun _ _ => rfl) (rRx hS465 (by decide))
        have c36_472 := c36_458.mono (fun _ _ => rfl) (rRx hS465 (by decide))
        have hN9_473 := hN9_459.mono (fun _ _ => rfl) (rRx hS465 (by decide))
        have hC_474 := hC_460.mono (fun _ _ => rfl) (rRx hS465 (by decide))
        have hER475 := hER461.st hS465 (by decide)
        show pl _ _ _ (344, [(11, .int (nI (f0 + k))), (0, .ref m0), (1, .int (nI p)), (2, .int (nI (by2 f pM))), (3, .int (nI f0)), (4, .int (nI ib)), (5, .int (nI k)), (6, .int (nI (by2 f p))), (7, .int (nI a)), (9, .int (nI i9)), (10, .int (nI d))], [], M462) _
        refine ps_st (S' := (345, [(11, .int (nI (f0 + k))), (0, .ref m0), (1, .int (nI p)), (2, .int (nI (by2 f pM))), (3, .int (nI f0)), (4, .int (nI ib)), (5, .int (nI k)), (6, .int (nI (by2 f p))), (7, .int (nI a)), (9, .int (nI i9)), (10, .int (nI d))], [.ref m0], M462)) rfl rfl rfl ?_
        refine pr_ref (j := 42) (S' := (348, [(11, .int (nI (f0 + k))), (0, .ref m0), (1, .int (nI p)), (2, .int (nI (by2 f pM))), (3, .int (nI f0)), (4, .int (nI ib)), (5, .int (nI k)), (6, .int (nI (by2 f p))), (7, .int (nI a)), (9, .int (nI i9)), (10, .int (nI d))], [.ref (q 42)], M462)) rfl hR464 rfl rfl ?_
        refine ps_st (S' := (350, [(11, .int (nI (f0 + k))), (0, .ref m0), (1, .int (nI p)), (2, .int (nI (by2 f pM))), (3, .int (nI f0)), (4, .int (nI ib)), (5, .int (nI k)), (6, .int (nI (by2 f p))), (7, .int (nI a)), (9, .int (nI i9)), (10, .int (nI d))], [.int (nI (f0 + k)), .ref (q 42)], M462)) rfl rfl rfl ?_
        refine ps_st (S' := (351, [(11, .int (nI (f0 + k))), (0, .ref m0), (1, .int (nI p)), (2, .int (nI (by2 f pM))), (3, .int (nI f0)), (4, .int (nI ib)), (5, .int (nI k)), (6, .int (nI (by2 f p))), (7, .int (nI a)), (9, .int (nI i9)), (10, .int (nI d))], [.int 0, .int (nI (f0 + k)), .ref (q 42)], M462)) rfl rfl rfl ?_
        refine pr_st (a := 42) (j := f0 + k) rfl hR464 rfl (by omega) (fun M476 R477 i1_351 hR478 hS479 => ?_)
        have hF_480 := hF_466.mono (fun _ _ => rfl) (rRx hS479 (by decide))
        have hY_481 := hY_467.mono (fun _ _ => rfl) (rRx hS479 (by decide))
        have hP_482 := hP_468.mono (fun _ _ => rfl) (rRx hS479 (by decide))
        have hK_483 := hK_469.mono (fun _ _ => rfl) (rRx hS479 (by decide))
        have c34_484 := c34_470.mono (fun _ _ => rfl) (rRx hS479 (by decide))
        have c35_485 := c35_471.mono (fun _ _ => rfl) (rRx hS479 (by decide))
        have c36_486 := c36_472.mono (fun _ _ => rfl) (rRx hS479 (by decide))
        have hN9_487 := hN9_473.mono (fun _ _ => rfl) (rRx hS479 (by decide))
        have hC_488 := hC_474.mono (fun _ _ => rfl) (rRx hS479 (by decide))
        have hER489 := hER475.st hS479 (by decide)
        show pl _ _ _ (352, [(11, .int (nI (f0 + k))), (0, .ref m0), (1, .int (nI p)), (2, .int (nI (by2 f pM))), (3, .int (nI f0)), (4, .int (nI ib)), (5, .int (nI k)), (6, .int (nI (by2 f p))), (7, .int (nI a)), (9, .int (nI i9)), (10, .int (nI d))], [], M476) _
        refine ps_st (S' := (353, [(11, .int (nI (f0 + k))), (0, .ref m0), (1, .int (nI p)), (2, .int (nI (by2 f pM))), (3, .int (nI f0)), (4, .int (nI ib)), (5, .int (nI k)), (6, .int (nI (by2 f p))), (7, .int (nI a)), (9, .int (nI i9)), (10, .int (nI d))], [.ref m0], M476)) rfl rfl rfl ?_
        refine pr_ref (j := 43) (S' := (356, [(11, .int (nI (f0 + k))), (0, .ref m0), (1, .int (nI p)), (2, .int (nI (by2 f pM))), (3, .int (nI f0)), (4, .int (nI ib)), (5, .int (nI k)), (6, .int (nI (by2 f p))), (7, .int (nI a)), (9, .int (nI i9)), (10, .int (nI d))], [.ref (q 43)], M476)) rfl hR478 rfl rfl ?_
        refine ps_st (S' := (358, [(11, .int (nI (f0 + k))), (0, .ref m0), (1, .int (nI p)), (2, .int (nI (by2 f pM))), (3, .int (nI f0)), (4, .int (nI ib)), (5, .int (nI k)), (6, .int (nI (by2 f p))), (7, .int (nI a)), (9, .int (nI i9)), (10, .int (nI d))], [.int (nI (f0 + k)), .ref (q 43)], M476)) rfl rfl rfl ?_
        refine ps_st (S' := (359, [(11, .int (nI (f0 + k))), (0, .ref m0), (1, .int (nI p)), (2, .int (nI (by2 f pM))), (3, .int (nI f0)), (4, .int (nI ib)), (5, .int (nI k)), (6, .int (nI (by2 f p))), (7, .int (nI a)), (9, .int (nI i9)), (10, .int (nI d))], [.int 0, .int (nI (f0 + k)), .ref (q 43)], M476)) rfl rfl rfl ?_
        refine pr_st (a := 43) (j := f0 + k) rfl hR478 rfl (by omega) (fun M490 R491 i1_359 hR492 hS493 => ?_)
        have hF_494 := hF_480.mono (fun _ _ => rfl) (rRx hS493 (by decide))
        have hY_495 := hY_481.mono (fun _ _ => rfl) (rRx hS493 (by decide))
        have hP_496 := hP_482.mono (fun _ _ => rfl) (rRx hS493 (by decide))
        have hK_497 := hK_483.mono (fun _ _ => rfl) (rRx hS493 (by decide))
        have c34_498 := c34_484.mono (fun _ _ => rfl) (rRx hS493 (by decide))
        have c35_499 := c35_485.mono (fun _ _ => rfl) (rRx hS493 (by decide))
        have c36_500 := c36_486.mono (fun _ _ => rfl) (rRx hS493 (by decide))
        have hN9_501 := hN9_487.mono (fun _ _ => rfl) (rRx hS493 (by decide))
        have hC_502 := hC_488.mono (fun _ _ => rfl) (rRx hS493 (by decide))
        have hER503 := hER489.st hS493 (by decide)
        show pl _ _ _ (360, [(11, .int (nI (f0 + k))), (0, .ref m0), (1, .int (nI p)), (2, .int (nI (by2 f pM))), (3, .int (nI f0)), (4, .int (nI ib)), (5, .int (nI k)), (6, .int (nI (by2 f p))), (7, .int (nI a)), (9, .int (nI i9)), (10, .int (nI d))], [], M490) _
        refine ps_st (S' := (361, [(11, .int (nI (f0 + k))), (0, .ref m0), (1, .int (nI p)), (2, .int (nI (by2 f pM))), (3, .int (nI f0)), (4, .int (nI ib)), (5, .int (nI k)), (6, .int (nI (by2 f p))), (7, .int (nI a)), (9, .int (nI i9)), (10, .int (nI d))], [.ref m0], M490)) rfl rfl rfl ?_
        refine pr_ref (j := 44) (S' := (364, [(11, .int (nI (f0 + k))), (0, .ref m0), (1, .int (nI p)), (2, .int (nI (by2 f pM))), (3, .int (nI f0)), (4, .int (nI ib)), (5, .int (nI k)), (6, .int (nI (by2 f p))), (7, .int (nI a)), (9, .int (nI i9)), (10, .int (nI d))], [.ref (q 44)], M490)) rfl hR492 rfl rfl ?_
        refine ps_st (S' := (366, [(11, .int (nI (f0 + k))), (0, .ref m0), (1, .int (nI p)), (2, .int (nI (by2 f pM))), (3, .int (nI f0)), (4, .int (nI ib)), (5, .int (nI k)), (6, .int (nI (by2 f p))), (7, .int (nI a)), (9, .int (nI i9)), (10, .int (nI d))], [.int (nI (f0 + k)), .ref (q 44)], M490)) rfl rfl rfl ?_
        refine ps_st (S' := (367, [(11, .int (nI (f0 + k))), (0, .ref m0), (1, .int (nI p)), (2, .int (nI (by2 f pM))), (3, .int (nI f0)), (4, .int (nI ib)), (5, .int (nI k)), (6, .int (nI (by2 f p))), (7, .int (nI a)), (9, .int (nI i9)), (10, .int (nI d))], [.int 0, .int (nI (f0 + k)), .ref (q 44)], M490)) rfl rfl rfl ?_
        refine pr_st (a := 44) (j := f0 + k) rfl hR492 rfl (by omega) (fun M504 R505 i1_367 hR506 hS507 => ?_)
        have hF_508 := hF_494.mono (fun _ _ => rfl) (rRx hS507 (by decide))
        have hY_509 := hY_495.mono (fun _ _ => rfl) (rRx hS507 (by decide))
        have hP_510 := hP_496.mono (fun _ _ => rfl) (rRx hS507 (by decide))
        have hK_511 := hK_497.mono (fun _ _ => rfl) (rRx hS507 (by decide))
        have c34_512 := c34_498.mono (fun _ _ => rfl) (rRx hS507 (by decide))
        have c35_513 := c35_499.mono (fun _ _ => rfl) (rRx hS507 (by decide))
        have c36_514 := c36_500.mono (fun _ _ => rfl) (rRx hS507 (by decide))
        have hN9_515 := hN9_501.mono (fun _ _ => rfl) (rRx hS507 (by decide))
        have hC_516 := hC_502.mono (fun _ _ => rfl) (rRx hS507 (by decide))
        have hER517 := hER503.st hS507 (by decide)
        show pl _ _ _ (368, [(11, .int (nI (f0 + k))), (0, .ref m0), (1, .int (nI p)), (2, .int (nI (by2 f pM))), (3, .int (nI f0)), (4, .int (nI ib)), (5, .int (nI k)), (6, .int (nI (by2 f p))), (7, .int (nI a)), (9, .int (nI i9)), (10, .int (nI d))], [], M504) _
        refine ps_st (S' := (369, [(11, .int (nI (f0 + k))), (0, .ref m0), (1, .int (nI p)), (2, .int (nI (by2 f pM))), (3, .int (nI f0)), (4, .int (nI ib)), (5, .int (nI k)), (6, .int (nI (by2 f p))), (7, .int (nI a)), (9, .int (nI i9)), (10, .int (nI d))], [.ref m0], M504)) rfl rfl rfl ?_
        refine pr_ref (j := 45) (S' := (372, [(11, .int (nI (f0 + k))), (0, .ref m0), (1, .int (nI p)), (2, .int (nI (by2 f pM))), (3, .int (nI f0)), (4, .int (nI ib)), (5, .int (nI k)), (6, .int (nI (by2 f p))), (7, .int (nI a)), (9, .int (nI i9)), (10, .int (nI d))], [.ref (q 45)], M504)) rfl hR506 rfl rfl ?_
        refine ps_st (S' := (374, [(11, .int (nI (f0 + k))), (0, .ref m0), (1, .int (nI p)), (2, .int (nI (by2 f pM))), (3, .int (nI f0)), (4, .int (nI ib)), (5, .int (nI k)), (6, .int (nI (by2 f p))), (7, .int (nI a)), (9, .int (nI i9)), (10, .int (nI d))], [.int (nI (f0 + k)), .ref (q 45)], M504)) rfl rfl rfl ?_
        refine ps_st (S' := (375, [(11, .int (nI (f0 + k))), (0, .ref m0), (1, .int (nI p)), (2, .int (nI (by2 f pM))), (3, .int (nI f0)), (4, .int (nI ib)), (5, .int (nI k)), (6, .int (nI (by2 f p))), (7, .int (nI a)), (9, .int (nI i9)), (10, .int (nI d))], [.ref m0, .int (nI (f0 + k)), .ref (q 45)], M504)) rfl rfl rfl ?_
        refine ps_st (S' := (376, [(11, .int (nI (f0 + k))), (0, .ref m0), (1, .int (nI p)), (2, .int (nI (by2 f pM))), (3, .int (nI f0)), (4, .int (nI ib)), (5, .int (nI k)), (6, .int (nI (by2 f p))), (7, .int (nI a)), (9, .int (nI i9)), (10, .int (nI d))], [.int (nI p), .ref m0, .int (nI (f0 + k)), .ref (q 45)], M504)) rfl rfl rfl ?_
        refine ps_st (S' := (377, [(11, .int (nI (f0 + k))), (0, .ref m0), (1, .int (nI p)), (2, .int (nI (by2 f pM))), (3, .int (nI f0)), (4, .int (nI ib)), (5, .int (nI k)), (6, .int (nI (by2 f p))), (7, .int (nI a)), (9, .int (nI i9)), (10, .int (nI d))], [.int 2, .int (nI p), .ref m0, .int (nI (f0 + k)), .ref (q 45)], M504)) rfl rfl rfl ?_
        refine ps_st (S' := (378, [(11, .int (nI (f0 + k))), (0, .ref m0), (1, .int (nI p)), (2, .int (nI (by2 f pM))), (3, .int (nI f0)), (4, .int (nI ib)), (5, .int (nI k)), (6, .int (nI (by2 f p))), (7, .int (nI a)), (9, .int (nI i9)), (10, .int (nI d))], [.int ((nI p) + 2), .ref m0, .int (nI (f0 + k)), .ref (q 45)], M504)) rfl rfl rfl ?_
        rw [nI_add1 (p := p) (k := 2) (x := 2) rfl (by omega)]
        show pl _ _ _ (_, [(11, .int (nI (f0 + k))), (0, .ref m0), (1, .int (nI p)), (2, .int (nI (by2 f pM))), (3, .int (nI f0)), (4, .int (nI ib)), (5, .int (nI k)), (6, .int (nI (by2 f p))), (7, .int (nI a)), (9, .int (nI i9)), (10, .int (nI d))], [.int (nI (p + 2)), .ref m0, .int (nI (f0 + k)), .ref (q 45)], M504) _
        refine pl_call (a := [.ref m0, .int (nI (p + 2))]) (rest := [.int (nI (f0 + k)), .ref (q 45)]) rfl rfl rfl (rd_u2 (n := n) (f := f) (p := (p + 2)) hR506 hF_508 (by omega)) (fun v518 M519 q520 => ?_)
        obtain ⟨rfl, rfl⟩ := q520
        show pl _ _ _ (381, [(11, .int (nI (f0 + k))), (0, .ref m0), (1, .int (nI p)), (2, .int (nI (by2 f pM))), (3, .int (nI f0)), (4, .int (nI ib)), (5, .int (nI k)), (6, .int (nI (by2 f p))), (7, .int (nI a)), (9, .int (nI i9)), (10, .int (nI d))], [.int (nI (by2 f (p + 2))), .int (nI (f0 + k)), .ref (q 45)], M504) _
        have hu_378 := by2_lt f (p + 2)
        refine pr_st (a := 45) (j := f0 + k) rfl hR506 rfl (by omega) (fun M521 R522 i1_381 hR523 hS524 => ?_)
        have hF_525 := hF_508.mono (fun _ _ => rfl) (rRx hS524 (by decide))
        have hY_526 := hY_509.mono (fun _ _ => rfl) (rRx hS524 (by decide))
        have hP_527 := hP_510.mono (fun _ _ => rfl) (rRx hS524 (by decide))
        have hK_528 := hK_511.mono (fun _ _ => rfl) (rRx hS524 (by decide))
        have c34_529 := c34_512.mono (fun _ _ => rfl) (rRx hS524 (by decide))
        have c35_530 := c35_513.mono (fun _ _ => rfl) (rRx hS524 (by decide))
        have c36_531 := c36_514.mono (fun _ _ => rfl) (rRx hS524 (by decide))
        have hN9_532 := hN9_515.mono (fun _ _ => rfl) (rRx hS524 (by decide))
        have hC_533 := hC_516.mono (fun _ _ => rfl) (rRx hS524 (by decide))
        have hER534 := hER517.st hS524 (by decide)
        show pl _ _ _ (382, [(11, .int (nI (f0 + k))), (0, .ref m0), (1, .int (nI p)), (2, .int (nI (by2 f pM))), (3, .int (nI f0)), (4, .int (nI ib)), (5, .int (nI k)), (6, .int (nI (by2 f p))), (7, .int (nI a)), (9, .int (nI i9)), (10, .int (nI d))], [], M521) _
        refine ps_st (S' := (383, [(11, .int (nI (f0 + k))), (0, .ref m0), (1, .int (nI p)), (2, .int (nI (by2 f pM))), (3, .int (nI f0)), (4, .int (nI ib)), (5, .int (nI k)), (6, .int (nI (by2 f p))), (7, .int (nI a)), (9, .int (nI i9)), (10, .int (nI d))], [.ref m0], M521)) rfl rfl rfl ?_
        refine pr_ref (j := 46) (S' := (386, [(11, .int (nI (f0 + k))), (0, .ref m0), (1, .int (nI p)), (2, .int (nI (by2 f pM))), (3, .int (nI f0)), (4, .int (nI ib)), (5, .int (nI k)), (6, .int (nI (by2 f p))), (7, .int (nI a)), (9, .int (nI i9)), (10, .int (nI d))], [.ref (q 46)], M521)) rfl hR523 rfl rfl ?_
        refine ps_st (S' := (388, [(11, .int (nI (f0 + k))), (0, .ref m0), (1, .int (nI p)), (2, .int (nI (by2 f pM))), (3, .int (nI f0)), (4, .int (nI ib)), (5, .int (nI k)), (6, .int (nI (by2 f p))), (7, .int (nI a)), (9, .int (nI i9)), (10, .int (nI d))], [.int (nI (f0 + k)), .ref (q 46)], M521)) rfl rfl rfl ?_
        refine ps_st (S' := (389, [(11, .int (nI (f0 + k))), (0, .ref m0), (1, .int (nI p)), (2, .int (nI (by2 f pM))), (3, .int (nI f0)), (4, .int (nI ib)), (5, .int (nI k)), (6, .int (nI (by2 f p))), (7, .int (nI a)), (9, .int (nI i9)), (10, .int (nI d))], [.ref m0, .int (nI (f0 + k)), .ref (q 46)], M521)) rfl rfl rfl ?_
        refine ps_st (S' := (390, [(11, .int (nI (f0 + k))), (0, .ref m0), (1, .int (nI p)), (2, .int (nI (by2 f pM))), (3, .int (nI f0)), (4, .int (nI ib)), (5, .int (nI k)), (6, .int (nI (by2 f p))), (7, .int (nI a)), (9, .int (nI i9)), (10, .int (nI d))], [.int (nI p), .ref m0, .int (nI (f0 + k)), .ref (q 46)], M521)) rfl rfl rfl ?_
        refine ps_st (S' := (391, [(11, .int (nI (f0 + k))), (0, .ref m0), (1, .int (nI p)), (2, .int (nI (by2 f pM))), (3, .int (nI f0)), (4, .int (nI ib)), (5, .int (nI k)), (6, .int (nI (by2 f p))), (7, .int (nI a)), (9, .int (nI i9)), (10, .int (nI d))], [.int 4, .int (nI p), .ref m0, .int (nI (f0 + k)), .ref (q 46)], M521)) rfl rfl rfl ?_
        refine ps_st (S' := (392, [(11, .int (nI (f0 + k))), (0, .ref m0), (1, .int (nI p)), (2, .int (nI (by2 f pM))), (3, .int (nI f0)), (4, .int (nI ib)), (5, .int (nI k)), (6, .int (nI (by2 f p))), (7, .int (nI a)), (9, .int (nI i9)), (10, .int (nI d))], [.int ((nI p) + 4), .ref m0, .int (nI (f0 + k)), .ref (q 46)], M521)) rfl rfl rfl ?_
        rw [nI_add1 (p := p) (k := 4) (x := 4) rfl (by omega)]
        show pl _ _ _ (_, [(11, .int (nI (f0 + k))), (0, .ref m0), (1, .int (nI p)), (2, .int (nI (by2 f pM))), (3, .int (nI f0)), (4, .int (nI ib)), (5, .int (nI k)), (6, .int (nI (by2 f p))), (7, .int (nI a)), (9, .int (nI i9)), (10, .int (nI d))], [.int (nI (p + 4)), .ref m0, .int (nI (f0 + k)), .ref (q 46)], M521) _
        refine pl_call (a := [.ref m0, .int (nI (p + 4))]) (rest := [.int (nI (f0 + k)), .ref (q 46)]) rfl rfl rfl (rd_u2 (n := n) (f := f) (p := (p + 4)) hR523 hF_525 (by omega)) (fun v535 M536 q537 => ?_)
        obtain ⟨rfl, rfl⟩ := q537
        show pl _ _ _ (395, [(11, .int (nI (f0 + k))), (0, .ref m0), (1, .int (nI p)), (2, .int (nI (by2 f pM))), (3, .int (nI f0)), (4, .int (nI ib)), (5, .int (nI k)), (6, .int (nI (by2 f p))), (7, .int (nI a)), (9, .int (nI i9)), (10, .int (nI d))], [.int (nI (by2 f (p + 4))), .int (nI (f0 + k)), .ref (q 46)], M521) _
        have hu_392 := by2_lt f (p + 4)
        refine pr_st (a := 46) (j := f0 + k) rfl hR523 rfl (by omega) (fun M538 R539 i1_395 hR540 hS541 => ?_)
        have hF_542 := hF_525.mono (fun _ _ => rfl) (rRx hS541 (by decide))
        have hY_543 := hY_526.mono (fun _ _ => rfl) (rRx hS541 (by decide))
        have hP_544 := hP_527.mono (fun _ _ => rfl) (rRx hS541 (by decide))
        have hK_545 := hK_528.mono (fun _ _ => rfl) (rRx hS541 (by decide))
        have c34_546 := c34_529.mono (fun _ _ => rfl) (rRx hS541 (by decide))
        have c35_547 := c35_530.mono (fun _ _ => rfl) (rRx hS541 (by decide))
        have c36_548 := c36_531.mono (fun _ _ => rfl) (rRx hS541 (by decide))
        have hN9_549 := hN9_532.mono (fun _ _ => rfl) (rRx hS541 (by decide))
        have hC_550 := hC_533.mono (fun _ _ => rfl) (rRx hS541 (by decide))
        have hER551 := hER534.st hS541 (by decide)
        show pl _ _ _ (396, [(11, .int (nI (f0 + k))), (0, .ref m0), (1, .int (nI p)), (2, .int (nI (by2 f pM))), (3, .int (nI f0)), (4, .int (nI ib)), (5, .int (nI k)), (6, .int (nI (by2 f p))), (7, .int (nI a)), (9, .int (nI i9)), (10, .int (nI d))], [], M538) _
        refine ps_st (S' := (397, [(11, .int (nI (f0 + k))), (0, .ref m0), (1, .int (nI p)), (2, .int (nI (by2 f pM))), (3, .int (nI f0)), (4, .int (nI ib)), (5, .int (nI k)), (6, .int (nI (by2 f p))), (7, .int (nI a)), (9, .int (nI i9)), (10, .int (nI d))], [.int (nI f0)], M538)) rfl rfl rfl ?_
        refine ps_st (S' := (399, [(0, .ref m0), (1, .int (nI p)), (2, .int (nI (by2 f pM))), (3, .int (nI f0)), (4, .int (nI ib)), (5, .int (nI k)), (6, .int (nI (by2 f p))), (7, .int (nI a)), (9, .int (nI i9)), (10, .int (nI d)), (11, .int (nI (f0 + k))), (12, .int (nI f0))], [], M538)) rfl rfl rfl ?_
        exact ih.2.2.2 (k) (p) (ib) (a) (i9) (d) (0) M538 I1 R539 hR540 hEI1 hER551 hl51 hl52 hl53 hl58 hl56 hl26 hl9 hl10 hF_542 hY_543 hP_544 hK_545 hN9_549 c34_546 c35_547 c36_548 hC_550 (hk0) (hpk) (hpe) (hs) (hib) (hsa) (ht1) (hnm) (hfl) (h9c) (hsd) (ht2) (hmt) (hds) (by omega) (by omega) (rfl)
      · skip
        intro k p ib a i9 d j M1 I1 R1 hR1 hEI1 hER1 hl51 hl52 hl53 hl58 hl56 hl26 hl9 hl10 hF1 hY1 hP1 hK1 hN91 c341 c351 c361 hC1 hk0 hpk hpe hs hib hsa ht1 hnm hfl h9c hsd ht2 hmt hds hj hx hd9
        have hn := hF1.1
        have hu9 := by2_lt f pM
        have htl := hY1.1.2.2.1
        have hBl := hMB.1
        have hi7 := hsi.1
        have hc7 := hsc.1
        have hu8 := by2_lt f p
        have hsa1 := hsa.1
        have hsd1 := hsd.1
        refine ps_st1 (S' := (401, [(0, .ref m0), (1, .int (nI p)), (2, .int (nI (by2 f pM))), (3, .int (nI f0)), (4, .int (nI ib)), (5, .int (nI k)), (6, .int (nI (by2 f p))), (7, .int (nI a)), (9, .int (nI i9)), (10, .int (nI d)), (11, .int (nI (f0 + k))), (12, .int (nI (f0 + j)))], [.int (nI (f0 + j))], M1)) rfl rfl rfl ?_
        refine ps_st (S' := (403, [(0, .ref m0), (1, .int (nI p)), (2, .int (nI (by2 f pM))), (3, .int (nI f0)), (4, .int (nI ib)), (5, .int (nI k)), (6, .int (nI (by2 f p))), (7, .int (nI a)), (9, .int (nI i9)), (10, .int (nI d)), (11, .int (nI (f0 + k))), (12, .int (nI (f0 + j)))], [.int (nI (f0 + k)), .int (nI (f0 + j))], M1)) rfl rfl rfl ?_
        refine ps_if2 (S1 := (444, [(0, .ref m0), (1, .int (nI p)), (2, .int (nI (by2 f pM))), (3, .int (nI f0)), (4, .int (nI ib)), (5, .int (nI k)), (6, .int (nI (by2 f p))), (7, .int (nI a)), (9, .int (nI i9)), (10, .int (nI d)), (11, .int (nI (f0 + k))), (12, .int (nI (f0 + j)))], [], M1)) (S2 := (406, [(0, .ref m0), (1, .int (nI p)), (2, .int (nI (by2 f pM))), (3, .int (nI f0)), (4, .int (nI ib)), (5, .int (nI k)), (6, .int (nI (by2 f p))), (7, .int (nI a)), (9, .int (nI i9)), (10, .int (nI d)), (11, .int (nI (f0 + k))), (12, .int (nI (f0 + j)))], [], M1)) rfl rfl rfl (fun c_403 => ?_) (fun c_403 => ?_)
        · have c_403 : (nI (f0 + k)) ≤ (nI (f0 + j)) := of_decide_eq_true c_403
          have n_403 : f0 + k ≤ f0 + j := (le_nI (p := f0 + k) (n := f0 + j) (by omega) (by omega)).mp c_403
          refine ps_st (S' := (445, [(0, .ref m0), (1, .int (nI p)), (2, .int (nI (by2 f pM))), (3, .int (nI f0)), (4, .int (nI ib)), (5, .int (nI k)), (6, .int (nI (by2 f p))), (7, .int (nI a)), (9, .int (nI i9)), (10, .int (nI d)), (11, .int (nI (f0 + k))), (12, .int (nI (f0 + j)))], [.ref m0], M1)) rfl rfl rfl ?_
          refine ps_st (S' := (446, [(0, .ref m0), (1, .int (nI p)), (2, .int (nI (by2 f pM))), (3, .int (nI f0)), (4, .int (nI ib)), (5, .int (nI k)), (6, .int (nI (by2 f p))), (7, .int (nI a)), (9, .int (nI i9)), (10, .int (nI d)), (11, .int (nI (f0 + k))), (12, .int (nI (f0 + j)))], [.ref m0, .ref m0], M1)) rfl rfl rfl ?_
          refine pr_int (j := 26) (S' := (449, [(0, .ref m0), (1, .int (nI p)), (2, .int (nI (by2 f pM))), (3, .int (nI f0)), (4, .int (nI ib)), (5, .int (nI k)), (6, .int (nI (by2 f p))), (7, .int (nI a)), (9, .int (nI i9)), (10, .int (nI d)), (11, .int (nI (f0 + k))), (12, .int (nI (f0 + j)))], [.int (nI (f0 + k)), .ref m0], M1)) rfl hR1 rfl hl26 rfl ?_
          refine ps_st (S' := (450, [(0, .ref m0), (1, .int (nI p)), (2, .int (nI (by2 f pM))), (3, .int (nI f0)), (4, .int (nI ib)), (5, .int (nI k)), (6, .int (nI (by2 f p))), (7, .int (nI a)), (9, .int (nI i9)), (10, .int (nI d)), (11, .int (nI (f0 + k))), (12, .int (nI (f0 + j)))], [.int 1, .int (nI (f0 + k)), .ref m0], M1)) rfl rfl rfl ?_
          refine ps_st (S' := (451, [(0, .ref m0), (1, .int (nI p)), (2, .int (nI (by2 f pM))), (3, .int (nI f0)), (4, .int (nI ib)), (5, .int (nI k)), (6, .int (nI (by2 f p))), (7, .int (nI a)), (9, .int (nI i9)), (10, .int (nI d)), (11, .int (nI (f0 + k))), (12, .int (nI (f0 + j)))], [.int ((nI (f0 + k)) + 1), .ref m0], M1)) rfl rfl rfl ?_
          rw [nI_add1 (p := f0 + k) (k := 1) (x := 1) rfl (by omega)]
          show pl _ _ _ (_, [(0, .ref m0), (1, .int (nI p)), (2, .int (nI (by2 f pM))), (3, .int (nI f0)), (4, .int (nI ib)), (5, .int (nI k)), (6, .int (nI (by2 f p))), (7, .int (nI a)), (9, .int (nI i9)), (10, .int (nI d)), (11, .int (nI (f0 + k))), (12, .int (nI (f0 + j)))], [.int (nI (f0 + k + 1)), .ref m0], M1) _
          refine pr_put (j := 26) rfl hR1 rfl (fun M552 I553 hR554 hi555 hI556 => ?_)
          have hi557 := (hI556 51 (by decide)).trans hl51
          have hi558 := (hI556 52 (by decide)).trans hl52
          have hi559 := (hI556 53 (by decide)).trans hl53
          have hi560 := (hI556 58 (by decide)).trans hl58
          have hi561 := (hI556 56 (by decide)).trans hl56
          have hi562 := (hI556 9 (by decide)).trans hl9
          have hi563 := (hI556 10 (by decide)).trans hl10
          have hF_564 := hF1.mono (pIx hI556 (by decide)) (fun _ _ => rfl)
          have hY_565 := hY1.mono (pIx hI556 (by decide)) (fun _ _ => rfl)
          have hP_566 := hP1.mono (pIx hI556 (by decide)) (fun _ _ => rfl)
          have hK_567 := hK1.mono (pIx hI556 (by decide)) (fun _ _ => rfl)
          have hN9_568 := hN91.mono (pIx hI556 (by decide)) (fun _ _ => rfl)
          have c34_569 := c341.mono (pIx hI556 (by decide)) (fun _ _ => rfl)
          have c35_570 := c351.mono (pIx hI556 (by decide)) (fun _ _ => rfl)
          have c36_571 := c361.mono (pIx hI556 (by decide)) (fun _ _ => rfl)
          have hC_572 := hC1.mono (pIx hI556 (by decide)) (fun _ _ => rfl)
          have hEI573 := hEI1.put hI556 (by decide)
          show pl _ _ _ (454, [(0, .ref m0), (1, .int (nI p)), (2, .int (nI (by2 f pM))), (3, .int (nI f0)), (4, .int (nI ib)), (5, .int (nI k)), (6, .int (nI (by2 f p))), (7, .int (nI a)), (9, .int (nI i9)), (10, .int (nI d)), (11, .int (nI (f0 + k))), (12, .int (nI (f0 + j)))], [], M552) _
          refine ps_st (S' := (455, [(0, .ref m0), (1, .int (nI p)), (2, .int (nI (by2 f pM))), (3, .int (nI f0)), (4, .int (nI ib)), (5, .int (nI k)), (6, .int (nI (by2 f p))), (7, .int (nI a)), (9, .int (nI i9)), (10, .int (nI d)), (11, .int (nI (f0 + k))), (12, .int (nI (f0 + j)))], [.ref m0], M552)) rfl rfl rfl ?_
          refine ps_st (S' := (456, [(0, .ref m0), (1, .int (nI p)), (2, .int (nI (by2 f pM))), (3, .int (nI f0)), (4, .int (nI ib)), (5, .int (nI k)), (6, .int (nI (by2 f p))), (7, .int (nI a)), (9, .int (nI i9)), (10, .int (nI d)), (11, .int (nI (f0 + k))), (12, .int (nI (f0 + j)))], [.int (nI p), .ref m0], M552)) rfl rfl rfl ?_
          refine ps_st (S' := (458, [(0, .ref m0), (1, .int (nI p)), (2, .int (nI (by2 f pM))), (3, .int (nI f0)), (4, .int (nI ib)), (5, .int (nI k)), (6, .int (nI (by2 f p))), (7, .int (nI a)), (9, .int (nI i9)), (10, .int (nI d)), (11, .int (nI (f0 + k))), (12, .int (nI (f0 + j)))], [.int 6, .int (nI p), .ref m0], M552)) rfl rfl rfl ?_
          refine ps_st (S' := (459, [(0, .ref m0), (1, .int (nI p)), (2, .int (nI (by2 f pM))), (3, .int (nI f0)), (4, .int (nI ib)), (5, .int (nI k)), (6, .int (nI (by2 f p))), (7, .int (nI a)), (9, .int (nI i9)), (10, .int (nI d)), (11, .int (nI (f0 + k))), (12, .int (nI (f0 + j)))], [.int ((nI p) + 6), .ref m0], M552)) rfl rfl rfl ?_
          rw [nI_add1 (p := p) (k := 6) (x := 6) rfl (by omega)]
          show pl _ _ _ (_, [(0, .ref m0), (1, .int (nI p)), (2, .int (nI (by2 f pM))), (3, .int (nI f0)), (4, .int (nI ib)), (5, .int (nI k)), (6, .int (nI (by2 f p))), (7, .int (nI a)), (9, .int (nI i9)), (10, .int (nI d)), (11, .int (nI (f0 + k))), (12, .int (nI (f0 + j)))], [.int (nI (p + 6)), .ref m0], M552) _
          refine ps_st (S' := (460, [(0, .ref m0), (1, .int (nI p)), (2, .int (nI (by2 f pM))), (3, .int (nI f0)), (4, .int (nI ib)), (5, .int (nI k)), (6, .int (nI (by2 f p))), (7, .int (nI a)), (9, .int (nI i9)), (10, .int (nI d)), (11, .int (nI (f0 + k))), (12, .int (nI (f0 + j)))], [.int 2, .int (nI (p + 6)), .ref m0], M552)) rfl rfl rfl ?_
          refine ps_st (S' := (462, [(0, .ref m0), (1, .int (nI p)), (2, .int (nI (by2 f pM))), (3, .int (nI f0)), (4, .int (nI ib)), (5, .int (nI k)), (6, .int (nI (by2 f p))), (7, .int (nI a)), (9, .int (nI i9)), (10, .int (nI d)), (11, .int (nI (f0 + k))), (12, .int (nI (f0 + j)))], [.int (nI (f0 + k)), .int 2, .int (nI (p + 6)), .ref m0], M552)) rfl rfl rfl ?_
          have hm9 := hMB.2.2.2 k (by omega)
          rw [← hpk] at hm9
          have hX9 : MX (by2 f p) d (f0 + k) I553 R1 := ⟨c34_569, c36_571⟩
          have hwa : apN f n E p = argN (tX f n E (by2 f (p + 4))) + (if aN (by2 f p) 8 = 0 then 1 else 0) := by
            have a0_ := ap_9 (f := f) (n := n) (E := E) (p := p)
            split <;> omega
          refine pl_call (a := [.ref m0, .int (nI (p + 6)), .int 2, .int (nI (f0 + k))]) (rest := []) rfl rfl rfl (rd_checkAttributes2 (n := n) (f := f) (tx := tx) (cN := cN) (A := A) (N := N) (mj := mj) (E := E) (p1 := (p + 6)) (e := (E1 k)) (x := (f0 + k)) (fl := (by2 f p)) (ds := d) (wa := (apN f n E p)) (l := (tX f n E (by2 f (p + 4)))) hR554 hi557 hi558 hi559 hF_564 hY_565 hP_566 hK_567 hX9 hC_572 (hEP) (hN) (hmj) (⟨by omega, by omega⟩) (hm9.2.2.1) (hx) (hsd) (hmt) (hu8) (hwa)) (fun v574 M575 q576 => ?_)
          rcases q576 with q576 | q576
          · skip
            obtain ⟨e9577, I578, R579, q462_s, rfl, hR580, hI581, hX582, hi583, hi584⟩ := q576
            have hi585 := (hI581 51 (by decide)).trans hi557
            have hi586 := (hI581 52 (by decide)).trans hi558
            have hi587 := (hI581 53 (by decide)).trans hi559
            have hi588 := (hI581 58 (by decide)).trans hi560
            have hi589 := (hI581 56 (by decide)).trans hi561
            have hi590 := (hI581 9 (by decide)).trans hi562
            have hi591 := (hI581 10 (by decide)).trans hi563
            have hi592 := (hI581 26 (by decide)).trans hi555
            have hF_593 := hF_564.mono (cIx hI581 (by decide)) (cRx hX582 (by decide))
            have hY_594 := hY_565.mono (cIx hI581 (by decide)) (cRx hX582 (by decide))
            have hP_595 := hP_566.mono (cIx hI581 (by decide)) (cRx hX582 (by decide))
            have hK_596 := hK_567.mono (cIx hI581 (by decide)) (cRx hX582 (by decide))
            have hN9_597 := hN9_568.mono (cIx hI581 (by decide)) (cRx hX582 (by decide))
            have c34_598 := c34_569.mono (cIx hI581 (by decide)) (cRx hX582 (by decide))
            have c35_599 := c35_570.mono (cIx hI581 (by decide)) (cRx hX582 (by decide))
            have c36_600 := c36_571.mono (cIx hI581 (by decide)) (cRx hX582 (by decide))
            have hX_601 := hX9.mono (cIx hI581 (by decide)) (cRx hX582 (by decide))
            have hEI602 := hEI573.tr hI581 (by decide)
            have hER603 := hER1.tr hX582 (by decide)
            show pl _ _ _ (465, [(0, .ref m0), (1, .int (nI p)), (2, .int (nI (by2 f pM))), (3, .int (nI f0)), (4, .int (nI ib)), (5, .int (nI k)), (6, .int (nI (by2 f p))), (7, .int (nI a)), (9, .int (nI i9)), (10, .int (nI d)), (11, .int (nI (f0 + k))), (12, .int (nI (f0 + j)))], [.int (-1)], M575) _
            refine ps_st (S' := (467, [(12, .int (-1)), (0, .ref m0), (1, .int (nI p)), (2, .int (nI (by2 f pM))), (3, .int (nI f0)), (4, .int (nI ib)), (5, .int (nI k)), (6, .int (nI (by2 f p))), (7, .int (nI a)), (9, .int (nI i9)), (10, .int (nI d)), (11, .int (nI (f0 + k)))], [], M575)) rfl rfl rfl ?_
            refine ps_st (S' := (469, [(12, .int (-1)), (0, .ref m0), (1, .int (nI p)), (2, .int (nI (by2 f pM))), (3, .int (nI f0)), (4, .int (nI ib)), (5, .int (nI k)), (6, .int (nI (by2 f p))), (7, .int (nI a)), (9, .int (nI i9)), (10, .int (nI d)), (11, .int (nI (f0 + k)))], [.int (-1)], M575)) rfl rfl rfl ?_
            refine ps_if (S1 := (474, [(12, .int (-1)), (0, .ref m0), (1, .int (nI p)), (2, .int (nI (by2 f pM))), (3, .int (nI f0)), (4, .int (nI ib)), (5, .int (nI k)), (6, .int (nI (by2 f p))), (7, .int (nI a)), (9, .int (nI i9)), (10, .int (nI d)), (11, .int (nI (f0 + k)))], [], M575)) (S2 := (472, [(12, .int (-1)), (0, .ref m0), (1, .int (nI p)), (2, .int (nI (by2 f pM))), (3, .int (nI f0)), (4, .int (nI ib)), (5, .int (nI k)), (6, .int (nI (by2 f p))), (7, .int (nI a)), (9, .int (nI i9)), (10, .int (nI d)), (11, .int (nI (f0 + k)))], [], M575)) rfl rfl rfl (fun c_469 => ?_) (fun c_469 => ?_)
            · exact absurd (of_decide_eq_true c_469) (by decide)
            refine ps_st (S' := (473, [(12, .int (-1)), (0, .ref m0), (1, .int (nI p)), (2, .int (nI (by2 f pM))), (3, .int (nI f0)), (4, .int (nI ib)), (5, .int (nI k)), (6, .int (nI (by2 f p))), (7, .int (nI a)), (9, .int (nI i9)), (10, .int (nI d)), (11, .int (nI (f0 + k)))], [.int 0], M575)) rfl rfl rfl ?_
            exact ps_ret rfl rfl (Or.inr ⟨e9577, I578, R579, by
                rw [← hs, mtS_st (i := k) (by omega), ← hpk, mh_n hnm hfl hds (by rw [← hd9, show k - j = 0 by omega]; rfl), q462_s], rfl, hR580, hEI602, hER603, hi583, hi584⟩)
          · skip
            obtain ⟨h9604, I605, R606, q462_s, rfl, hR607, hI608, hX609, hC_610⟩ := q576
            have hi611 := (hI608 51 (by decide)).trans hi557
            have hi612 := (hI608 52 (by decide)).trans hi558
            have hi613 := (hI608 53 (by decide)).trans hi559
            have hi614 := (hI608 58 (by decide)).trans hi560
            have hi615 := (hI608 56 (by decide)).trans hi561
            have hi616 := (hI608 9 (by decide)).trans hi562
            have hi617 := (hI608 10 (by decide)).trans hi563
            have hi618 := (hI608 26 (by decide)).trans hi555
            have hF_619 := hF_564.mono (cIx hI608 (by decide)) (cRx hX609 (by decide))
            have hY_620 := hY_565.mono (cIx hI608 (by decide)) (cRx hX609 (by decide))
            have hP_621 := hP_566.mono (cIx hI608 (by decide)) (cRx hX609 (by decide))
            have hK_622 := hK_567.mono (cIx hI608 (by decide)) (cRx hX609 (by decide))
            have hN9_623 := hN9_568.mono (cIx hI608 (by decide)) (cRx hX609 (by decide))
            have c34_624 := c34_569.mono (cIx hI608 (by decide)) (cRx hX609 (by decide))
            have c35_625 := c35_570.mono (cIx hI608 (by decide)) (cRx hX609 (by decide))
            have c36_626 := c36_571.mono (cIx hI608 (by decide)) (cRx hX609 (by decide))
            have hX_627 := hX9.mono (cIx hI608 (by decide)) (cRx hX609 (by decide))
            have hEI628 := hEI573.tr hI608 (by decide)
            have hER629 := hER1.tr hX609 (by decide)
            show pl _ _ _ (465, [(0, .ref m0), (1, .int (nI p)), (2, .int (nI (by2 f pM))), (3, .int (nI f0)), (4, .int (nI ib)), (5, .int (nI k)), (6, .int (nI (by2 f p))), (7, .int (nI a)), (9, .int (nI i9)), (10, .int (nI d)), (11, .int (nI (f0 + k))), (12, .int (nI (f0 + j)))], [.int (nI (E1 k))], M575) _
            have hh1 := maS_h (by decide) q462_s
            obtain ⟨y9, hy9, hyc⟩ := CX.val hC_610
            refine ps_st (S' := (467, [(12, .int (nI (E1 k))), (0, .ref m0), (1, .int (nI p)), (2, .int (nI (by2 f pM))), (3, .int (nI f0)), (4, .int (nI ib)), (5, .int (nI k)), (6, .int (nI (by2 f p))), (7, .int (nI a)), (9, .int (nI i9)), (10, .int (nI d)), (11, .int (nI (f0 + k)))], [], M575)) rfl rfl rfl ?_
            refine ps_st (S' := (469, [(12, .int (nI (E1 k))), (0, .ref m0), (1, .int (nI p)), (2, .int (nI (by2 f pM))), (3, .int (nI f0)), (4, .int (nI ib)), (5, .int (nI k)), (6, .int (nI (by2 f p))), (7, .int (nI a)), (9, .int (nI i9)), (10, .int (nI d)), (11, .int (nI (f0 + k)))], [.int (nI (E1 k))], M575)) rfl rfl rfl ?_
            refine ps_if (S1 := (474, [(12, .int (nI (E1 k))), (0, .ref m0), (1, .int (nI p)), (2, .int (nI (by2 f pM))), (3, .int (nI f0)), (4, .int (nI ib)), (5, .int (nI k)), (6, .int (nI (by2 f p))), (7, .int (nI a)), (9, .int (nI i9)), (10, .int (nI d)), (11, .int (nI (f0 + k)))], [], M575)) (S2 := (472, [(12, .int (nI (E1 k))), (0, .ref m0), (1, .int (nI p)), (2, .int (nI (by2 f pM))), (3, .int (nI f0)), (4, .int (nI ib)), (5, .int (nI k)), (6, .int (nI (by2 f p))), (7, .int (nI a)), (9, .int (nI i9)), (10, .int (nI d)), (11, .int (nI (f0 + k)))], [], M575)) rfl rfl rfl (fun c_469 => ?_) (fun c_469 => ?_)
            rotate_left
            · exact absurd ((le_nI (p := 0) (n := E1 k) (by decide) (by omega)).mpr (by omega)) (of_decide_eq_false c_469)
            refine ps_st (S' := (476, [(12, .int (nI (E1 k))), (0, .ref m0), (1, .int (nI p)), (2, .int (nI (by2 f pM))), (3, .int (nI f0)), (4, .int (nI ib)), (5, .int (nI k)), (6, .int (nI (by2 f p))), (7, .int (nI a)), (9, .int (nI i9)), (10, .int (nI d)), (11, .int (nI (f0 + k)))], [.int (nI (by2 f p))], M575)) rfl rfl rfl ?_
            refine ps_st (S' := (479, [(12, .int (nI (E1 k))), (0, .ref m0), (1, .int (nI p)), (2, .int (nI (by2 f pM))), (3, .int (nI f0)), (4, .int (nI ib)), (5, .int (nI k)), (6, .int (nI (by2 f p))), (7, .int (nI a)), (9, .int (nI i9)), (10, .int (nI d)), (11, .int (nI (f0 + k)))], [.int 1280, .int (nI (by2 f p))], M575)) rfl rfl rfl ?_
            refine ps_st (S' := (480, [(12, .int (nI (E1 k))), (0, .ref m0), (1, .int (nI p)), (2, .int (nI (by2 f pM))), (3, .int (nI f0)), (4, .int (nI ib)), (5, .int (nI k)), (6, .int (nI (by2 f p))), (7, .int (nI a)), (9, .int (nI i9)), (10, .int (nI d)), (11, .int (nI (f0 + k)))], [.int ((nI (by2 f p)) &&& 1280)], M575)) rfl rfl rfl ?_
            rw [nI_an (p := by2 f p) (k := 1280) (x := 1280) rfl]
            show pl _ _ _ (_, [(12, .int (nI (E1 k))), (0, .ref m0), (1, .int (nI p)), (2, .int (nI (by2 f pM))), (3, .int (nI f0)), (4, .int (nI ib)), (5, .int (nI k)), (6, .int (nI (by2 f p))), (7, .int (nI a)), (9, .int (nI i9)), (10, .int (nI d)), (11, .int (nI (f0 + k)))], [.int (nI (aN (by2 f p) 1280))], M575) _
            refine ps_if (S1 := (492, [(0, .ref m0), (1, .int (nI p)), (2, .int (nI (by2 f pM))), (3, .int (nI f0)), (4, .int (nI ib)), (5, .int (nI k)), (11, .int (nI (f0 + k))), (12, .int (nI (E1 k)))], [], M575)) (S2 := (483, [(12, .int (nI (E1 k))), (0, .ref m0), (1, .int (nI p)), (2, .int (nI (by2 f pM))), (3, .int (nI f0)), (4, .int (nI ib)), (5, .int (nI k)), (6, .int (nI (by2 f p))), (7, .int (nI a)), (9, .int (nI i9)), (10, .int (nI d)), (11, .int (nI (f0 + k)))], [], M575)) rfl rfl rfl (fun c_480 => ?_) (fun c_480 => ?_)
            · have c_480 : (nI (aN (by2 f p) 1280)) = 0 := of_decide_eq_true c_480
              have n_480 : aN (by2 f p) 1280 = 0 := (eq_nI (p := aN (by2 f p) 1280) (n := 0) (Nat.lt_of_le_of_lt (an_le _ _) (by decide)) (by decide)).mp c_480
              refine ps_st (S' := (493, [(0, .ref m0), (1, .int (nI p)), (2, .int (nI (by2 f pM))), (3, .int (nI f0)), (4, .int (nI ib)), (5, .int (nI k)), (11, .int (nI (f0 + k))), (12, .int (nI (E1 k)))], [.int 0], M575)) rfl rfl rfl ?_
              refine ps_st (S' := (495, [(13, .int 0), (0, .ref m0), (1, .int (nI p)), (2, .int (nI (by2 f pM))), (3, .int (nI f0)), (4, .int (nI ib)), (5, .int (nI k)), (11, .int (nI (f0 + k))), (12, .int (nI (E1 k)))], [], M575)) rfl rfl rfl ?_
              refine ps_st (S' := (496, [(13, .int 0), (0, .ref m0), (1, .int (nI p)), (2, .int (nI (by2 f pM))), (3, .int (nI f0)), (4, .int (nI ib)), (5, .int (nI k)), (11, .int (nI (f0 + k))), (12, .int (nI (E1 k)))], [.ref m0], M575)) rfl rfl rfl ?_
              refine pr_ref (j := 37) (S' := (499, [(13, .int 0), (0, .ref m0), (1, .int (nI p)), (2, .int (nI (by2 f pM))), (3, .int (nI f0)), (4, .int (nI ib)), (5, .int (nI k)), (11, .int (nI (f0 + k))), (12, .int (nI (E1 k)))], [.ref (q 37)], M575)) rfl hR607 rfl rfl ?_
              refine ps_st (S' := (501, [(13, .int 0), (0, .ref m0), (1, .int (nI p)), (2, .int (nI (by2 f pM))), (3, .int (nI f0)), (4, .int (nI ib)), (5, .int (nI k)), (11, .int (nI (f0 + k))), (12, .int (nI (E1 k)))], [.int (nI (f0 + k)), .ref (q 37)], M575)) rfl rfl rfl ?_
              refine pr_ld (a := 37) (j := f0 + k) (y := y9) (S' := (502, [(13, .int 0), (0, .ref m0), (1, .int (nI p)), (2, .int (nI (by2 f pM))), (3, .int (nI f0)), (4, .int (nI ib)), (5, .int (nI k)), (11, .int (nI (f0 + k))), (12, .int (nI (E1 k)))], [.int y9], M575)) rfl hR607 rfl (by omega) (fun _ => hy9) rfl (fun i1_501 => ?_)
              refine ps_if (S1 := (509, [(13, .int 0), (0, .ref m0), (1, .int (nI p)), (2, .int (nI (by2 f pM))), (3, .int (nI f0)), (4, .int (nI ib)), (5, .int (nI k)), (11, .int (nI (f0 + k))), (12, .int (nI (E1 k)))], [], M575)) (S2 := (505, [(13, .int 0), (0, .ref m0), (1, .int (nI p)), (2, .int (nI (by2 f pM))), (3, .int (nI f0)), (4, .int (nI ib)), (5, .int (nI k)), (11, .int (nI (f0 + k))), (12, .int (nI (E1 k)))], [], M575)) rfl rfl rfl (fun c_502 => ?_) (fun c_502 => ?_)
              · have c_502 : 0 ≤ y9 := of_decide_eq_true c_502
                have hh9 : ¬ h9604 = 0 := by rcases hyc with h8 | h8; exact absurd h8.2 (Int32.not_lt.mpr c_502); exact h8.1
                refine ps_st (S' := (510, [(0, .ref m0), (1, .int (nI p)), (2, .int (nI (by2 f pM))), (3, .int (nI f0)), (4, .int (nI ib)), (5, .int (nI k)), (12, .int (nI (E1 k))), (13, .int 0)], [.int 0], M575)) rfl rfl rfl ?_
                refine ps_st (S' := (512, [(0, .ref m0), (1, .int (nI p)), (2, .int (nI (by2 f pM))), (3, .int (nI f0)), (4, .int (nI ib)), (5, .int (nI k)), (12, .int (nI (E1 k))), (13, .int 0)], [.int 0, .int 0], M575)) rfl rfl rfl ?_
                refine ps_if2 (S1 := (523, [(0, .ref m0), (1, .int (nI p)), (2, .int (nI (by2 f pM))), (3, .int (nI f0)), (4, .int (nI ib)), (5, .int (nI k)), (12, .int (nI (E1 k))), (13, .int 0)], [], M575)) (S2 := (515, [(0, .ref m0), (1, .int (nI p)), (2, .int (nI (by2 f pM))), (3, .int (nI f0)), (4, .int (nI ib)), (5, .int (nI k)), (12, .int (nI (E1 k))), (13, .int 0)], [], M575)) rfl rfl rfl (fun c_512 => ?_) (fun c_512 => ?_)
                rotate_left
                · exact absurd (by decide) (of_decide_eq_false c_512)
                refine ps_st (S' := (525, [(0, .ref m0), (1, .int (nI p)), (2, .int (nI (by2 f pM))), (3, .int (nI f0)), (4, .int (nI ib)), (5, .int (nI k)), (12, .int (nI (E1 k))), (13, .int 0)], [.int (nI (E1 k))], M575)) rfl rfl rfl ?_
                refine ps_st (S' := (526, [(1, .int (nI (E1 k))), (0, .ref m0), (2, .int (nI (by2 f pM))), (3, .int (nI f0)), (4, .int (nI ib)), (5, .int (nI k)), (12, .int (nI (E1 k))), (13, .int 0)], [], M575)) rfl rfl rfl ?_
                refine ps_st (S' := (529, [(5, .int ((nI k) + 1)), (1, .int (nI (E1 k))), (0, .ref m0), (2, .int (nI (by2 f pM))), (3, .int (nI f0)), (4, .int (nI ib)), (12, .int (nI (E1 k))), (13, .int 0)], [], M575)) rfl rfl rfl ?_
                rw [nI_add1 (p := k) (k := 1) (x := 1) rfl (by omega)]
                show pl _ _ _ (_, [(5, .int (nI (k + 1))), (1, .int (nI (E1 k))), (0, .ref m0), (2, .int (nI (by2 f pM))), (3, .int (nI f0)), (4, .int (nI ib)), (12, .int (nI (E1 k))), (13, .int 0)], [], M575) _
                refine ps_st (S' := (40, [(0, .ref m0), (1, .int (nI (E1 k))), (2, .int (nI (by2 f pM))), (3, .int (nI f0)), (4, .int (nI ib)), (5, .int (nI (k + 1)))], [], M575)) rfl rfl rfl ?_
                have hN8 := FN.more hN9_623 hpk c35_625 c36_626 hsa hsd ht1 ht2
                exact ih.1 (k + 1) (E1 k) (ib) M575 I605 R606 hR607 hEI628 hER629 hi611 hi612 hi613 hi614 hi615 hi618 hi616 hi617 hF_619 hY_620 hP_621 hK_622 hN8 (by omega) (fun h9 => (hm9.2.2.2 (by omega)).symm) (hm9.2.1) (by
                    rw [← hs, mtS_st (i := k) (by omega), ← hpk, mh_n hnm hfl hds (by rw [← hd9, show k - j = 0 by omega]; rfl), q462_s]
                    dsimp only
                    rw [cdu_0, if_pos (by omega), if_pos (by omega)]) (hib)
              · have c_502 : ¬ (0 ≤ y9) := of_decide_eq_false c_502
                have hh9 : h9604 = 0 := by rcases hyc with h8 | h8; exact h8.1; exact absurd (Int32.not_le.mp c_502) h8.2
                refine ps_st (S' := (506, [(13, .int 0), (0, .ref m0), (1, .int (nI p)), (2, .int (nI (by2 f pM))), (3, .int (nI f0)), (4, .int (nI ib)), (5, .int (nI k)), (11, .int (nI (f0 + k))), (12, .int (nI (E1 k)))], [.int 1], M575)) rfl rfl rfl ?_
                refine ps_st (S' := (510, [(0, .ref m0), (1, .int (nI p)), (2, .int (nI (by2 f pM))), (3, .int (nI f0)), (4, .int (nI ib)), (5, .int (nI k)), (12, .int (nI (E1 k))), (13, .int 0)], [.int 1], M575)) rfl rfl rfl ?_
                refine ps_st (S' := (512, [(0, .ref m0), (1, .int (nI p)), (2, .int (nI (by2 f pM))), (3, .int (nI f0)), (4, .int (nI ib)), (5, .int (nI k)), (12, .int (nI (E1 k))), (13, .int 0)], [.int 0, .int 1], M575)) rfl rfl rfl ?_
                refine ps_if2 (S1 := (523, [(0, .ref m0), (1, .int (nI p)), (2, .int (nI (by2 f pM))), (3, .int (nI f0)), (4, .int (nI ib)), (5, .int (nI k)), (12, .int (nI (E1 k))), (13, .int 0)], [], M575)) (S2 := (515, [(0, .ref m0), (1, .int (nI p)), (2, .int (nI (by2 f pM))), (3, .int (nI f0)), (4, .int (nI ib)), (5, .int (nI k)), (12, .int (nI (E1 k))), (13, .int 0)], [], M575)) rfl rfl rfl (fun c_512 => ?_) (fun c_512 => ?_)
                · exact absurd (of_decide_eq_true c_512) (by decide)
                refine ps_st (S' := (516, [(0, .ref m0), (1, .int (nI p)), (2, .int (nI (by2 f pM))), (3, .int (nI f0)), (4, .int (nI ib)), (5, .int (nI k)), (12, .int (nI (E1 k))), (13, .int 0)], [.ref m0], M575)) rfl rfl rfl ?_
                refine ps_st (S' := (518, [(0, .ref m0), (1, .int (nI p)), (2, .int (nI (by2 f pM))), (3, .int (nI f0)), (4, .int (nI ib)), (5, .int (nI k)), (12, .int (nI (E1 k))), (13, .int 0)], [.int 27, .ref m0], M575)) rfl rfl rfl ?_
                refine ps_st (S' := (519, [(0, .ref m0), (1, .int (nI p)), (2, .int (nI (by2 f pM))), (3, .int (nI f0)), (4, .int (nI ib)), (5, .int (nI k)), (12, .int (nI (E1 k))), (13, .int 0)], [.int (nI p), .int 27, .ref m0], M575)) rfl rfl rfl ?_
                refine pl_call (a := [.ref m0, .int 27, .int (nI p)]) (rest := []) rfl rfl rfl (rd_wrong (x1 := 27) (x2 := (nI p)) hR607) (fun v630 M631 q632 => ?_)
                obtain ⟨I633, R634, rfl, hR635, hI636, hX637, hi638, hi639⟩ := q632
                have hi640 := (hI636 51 (by decide)).trans hi611
                have hi641 := (hI636 52 (by decide)).trans hi612
                have hi642 := (hI636 53 (by decide)).trans hi613
                have hi643 := (hI636 58 (by decide)).trans hi614
                have hi644 := (hI636 56 (by decide)).trans hi615
                have hi645 := (hI636 9 (by decide)).trans hi616
                have hi646 := (hI636 10 (by decide)).trans hi617
                have hi647 := (hI636 26 (by decide)).trans hi618
                have hF_648 := hF_619.mono (cIx hI636 (by decide)) (cRx hX637 (by decide))
                have hY_649 := hY_620.mono (cIx hI636 (by decide)) (cRx hX637 (by decide))
                have hP_650 := hP_621.mono (cIx hI636 (by decide)) (cRx hX637 (by decide))
                have hK_651 := hK_622.mono (cIx hI636 (by decide)) (cRx hX637 (by decide))
                have hN9_652 := hN9_623.mono (cIx hI636 (by decide)) (cRx hX637 (by decide))
                have c34_653 := c34_624.mono (cIx hI636 (by decide)) (cRx hX637 (by decide))
                have c35_654 := c35_625.mono (cIx hI636 (by decide)) (cRx hX637 (by decide))
                have c36_655 := c36_626.mono (cIx hI636 (by decide)) (cRx hX637 (by decide))
                have hX_656 := hX_627.mono (cIx hI636 (by decide)) (cRx hX637 (by decide))
                have hC_657 := hC_610.mono (cIx hI636 (by decide)) (cRx hX637 (by decide))
                have hEI658 := hEI628.tr hI636 (by decide)
                have hER659 := hER629.tr hX637 (by decide)
                show pl _ _ _ (522, [(0, .ref m0), (1, .int (nI p)), (2, .int (nI (by2 f pM))), (3, .int (nI f0)), (4, .int (nI ib)), (5, .int (nI k)), (12, .int (nI (E1 k))), (13, .int 0)], [.int 0], M631) _
                exact ps_ret rfl rfl (Or.inr ⟨(27, p), I633, R634, by
                    rw [← hs, mtS_st (i := k) (by omega), ← hpk, mh_n hnm hfl hds (by rw [← hd9, show k - j = 0 by omega]; rfl), q462_s]
                    dsimp only
                    rw [cdu_0, if_pos (by omega), if_neg (by omega)], rfl, hR635, hEI658, hER659, hi638, hi639⟩)
            · have c_480 : ¬ ((nI (aN (by2 f p) 1280)) = 0) := of_decide_eq_false c_480
              have n_480 : ¬ (aN (by2 f p) 1280 = 0) := fun h9 => c_480 ((eq_nI (p := aN (by2 f p) 1280) (n := 0) (Nat.lt_of_le_of_lt (an_le _ _) (by decide)) (by decide)).mpr h9)
              refine ps_st (S' := (485, [(12, .int (nI (E1 k))), (0, .ref m0), (1, .int (nI p)), (2, .int (nI (by2 f pM))), (3, .int (nI f0)), (4, .int (nI ib)), (5, .int (nI k)), (6, .int (nI (by2 f p))), (7, .int (nI a)), (9, .int (nI i9)), (10, .int (nI d)), (11, .int (nI (f0 + k)))], [.int (nI i9)], M575)) rfl rfl rfl ?_
              refine ps_if (S1 := (492, [(0, .ref m0), (1, .int (nI p)), (2, .int (nI (by2 f pM))), (3, .int (nI f0)), (4, .int (nI ib)), (5, .int (nI k)), (11, .int (nI (f0 + k))), (12, .int (nI (E1 k)))], [], M575)) (S2 := (488, [(12, .int (nI (E1 k))), (0, .ref m0), (1, .int (nI p)), (2, .int (nI (by2 f pM))), (3, .int (nI f0)), (4, .int (nI ib)), (5, .int (nI k)), (6, .int (nI (by2 f p))), (7, .int (nI a)), (9, .int (nI i9)), (10, .int (nI d)), (11, .int (nI (f0 + k)))], [], M575)) rfl rfl rfl (fun c_485 => ?_) (fun c_485 => ?_)
              · have c_485 : ¬ (nI i9) = 0 := of_decide_eq_true c_485
                have n_485 : ¬ (i9 = 0) := fun h9 => c_485 ((eq_nI (p := i9) (n := 0) (by omega) (by decide)).mpr h9)
                refine ps_st (S' := (493, [(0, .ref m0), (1, .int (nI p)), (2, .int (nI (by2 f pM))), (3, .int (nI f0)), (4, .int (nI ib)), (5, .int (nI k)), (11, .int (nI (f0 + k))), (12, .int (nI (E1 k)))], [.int 0], M575)) rfl rfl rfl ?_
                refine ps_st (S' := (495, [(13, .int 0), (0, .ref m0), (1, .int (nI p)), (2, .int (nI (by2 f pM))), (3, .int (nI f0)), (4, .int (nI ib)), (5, .int (nI k)), (11, .int (nI (f0 + k))), (12, .int (nI (E1 k)))], [], M575)) rfl rfl rfl ?_
                refine ps_st (S' := (496, [(13, .int 0), (0, .ref m0), (1, .int (nI p)), (2, .int (nI (by2 f pM))), (3, .int (nI f0)), (4, .int (nI ib)), (5, .int (nI k)), (11, .int (nI (f0 + k))), (12, .int (nI (E1 k)))], [.ref m0], M575)) rfl rfl rfl ?_
                refine pr_ref (j := 37) (S' := (499, [(13, .int 0), (0, .ref m0), (1, .int (nI p)), (2, .int (nI (by2 f pM))), (3, .int (nI f0)), (4, .int (nI ib)), (5, .int (nI k)), (11, .int (nI (f0 + k))), (12, .int (nI (E1 k)))], [.ref (q 37)], M575)) rfl hR607 rfl rfl ?_
                refine ps_st (S' := (501, [(13, .int 0), (0, .ref m0), (1, .int (nI p)), (2, .int (nI (by2 f pM))), (3, .int (nI f0)), (4, .int (nI ib)), (5, .int (nI k)), (11, .int (nI (f0 + k))), (12, .int (nI (E1 k)))], [.int (nI (f0 + k)), .ref (q 37)], M575)) rfl rfl rfl ?_
                refine pr_ld (a := 37) (j := f0 + k) (y := y9) (S' := (502, [(13, .int 0), (0, .ref m0), (1, .int (nI p)), (2, .int (nI (by2 f pM))), (3, .int (nI f0)), (4, .int (nI ib)), (5, .int (nI k)), (11, .int (nI (f0 + k))), (12, .int (nI (E1 k)))], [.int y9], M575)) rfl hR607 rfl (by omega) (fun _ => hy9) rfl (fun i1_501 => ?_)
                refine ps_if (S1 := (509, [(13, .int 0), (0, .ref m0), (1, .int (nI p)), (2, .int (nI (by2 f pM))), (3, .int (nI f0)), (4, .int (nI ib)), (5, .int (nI k)), (11, .int (nI (f0 + k))), (12, .int (nI (E1 k)))], [], M575)) (S2 := (505, [(13, .int 0), (0, .ref m0), (1, .int (nI p)), (2, .int (nI (by2 f pM))), (3, .int (nI f0)), (4, .int (nI ib)), (5, .int (nI k)), (11, .int (nI (f0 + k))), (12, .int (nI (E1 k)))], [], M575)) rfl rfl rfl (fun c_502 => ?_) (fun c_502 => ?_)
                · have c_502 : 0 ≤ y9 := of_decide_eq_true c_502
                  have hh9 : ¬ h9604 = 0 := by rcases hyc with h8 | h8; exact absurd h8.2 (Int32.not_lt.mpr c_502); exact h8.1
                  refine ps_st (S' := (510, [(0, .ref m0), (1, .int (nI p)), (2, .int (nI (by2 f pM))), (3, .int (nI f0)), (4, .int (nI ib)), (5, .int (nI k)), (12, .int (nI (E1 k))), (13, .int 0)], [.int 0], M575)) rfl rfl rfl ?_
                  refine ps_st (S' := (512, [(0, .ref m0), (1, .int (nI p)), (2, .int (nI (by2 f pM))), (3, .int (nI f0)), (4, .int (nI ib)), (5, .int (nI k)), (12, .int (nI (E1 k))), (13, .int 0)], [.int 0, .int 0], M575)) rfl rfl rfl ?_
                  refine ps_if2 (S1 := (523, [(0, .ref m0), (1, .int (nI p)), (2, .int (nI (by2 f pM))), (3, .int (nI f0)), (4, .int (nI ib)), (5, .int (nI k)), (12, .int (nI (E1 k))), (13, .int 0)], [], M575)) (S2 := (515, [(0, .ref m0), (1, .int (nI p)), (2, .int (nI (by2 f pM))), (3, .int (nI f0)), (4, .int (nI ib)), (5, .int (nI k)), (12, .int (nI (E1 k))), (13, .int 0)], [], M575)) rfl rfl rfl (fun c_512 => ?_) (fun c_512 => ?_)
                  rotate_left
                  · exact absurd (by decide) (of_decide_eq_false c_512)
                  refine ps_st (S' := (525, [(0, .ref m0), (1, .int (nI p)), (2, .int (nI (by2 f pM))), (3, .int (nI f0)), (4, .int (nI ib)), (5, .int (nI k)), (12, .int (nI (E1 k))), (13, .int 0)], [.int (nI (E1 k))], M575)) rfl rfl rfl ?_
                  refine ps_st (S' := (526, [(1, .int (nI (E1 k))), (0, .ref m0), (2, .int (nI (by2 f pM))), (3, .int (nI f0)), (4, .int (nI ib)), (5, .int (nI k)), (12, .int (nI (E1 k))), (13, .int 0)], [], M575)) rfl rfl rfl ?_
                  refine ps_st (S' := (529, [(5, .int ((nI k) + 1)), (1, .int (nI (E1 k))), (0, .ref m0), (2, .int (nI (by2 f pM))), (3, .int (nI f0)), (4, .int (nI ib)), (12, .int (nI (E1 k))), (13, .int 0)], [], M575)) rfl rfl rfl ?_
                  rw [nI_add1 (p := k) (k := 1) (x := 1) rfl (by omega)]
                  show pl _ _ _ (_, [(5, .int (nI (k + 1))), (1, .int (nI (E1 k))), (0, .ref m0), (2, .int (nI (by2 f pM))), (3, .int (nI f0)), (4, .int (nI ib)), (12, .int (nI (E1 k))), (13, .int 0)], [], M575) _
                  refine ps_st (S' := (40, [(0, .ref m0), (1, .int (nI (E1 k))), (2, .int (nI (by2 f pM))), (3, .int (nI f0)), (4, .int (nI ib)), (5, .int (nI (k + 1)))], [], M575)) rfl rfl rfl ?_
                  have hN8 := FN.more hN9_623 hpk c35_625 c36_626 hsa hsd ht1 ht2
                  exact ih.1 (k + 1) (E1 k) (ib) M575 I605 R606 hR607 hEI628 hER629 hi611 hi612 hi613 hi614 hi615 hi618 hi616 hi617 hF_619 hY_620 hP_621 hK_622 hN8 (by omega) (fun h9 => (hm9.2.2.2 (by omega)).symm) (hm9.2.1) (by
                      rw [← hs, mtS_st (i := k) (by omega), ← hpk, mh_n hnm hfl hds (by rw [← hd9, show k - j = 0 by omega]; rfl), q462_s]
                      dsimp only
                      rw [cdu_0, if_pos (by omega), if_pos (by omega)]) (hib)
                · have c_502 : ¬ (0 ≤ y9) := of_decide_eq_false c_502
                  have hh9 : h9604 = 0 := by rcases hyc with h8 | h8; exact h8.1; exact absurd (Int32.not_le.mp c_502) h8.2
                  refine ps_st (S' := (506, [(13, .int 0), (0, .ref m0), (1, .int (nI p)), (2, .int (nI (by2 f pM))), (3, .int (nI f0)), (4, .int (nI ib)), (5, .int (nI k)), (11, .int (nI (f0 + k))), (12, .int (nI (E1 k)))], [.int 1], M575)) rfl rfl rfl ?_
                  refine ps_st (S' := (510, [(0, .ref m0), (1, .int (nI p)), (2, .int (nI (by2 f pM))), (3, .int (nI f0)), (4, .int (nI ib)), (5, .int (nI k)), (12, .int (nI (E1 k))), (13, .int 0)], [.int 1], M575)) rfl rfl rfl ?_
                  refine ps_st (S' := (512, [(0, .ref m0), (1, .int (nI p)), (2, .int (nI (by2 f pM))), (3, .int (nI f0)), (4, .int (nI ib)), (5, .int (nI k)), (12, .int (nI (E1 k))), (13, .int 0)], [.int 0, .int 1], M575)) rfl rfl rfl ?_
                  refine ps_if2 (S1 := (523, [(0, .ref m0), (1, .int (nI p)), (2, .int (nI (by2 f pM))), (3, .int (nI f0)), (4, .int (nI ib)), (5, .int (nI k)), (12, .int (nI (E1 k))), (13, .int 0)], [], M575)) (S2 := (515, [(0, .ref m0), (1, .int (nI p)), (2, .int (nI (by2 f pM))), (3, .int (nI f0)), (4, .int (nI ib)), (5, .int (nI k)), (12, .int (nI (E1 k))), (13, .int 0)], [], M575)) rfl rfl rfl (fun c_512 => ?_) (fun c_512 => ?_)
                  · exact absurd (of_decide_eq_true c_512) (by decide)
                  refine ps_st (S' := (516, [(0, .ref m0), (1, .int (nI p)), (2, .int (nI (by2 f pM))), (3, .int (nI f0)), (4, .int (nI ib)), (5, .int (nI k)), (12, .int (nI (E1 k))), (13, .int 0)], [.ref m0], M575)) rfl rfl rfl ?_
                  refine ps_st (S' := (518, [(0, .ref m0), (1, .int (nI p)), (2, .int (nI (by2 f pM))), (3, .int (nI f0)), (4, .int (nI ib)), (5, .int (nI k)), (12, .int (nI (E1 k))), (13, .int 0)], [.int 27, .ref m0], M575)) rfl rfl rfl ?_
                  refine ps_st (S' := (519, [(0, .ref m0), (1, .int (nI p)), (2, .int (nI (by2 f pM))), (3, .int (nI f0)), (4, .int (nI ib)), (5, .int (nI k)), (12, .int (nI (E1 k))), (13, .int 0)], [.int (nI p), .int 27, .ref m0], M575)) rfl rfl rfl ?_
                  refine pl_call (a := [.ref m0, .int 27, .int (nI p)]) (rest := []) rfl rfl rfl (rd_wrong (x1 := 27) (x2 := (nI p)) hR607) (fun v660 M661 q662 => ?_)
                  obtain ⟨I663, R664, rfl, hR665, hI666, hX667, hi668, hi669⟩ := q662
                  have hi670 := (hI666 51 (by decide)).trans hi611
                  have hi671 := (hI666 52 (by decide)).trans hi612
                  have hi672 := (hI666 53 (by decide)).trans hi613
                  have hi673 := (hI666 58 (by decide)).trans hi614
                  have hi674 := (hI666 56 (by decide)).trans hi615
                  have hi675 := (hI666 9 (by decide)).trans hi616
                  have hi676 := (hI666 10 (by decide)).trans hi617
                  have hi677 := (hI666 26 (by decide)).trans hi618
                  have hF_678 := hF_619.mono (cIx hI666 (by decide)) (cRx hX667 (by decide))
                  have hY_679 := hY_620.mono (cIx hI666 (by decide)) (cRx hX667 (by decide))
                  have hP_680 := hP_621.mono (cIx hI666 (by decide)) (cRx hX667 (by decide))
                  have hK_681 := hK_622.mono (cIx hI666 (by decide)) (cRx hX667 (by decide))
                  have hN9_682 := hN9_623.mono (cIx hI666 (by decide)) (cRx hX667 (by decide))
                  have c34_683 := c34_624.mono (cIx hI666 (by decide)) (cRx hX667 (by decide))
                  have c35_684 := c35_625.mono (cIx hI666 (by decide)) (cRx hX667 (by decide))
                  have c36_685 := c36_626.mono (cIx hI666 (by decide)) (cRx hX667 (by decide))
                  have hX_686 := hX_627.mono (cIx hI666 (by decide)) (cRx hX667 (by decide))
                  have hC_687 := hC_610.mono (cIx hI666 (by decide)) (cRx hX667 (by decide))
                  have hEI688 := hEI628.tr hI666 (by decide)
                  have hER689 := hER629.tr hX667 (by decide)
                  show pl _ _ _ (522, [(0, .ref m0), (1, .int (nI p)), (2, .int (nI (by2 f pM))), (3, .int (nI f0)), (4, .int (nI ib)), (5, .int (nI k)), (12, .int (nI (E1 k))), (13, .int 0)], [.int 0], M661) _
                  exact ps_ret rfl rfl (Or.inr ⟨(27, p), I663, R664, by
                      rw [← hs, mtS_st (i := k) (by omega), ← hpk, mh_n hnm hfl hds (by rw [← hd9, show k - j = 0 by omega]; rfl), q462_s]
                      dsimp only
                      rw [cdu_0, if_pos (by omega), if_neg (by omega)], rfl, hR665, hEI688, hER689, hi668, hi669⟩)
              · have c_485 : ¬ (¬ (nI i9) = 0) := of_decide_eq_false c_485
                have n_485 : i9 = 0 := (eq_nI (p := i9) (n := 0) (by omega) (by decide)).mp (Decidable.not_not.mp c_485)
                refine ps_st (S' := (489, [(12, .int (nI (E1 k))), (0, .ref m0), (1, .int (nI p)), (2, .int (nI (by2 f pM))), (3, .int (nI f0)), (4, .int (nI ib)), (5, .int (nI k)), (6, .int (nI (by2 f p))), (7, .int (nI a)), (9, .int (nI i9)), (10, .int (nI d)), (11, .int (nI (f0 + k)))], [.int 1], M575)) rfl rfl rfl ?_
                refine ps_st (S' := (493, [(0, .ref m0), (1, .int (nI p)), (2, .int (nI (by2 f pM))), (3, .int (nI f0)), (4, .int (nI ib)), (5, .int (nI k)), (11, .int (nI (f0 + k))), (12, .int (nI (E1 k)))], [.int 1], M575)) rfl rfl rfl ?_
                refine ps_st (S' := (495, [(13, .int 1), (0, .ref m0), (1, .int (nI p)), (2, .int (nI (by2 f pM))), (3, .int (nI f0)), (4, .int (nI ib)), (5, .int (nI k)), (11, .int (nI (f0 + k))), (12, .int (nI (E1 k)))], [], M575)) rfl rfl rfl ?_
                refine ps_st (S' := (496, [(13, .int 1), (0, .ref m0), (1, .int (nI p)), (2, .int (nI (by2 f pM))), (3, .int (nI f0)), (4, .int (nI ib)), (5, .int (nI k)), (11, .int (nI (f0 + k))), (12, .int (nI (E1 k)))], [.ref m0], M575)) rfl rfl rfl ?_
                refine pr_ref (j := 37) (S' := (499, [(13, .int 1), (0, .ref m0), (1, .int (nI p)), (2, .int (nI (by2 f pM))), (3, .int (nI f0)), (4, .int (nI ib)), (5, .int (nI k)), (11, .int (nI (f0 + k))), (12, .int (nI (E1 k)))], [.ref (q 37)], M575)) rfl hR607 rfl rfl ?_
                refine ps_st (S' := (501, [(13, .int 1), (0, .ref m0), (1, .int (nI p)), (2, .int (nI (by2 f pM))), (3, .int (nI f0)), (4, .int (nI ib)), (5, .int (nI k)), (11, .int (nI (f0 + k))), (12, .int (nI (E1 k)))], [.int (nI (f0 + k)), .ref (q 37)], M575)) rfl rfl rfl ?_
                refine pr_ld (a := 37) (j := f0 + k) (y := y9) (S' := (502, [(13, .int 1), (0, .ref m0), (1, .int (nI p)), (2, .int (nI (by2 f pM))), (3, .int (nI f0)), (4, .int (nI ib)), (5, .int (nI k)), (11, .int (nI (f0 + k))), (12, .int (nI (E1 k)))], [.int y9], M575)) rfl hR607 rfl (by omega) (fun _ => hy9) rfl (fun i1_501 => ?_)
                refine ps_if (S1 := (509, [(13, .int 1), (0, .ref m0), (1, .int (nI p)), (2, .int (nI (by2 f pM))), (3, .int (nI f0)), (4, .int (nI ib)), (5, .int (nI k)), (11, .int (nI (f0 + k))), (12, .int (nI (E1 k)))], [], M575)) (S2 := (505, [(13, .int 1), (0, .ref m0), (1, .int (nI p)), (2, .int (nI (by2 f pM))), (3, .int (nI f0)), (4, .int (nI ib)), (5, .int (nI k)), (11, .int (nI (f0 + k))), (12, .int (nI (E1 k)))], [], M575)) rfl rfl rfl (fun c_502 => ?_) (fun c_502 => ?_)
                · have c_502 : 0 ≤ y9 := of_decide_eq_true c_502
                  have hh9 : ¬ h9604 = 0 := by rcases hyc with h8 | h8; exact absurd h8.2 (Int32.not_lt.mpr c_502); exact h8.1
                  refine ps_st (S' := (510, [(0, .ref m0), (1, .int (nI p)), (2, .int (nI (by2 f pM))), (3, .int (nI f0)), (4, .int (nI ib)), (5, .int (nI k)), (12, .int (nI (E1 k))), (13, .int 1)], [.int 0], M575)) rfl rfl rfl ?_
                  refine ps_st (S' := (512, [(0, .ref m0), (1, .int (nI p)), (2, .int (nI (by2 f pM))), (3, .int (nI f0)), (4, .int (nI ib)), (5, .int (nI k)), (12, .int (nI (E1 k))), (13, .int 1)], [.int 1, .int 0], M575)) rfl rfl rfl ?_
                  refine ps_if2 (S1 := (523, [(0, .ref m0), (1, .int (nI p)), (2, .int (nI (by2 f pM))), (3, .int (nI f0)), (4, .int (nI ib)), (5, .int (nI k)), (12, .int (nI (E1 k))), (13, .int 1)], [], M575)) (S2 := (515, [(0, .ref m0), (1, .int (nI p)), (2, .int (nI (by2 f pM))), (3, .int (nI f0)), (4, .int (nI ib)), (5, .int (nI k)), (12, .int (nI (E1 k))), (13, .int 1)], [], M575)) rfl rfl rfl (fun c_512 => ?_) (fun c_512 => ?_)
                  · exact absurd (of_decide_eq_true c_512) (by decide)
                  refine ps_st (S' := (516, [(0, .ref m0), (1, .int (nI p)), (2, .int (nI (by2 f pM))), (3, .int (nI f0)), (4, .int (nI ib)), (5, .int (nI k)), (12, .int (nI (E1 k))), (13, .int 1)], [.ref m0], M575)) rfl rfl rfl ?_
                  refine ps_st (S' := (518, [(0, .ref m0), (1, .int (nI p)), (2, .int (nI (by2 f pM))), (3, .int (nI f0)), (4, .int (nI ib)), (5, .int (nI k)), (12, .int (nI (E1 k))), (13, .int 1)], [.int 27, .ref m0], M575)) rfl rfl rfl ?_
                  refine ps_st (S' := (519, [(0, .ref m0), (1, .int (nI p)), (2, .int (nI (by2 f pM))), (3, .int (nI f0)), (4, .int (nI ib)), (5, .int (nI k)), (12, .int (nI (E1 k))), (13, .int 1)], [.int (nI p), .int 27, .ref m0], M575)) rfl rfl rfl ?_
                  refine pl_call (a := [.ref m0, .int 27, .int (nI p)]) (rest := []) rfl rfl rfl (rd_wrong (x1 := 27) (x2 := (nI p)) hR607) (fun v690 M691 q692 => ?_)
                  obtain ⟨I693, R694, rfl, hR695, hI696, hX697, hi698, hi699⟩ := q692
                  have hi700 := (hI696 51 (by decide)).trans hi611
                  have hi701 := (hI696 52 (by decide)).trans hi612
                  have hi702 := (hI696 53 (by decide)).trans hi613
                  have hi703 := (hI696 58 (by decide)).trans hi614
                  have hi704 := (hI696 56 (by decide)).trans hi615
                  have hi705 := (hI696 9 (by decide)).trans hi616
                  have hi706 := (hI696 10 (by decide)).trans hi617
                  have hi707 := (hI696 26 (by decide)).trans hi618
                  have hF_708 := hF_619.mono (cIx hI696 (by decide)) (cRx hX697 (by decide))
                  have hY_709 := hY_620.mono (cIx hI696 (by decide)) (cRx hX697 (by decide))
                  have hP_710 := hP_621.mono (cIx hI696 (by decide)) (cRx hX697 (by decide))
                  have hK_711 := hK_622.mono (cIx hI696 (by decide)) (cRx hX697 (by decide))
                  have hN9_712 := hN9_623.mono (cIx hI696 (by decide)) (cRx hX697 (by decide))
                  have c34_713 := c34_624.mono (cIx hI696 (by decide)) (cRx hX697 (by decide))
                  have c35_714 := c35_625.mono (cIx hI696 (by decide)) (cRx hX697 (by decide))
                  have c36_715 := c36_626.mono (cIx hI696 (by decide)) (cRx hX697 (by decide))
                  have hX_716 := hX_627.mono (cIx hI696 (by decide)) (cRx hX697 (by decide))
                  have hC_717 := hC_610.mono (cIx hI696 (by decide)) (cRx hX697 (by decide))
                  have hEI718 := hEI628.tr hI696 (by decide)
                  have hER719 := hER629.tr hX697 (by decide)
                  show pl _ _ _ (522, [(0, .ref m0), (1, .int (nI p)), (2, .int (nI (by2 f pM))), (3, .int (nI f0)), (4, .int (nI ib)), (5, .int (nI k)), (12, .int (nI (E1 k))), (13, .int 1)], [.int 0], M691) _
                  exact ps_ret rfl rfl (Or.inr ⟨(27, p), I693, R694, by
                      rw [← hs, mtS_st (i := k) (by omega), ← hpk, mh_n hnm hfl hds (by rw [← hd9, show k - j = 0 by omega]; rfl), q462_s]
                      dsimp only
                      rw [cdu_0, if_neg (by omega), if_neg (by omega)], rfl, hR695, hEI718, hER719, hi698, hi699⟩)
                · have c_502 : ¬ (0 ≤ y9) := of_decide_eq_false c_502
                  have hh9 : h9604 = 0 := by rcases hyc with h8 | h8; exact h8.1; exact absurd (Int32.not_le.mp c_502) h8.2
                  refine ps_st (S' := (506, [(13, .int 1), (0, .ref m0), (1, .int (nI p)), (2, .int (nI (by2 f pM))), (3, .int (nI f0)), (4, .int (nI ib)), (5, .int (nI k)), (11, .int (nI (f0 + k))), (12, .int (nI (E1 k)))], [.int 1], M575)) rfl rfl rfl ?_
                  refine ps_st (S' := (510, [(0, .ref m0), (1, .int (nI p)), (2, .int (nI (by2 f pM))), (3, .int (nI f0)), (4, .int (nI ib)), (5, .int (nI k)), (12, .int (nI (E1 k))), (13, .int 1)], [.int 1], M575)) rfl rfl rfl ?_
                  refine ps_st (S' := (512, [(0, .ref m0), (1, .int (nI p)), (2, .int (nI (by2 f pM))), (3, .int (nI f0)), (4, .int (nI ib)), (5, .int (nI k)), (12, .int (nI (E1 k))), (13, .int 1)], [.int 1, .int 1], M575)) rfl rfl rfl ?_
                  refine ps_if2 (S1 := (523, [(0, .ref m0), (1, .int (nI p)), (2, .int (nI (by2 f pM))), (3, .int (nI f0)), (4, .int (nI ib)), (5, .int (nI k)), (12, .int (nI (E1 k))), (13, .int 1)], [], M575)) (S2 := (515, [(0, .ref m0), (1, .int (nI p)), (2, .int (nI (by2 f pM))), (3, .int (nI f0)), (4, .int (nI ib)), (5, .int (nI k)), (12, .int (nI (E1 k))), (13, .int 1)], [], M575)) rfl rfl rfl (fun c_512 => ?_) (fun c_512 => ?_)
                  rotate_left
                  · exact absurd (by decide) (of_decide_eq_false c_512)
                  refine ps_st (S' := (525, [(0, .ref m0), (1, .int (nI p)), (2, .int (nI (by2 f pM))), (3, .int (nI f0)), (4, .int (nI ib)), (5, .int (nI k)), (12, .int (nI (E1 k))), (13, .int 1)], [.int (nI (E1 k))], M575)) rfl rfl rfl ?_
                  refine ps_st (S' := (526, [(1, .int (nI (E1 k))), (0, .ref m0), (2, .int (nI (by2 f pM))), (3, .int (nI f0)), (4, .int (nI ib)), (5, .int (nI k)), (12, .int (nI (E1 k))), (13, .int 1)], [], M575)) rfl rfl rfl ?_
                  refine ps_st (S' := (529, [(5, .int ((nI k) + 1)), (1, .int (nI (E1 k))), (0, .ref m0), (2, .int (nI (by2 f pM))), (3, .int (nI f0)), (4, .int (nI ib)), (12, .int (nI (E1 k))), (13, .int 1)], [], M575)) rfl rfl rfl ?_
                  rw [nI_add1 (p := k) (k := 1) (x := 1) rfl (by omega)]
                  show pl _ _ _ (_, [(5, .int (nI (k + 1))), (1, .int (nI (E1 k))), (0, .ref m0), (2, .int (nI (by2 f pM))), (3, .int (nI f0)), (4, .int (nI ib)), (12, .int (nI (E1 k))), (13, .int 1)], [], M575) _
                  refine ps_st (S' := (40, [(0, .ref m0), (1, .int (nI (E1 k))), (2, .int (nI (by2 f pM))), (3, .int (nI f0)), (4, .int (nI ib)), (5, .int (nI (k + 1)))], [], M575)) rfl rfl rfl ?_
                  have hN8 := FN.more hN9_623 hpk c35_625 c36_626 hsa hsd ht1 ht2
                  exact ih.1 (k + 1) (E1 k) (ib) M575 I605 R606 hR607 hEI628 hER629 hi611 hi612 hi613 hi614 hi615 hi618 hi616 hi617 hF_619 hY_620 hP_621 hK_622 hN8 (by omega) (fun h9 => (hm9.2.2.2 (by omega)).symm) (hm9.2.1) (by
                      rw [← hs, mtS_st (i := k) (by omega), ← hpk, mh_n hnm hfl hds (by rw [← hd9, show k - j = 0 by omega]; rfl), q462_s]
                      dsimp only
                      rw [cdu_0, if_neg (by omega), if_pos (by omega)]) (hib)
        · have c_403 : ¬ ((nI (f0 + k)) ≤ (nI (f0 + j))) := of_decide_eq_false c_403
          have n_403 : ¬ (f0 + k ≤ f0 + j) := fun h9 => c_403 ((le_nI (p := f0 + k) (n := f0 + j) (by omega) (by omega)).mpr h9)
          obtain ⟨a9, d9, g1, g2, g3, g4, g5, g6⟩ := hN91 j (by omega)
          have g7 := g3.1
          have g8 := g4.1
          have sm1 := sm_sym (k := by2 f (B.getD j 0 + 2)) (m := by2 f (p + 2)) hY1 g3 hsa g5 ht1
          have sm2 := sm_sym (k := by2 f (B.getD j 0 + 4)) (m := by2 f (p + 4)) hY1 g4 hsd g6 ht2
          refine ps_st (S' := (407, [(0, .ref m0), (1, .int (nI p)), (2, .int (nI (by2 f pM))), (3, .int (nI f0)), (4, .int (nI ib)), (5, .int (nI k)), (6, .int (nI (by2 f p))), (7, .int (nI a)), (9, .int (nI i9)), (10, .int (nI d)), (11, .int (nI (f0 + k))), (12, .int (nI (f0 + j)))], [.ref m0], M1)) rfl rfl rfl ?_
          refine pr_ref (j := 35) (S' := (410, [(0, .ref m0), (1, .int (nI p)), (2, .int (nI (by2 f pM))), (3, .int (nI f0)), (4, .int (nI ib)), (5, .int (nI k)), (6, .int (nI (by2 f p))), (7, .int (nI a)), (9, .int (nI i9)), (10, .int (nI d)), (11, .int (nI (f0 + k))), (12, .int (nI (f0 + j)))], [.ref (q 35)], M1)) rfl hR1 rfl rfl ?_
          refine ps_st (S' := (412, [(0, .ref m0), (1, .int (nI p)), (2, .int (nI (by2 f pM))), (3, .int (nI f0)), (4, .int (nI ib)), (5, .int (nI k)), (6, .int (nI (by2 f p))), (7, .int (nI a)), (9, .int (nI i9)), (10, .int (nI d)), (11, .int (nI (f0 + k))), (12, .int (nI (f0 + j)))], [.int (nI (f0 + j)), .ref (q 35)], M1)) rfl rfl rfl ?_
          refine pr_ld (a := 35) (j := f0 + j) (y := (nI a9)) (S' := (413, [(0, .ref m0), (1, .int (nI p)), (2, .int (nI (by2 f pM))), (3, .int (nI f0)), (4, .int (nI ib)), (5, .int (nI k)), (6, .int (nI (by2 f p))), (7, .int (nI a)), (9, .int (nI i9)), (10, .int (nI d)), (11, .int (nI (f0 + k))), (12, .int (nI (f0 + j)))], [.int (nI a9)], M1)) rfl hR1 rfl (by omega) (fun _ => g1) rfl (fun i1_412 => ?_)
          refine ps_st (S' := (415, [(0, .ref m0), (1, .int (nI p)), (2, .int (nI (by2 f pM))), (3, .int (nI f0)), (4, .int (nI ib)), (5, .int (nI k)), (6, .int (nI (by2 f p))), (7, .int (nI a)), (9, .int (nI i9)), (10, .int (nI d)), (11, .int (nI (f0 + k))), (12, .int (nI (f0 + j)))], [.int (nI a), .int (nI a9)], M1)) rfl rfl rfl ?_
          refine ps_if2 (S1 := (438, [(0, .ref m0), (1, .int (nI p)), (2, .int (nI (by2 f pM))), (3, .int (nI f0)), (4, .int (nI ib)), (5, .int (nI k)), (6, .int (nI (by2 f p))), (7, .int (nI a)), (9, .int (nI i9)), (10, .int (nI d)), (11, .int (nI (f0 + k))), (12, .int (nI (f0 + j)))], [], M1)) (S2 := (418, [(0, .ref m0), (1, .int (nI p)), (2, .int (nI (by2 f pM))), (3, .int (nI f0)), (4, .int (nI ib)), (5, .int (nI k)), (6, .int (nI (by2 f p))), (7, .int (nI a)), (9, .int (nI i9)), (10, .int (nI d)), (11, .int (nI (f0 + k))), (12, .int (nI (f0 + j)))], [], M1)) rfl rfl rfl (fun c_415 => ?_) (fun c_415 => ?_)
          · have c_415 : ¬ (nI a9) = (nI a) := of_decide_eq_true c_415
            have n_415 : ¬ (a9 = a) := fun h9 => c_415 ((eq_nI (p := a9) (n := a) (by omega) (by omega)).mpr h9)
            refine ps_st (S' := (441, [(12, .int ((nI (f0 + j)) + 1)), (0, .ref m0), (1, .int (nI p)), (2, .int (nI (by2 f pM))), (3, .int (nI f0)), (4, .int (nI ib)), (5, .int (nI k)), (6, .int (nI (by2 f p))), (7, .int (nI a)), (9, .int (nI i9)), (10, .int (nI d)), (11, .int (nI (f0 + k)))], [], M1)) rfl rfl rfl ?_
            rw [nI_add1 (p := f0 + j) (k := 1) (x := 1) rfl (by omega)]
            show pl _ _ _ (_, [(12, .int (nI (f0 + j + 1))), (0, .ref m0), (1, .int (nI p)), (2, .int (nI (by2 f pM))), (3, .int (nI f0)), (4, .int (nI ib)), (5, .int (nI k)), (6, .int (nI (by2 f p))), (7, .int (nI a)), (9, .int (nI i9)), (10, .int (nI d)), (11, .int (nI (f0 + k)))], [], M1) _
            refine ps_st (S' := (399, [(0, .ref m0), (1, .int (nI p)), (2, .int (nI (by2 f pM))), (3, .int (nI f0)), (4, .int (nI ib)), (5, .int (nI k)), (6, .int (nI (by2 f p))), (7, .int (nI a)), (9, .int (nI i9)), (10, .int (nI d)), (11, .int (nI (f0 + k))), (12, .int (nI (f0 + j + 1)))], [], M1)) rfl rfl rfl ?_
            exact ih.2.2.2 (k) (p) (ib) (a) (i9) (d) (j + 1) M1 I1 R1 hR1 hEI1 hER1 hl51 hl52 hl53 hl58 hl56 hl26 hl9 hl10 hF1 hY1 hP1 hK1 hN91 c341 c351 c361 hC1 (hk0) (hpk) (hpe) (hs) (hib) (hsa) (ht1) (hnm) (hfl) (h9c) (hsd) (ht2) (hmt) (hds) (by omega) (hx) (by
                rw [← hd9, smeS_st (i := j) (by omega), if_neg (by omega)])
          · have c_415 : ¬ (¬ (nI a9) = (nI a)) := of_decide_eq_false c_415
            have n_415 : a9 = a := (eq_nI (p := a9) (n := a) (by omega) (by omega)).mp (Decidable.not_not.mp c_415)
            refine ps_st (S' := (419, [(0, .ref m0), (1, .int (nI p)), (2, .int (nI (by2 f pM))), (3, .int (nI f0)), (4, .int (nI ib)), (5, .int (nI k)), (6, .int (nI (by2 f p))), (7, .int (nI a)), (9, .int (nI i9)), (10, .int (nI d)), (11, .int (nI (f0 + k))), (12, .int (nI (f0 + j)))], [.ref m0], M1)) rfl rfl rfl ?_
            refine pr_ref (j := 36) (S' := (422, [(0, .ref m0), (1, .int (nI p)), (2, .int (nI (by2 f pM))), (3, .int (nI f0)), (4, .int (nI ib)), (5, .int (nI k)), (6, .int (nI (by2 f p))), (7, .int (nI a)), (9, .int (nI i9)), (10, .int (nI d)), (11, .int (nI (f0 + k))), (12, .int (nI (f0 + j)))], [.ref (q 36)], M1)) rfl hR1 rfl rfl ?_
            refine ps_st (S' := (424, [(0, .ref m0), (1, .int (nI p)), (2, .int (nI (by2 f pM))), (3, .int (nI f0)), (4, .int (nI ib)), (5, .int (nI k)), (6, .int (nI (by2 f p))), (7, .int (nI a)), (9, .int (nI i9)), (10, .int (nI d)), (11, .int (nI (f0 + k))), (12, .int (nI (f0 + j)))], [.int (nI (f0 + j)), .ref (q 36)], M1)) rfl rfl rfl ?_
            refine pr_ld (a := 36) (j := f0 + j) (y := (nI d9)) (S' := (425, [(0, .ref m0), (1, .int (nI p)), (2, .int (nI (by2 f pM))), (3, .int (nI f0)), (4, .int (nI ib)), (5, .int (nI k)), (6, .int (nI (by2 f p))), (7, .int (nI a)), (9, .int (nI i9)), (10, .int (nI d)), (11, .int (nI (f0 + k))), (12, .int (nI (f0 + j)))], [.int (nI d9)], M1)) rfl hR1 rfl (by omega) (fun _ => g2) rfl (fun i1_424 => ?_)
            refine ps_st (S' := (427, [(0, .ref m0), (1, .int (nI p)), (2, .int (nI (by2 f pM))), (3, .int (nI f0)), (4, .int (nI ib)), (5, .int (nI k)), (6, .int (nI (by2 f p))), (7, .int (nI a)), (9, .int (nI i9)), (10, .int (nI d)), (11, .int (nI (f0 + k))), (12, .int (nI (f0 + j)))], [.int (nI d), .int (nI d9)], M1)) rfl rfl rfl ?_
            refine ps_if2 (S1 := (438, [(0, .ref m0), (1, .int (nI p)), (2, .int (nI (by2 f pM))), (3, .int (nI f0)), (4, .int (nI ib)), (5, .int (nI k)), (6, .int (nI (by2 f p))), (7, .int (nI a)), (9, .int (nI i9)), (10, .int (nI d)), (11, .int (nI (f0 + k))), (12, .int (nI (f0 + j)))], [], M1)) (S2 := (430, [(0, .ref m0), (1, .int (nI p)), (2, .int (nI (by2 f pM))), (3, .int (nI f0)), (4, .int (nI ib)), (5, .int (nI k)), (6, .int (nI (by2 f p))), (7, .int (nI a)), (9, .int (nI i9)), (10, .int (nI d)), (11, .int (nI (f0 + k))), (12, .int (nI (f0 + j)))], [], M1)) rfl rfl rfl (fun c_427 => ?_) (fun c_427 => ?_)
            · have c_427 : ¬ (nI d9) = (nI d) := of_decide_eq_true c_427
              have n_427 : ¬ (d9 = d) := fun h9 => c_427 ((eq_nI (p := d9) (n := d) (by omega) (by omega)).mpr h9)
              refine ps_st (S' := (441, [(12, .int ((nI (f0 + j)) + 1)), (0, .ref m0), (1, .int (nI p)), (2, .int (nI (by2 f pM))), (3, .int (nI f0)), (4, .int (nI ib)), (5, .int (nI k)), (6, .int (nI (by2 f p))), (7, .int (nI a)), (9, .int (nI i9)), (10, .int (nI d)), (11, .int (nI (f0 + k)))], [], M1)) rfl rfl rfl ?_
              rw [nI_add1 (p := f0 + j) (k := 1) (x := 1) rfl (by omega)]
              show pl _ _ _ (_, [(12, .int (nI (f0 + j + 1))), (0, .ref m0), (1, .int (nI p)), (2, .int (nI (by2 f pM))), (3, .int (nI f0)), (4, .int (nI ib)), (5, .int (nI k)), (6, .int (nI (by2 f p))), (7, .int (nI a)), (9, .int (nI i9)), (10, .int (nI d)), (11, .int (nI (f0 + k)))], [], M1) _
              refine ps_st (S' := (399, [(0, .ref m0), (1, .int (nI p)), (2, .int (nI (by2 f pM))), (3, .int (nI f0)), (4, .int (nI ib)), (5, .int (nI k)), (6, .int (nI (by2 f p))), (7, .int (nI a)), (9, .int (nI i9)), (10, .int (nI d)), (11, .int (nI (f0 + k))), (12, .int (nI (f0 + j + 1)))], [], M1)) rfl rfl rfl ?_
              exact ih.2.2.2 (k) (p) (ib) (a) (i9) (d) (j + 1) M1 I1 R1 hR1 hEI1 hER1 hl51 hl52 hl53 hl58 hl56 hl26 hl9 hl10 hF1 hY1 hP1 hK1 hN91 c341 c351 c361 hC1 (hk0) (hpk) (hpe) (hs) (hib) (hsa) (ht1) (hnm) (hfl) (h9c) (hsd) (ht2) (hmt) (hds) (by omega) (hx) (by
                  rw [← hd9, smeS_st (i := j) (by omega), if_neg (by omega)])
            · have c_427 : ¬ (¬ (nI d9) = (nI d)) := of_decide_eq_false c_427
              have n_427 : d9 = d := (eq_nI (p := d9) (n := d) (by omega) (by omega)).mp (Decidable.not_not.mp c_427)
              refine ps_st (S' := (431, [(0, .ref m0), (1, .int (nI p)), (2, .int (nI (by2 f pM))), (3, .int (nI f0)), (4, .int (nI ib)), (5, .int (nI k)), (6, .int (nI (by2 f p))), (7, .int (nI a)), (9, .int (nI i9)), (10, .int (nI d)), (11, .int (nI (f0 + k))), (12, .int (nI (f0 + j)))], [.ref m0], M1)) rfl rfl rfl ?_
              refine ps_st (S' := (433, [(0, .ref m0), (1, .int (nI p)), (2, .int (nI (by2 f pM))), (3, .int (nI f0)), (4, .int (nI ib)), (5, .int (nI k)), (6, .int (nI (by2 f p))), (7, .int (nI a)), (9, .int (nI i9)), (10, .int (nI d)), (11, .int (nI (f0 + k))), (12, .int (nI (f0 + j)))], [.int 26, .ref m0], M1)) rfl rfl rfl ?_
              refine ps_st (S' := (434, [(0, .ref m0), (1, .int (nI p)), (2, .int (nI (by2 f pM))), (3, .int (nI f0)), (4, .int (nI ib)), (5, .int (nI k)), (6, .int (nI (by2 f p))), (7, .int (nI a)), (9, .int (nI i9)), (10, .int (nI d)), (11, .int (nI (f0 + k))), (12, .int (nI (f0 + j)))], [.int (nI p), .int 26, .ref m0], M1)) rfl rfl rfl ?_
              refine pl_call (a := [.ref m0, .int 26, .int (nI p)]) (rest := []) rfl rfl rfl (rd_wrong (x1 := 26) (x2 := (nI p)) hR1) (fun v720 M721 q722 => ?_)
              obtain ⟨I723, R724, rfl, hR725, hI726, hX727, hi728, hi729⟩ := q722
              have hi730 := (hI726 51 (by decide)).trans hl51
              have hi731 := (hI726 52 (by decide)).trans hl52
              have hi732 := (hI726 53 (by decide)).trans hl53
              have hi733 := (hI726 58 (by decide)).trans hl58
              have hi734 := (hI726 56 (by decide)).trans hl56
              have hi735 := (hI726 26 (by decide)).trans hl26
              have hi736 := (hI726 9 (by decide)).trans hl9
              have hi737 := (hI726 10 (by decide)).trans hl10
              have hF_738 := hF1.mono (cIx hI726 (by decide)) (cRx hX727 (by decide))
              have hY_739 := hY1.mono (cIx hI726 (by decide)) (cRx hX727 (by decide))
              have hP_740 := hP1.mono (cIx hI726 (by decide)) (cRx hX727 (by decide))
              have hK_741 := hK1.mono (cIx hI726 (by decide)) (cRx hX727 (by decide))
              have hN9_742 := hN91.mono (cIx hI726 (by decide)) (cRx hX727 (by decide))
              have c34_743 := c341.mono (cIx hI726 (by decide)) (cRx hX727 (by decide))
              have c35_744 := c351.mono (cIx hI726 (by decide)) (cRx hX727 (by decide))
              have c36_745 := c361.mono (cIx hI726 (by decide)) (cRx hX727 (by decide))
              have hC_746 := hC1.mono (cIx hI726 (by decide)) (cRx hX727 (by decide))
              have hEI747 := hEI1.tr hI726 (by decide)
              have hER748 := hER1.tr hX727 (by decide)
              show pl _ _ _ (437, [(0, .ref m0), (1, .int (nI p)), (2, .int (nI (by2 f pM))), (3, .int (nI f0)), (4, .int (nI ib)), (5, .int (nI k)), (6, .int (nI (by2 f p))), (7, .int (nI a)), (9, .int (nI i9)), (10, .int (nI d)), (11, .int (nI (f0 + k))), (12, .int (nI (f0 + j)))], [.int 0], M721) _
              exact ps_ret rfl rfl (Or.inr ⟨(26, p), I723, R724, by
                  rw [← hs, mtS_st (i := k) (by omega), ← hpk, mh_26 hnm hfl hds (by rw [← hd9, smeS_st (i := j) (by omega), if_pos (by omega)]; exact fun h9 => by cases h9)], rfl, hR725, hEI747, hER748, hi728, hi729⟩)
  refine ps_st (S' := (1, [(0, .ref m0)], [.ref m0], M)) rfl rfl rfl ?_
  refine pr_int (j := 56) (S' := (4, [(0, .ref m0)], [.int (nI pM)], M)) rfl hR rfl hi56 rfl ?_
  refine ps_st (S' := (5, [(1, .int (nI pM)), (0, .ref m0)], [], M)) rfl rfl rfl ?_
  refine ps_st (S' := (6, [(1, .int (nI pM)), (0, .ref m0)], [.ref m0], M)) rfl rfl rfl ?_
  refine ps_st (S' := (7, [(1, .int (nI pM)), (0, .ref m0)], [.int (nI pM), .ref m0], M)) rfl rfl rfl ?_
  refine pl_call (a := [.ref m0, .int (nI pM)]) (rest := []) rfl rfl rfl (rd_u2 (n := n) (f := f) (p := pM) hR hF (by omega)) (fun v749 M750 q751 => ?_)
  obtain ⟨rfl, rfl⟩ := q751
  show pl _ _ _ (10, [(1, .int (nI pM)), (0, .ref m0)], [.int (nI (by2 f pM))], M) _
  have hu_7 := by2_lt f pM
  refine ps_st (S' := (11, [(2, .int (nI (by2 f pM))), (1, .int (nI pM)), (0, .ref m0)], [], M)) rfl rfl rfl ?_
  refine ps_st (S' := (14, [(1, .int ((nI pM) + 2)), (2, .int (nI (by2 f pM))), (0, .ref m0)], [], M)) rfl rfl rfl ?_
  rw [nI_add1 (p := pM) (k := 2) (x := 2) rfl (by omega)]
  show pl _ _ _ (_, [(1, .int (nI (pM + 2))), (2, .int (nI (by2 f pM))), (0, .ref m0)], [], M) _
  refine ps_st (S' := (15, [(1, .int (nI (pM + 2))), (2, .int (nI (by2 f pM))), (0, .ref m0)], [.ref m0], M)) rfl rfl rfl ?_
  refine pr_int (j := 26) (S' := (18, [(1, .int (nI (pM + 2))), (2, .int (nI (by2 f pM))), (0, .ref m0)], [.int (nI f0)], M)) rfl hR rfl hi26 rfl ?_
  refine ps_st (S' := (19, [(3, .int (nI f0)), (1, .int (nI (pM + 2))), (2, .int (nI (by2 f pM))), (0, .ref m0)], [], M)) rfl rfl rfl ?_
  refine ps_st (S' := (20, [(3, .int (nI f0)), (1, .int (nI (pM + 2))), (2, .int (nI (by2 f pM))), (0, .ref m0)], [.ref m0], M)) rfl rfl rfl ?_
  refine pr_int (j := 58) (S' := (23, [(3, .int (nI f0)), (1, .int (nI (pM + 2))), (2, .int (nI (by2 f pM))), (0, .ref m0)], [.int (nI cf)], M)) rfl hR rfl hi58 rfl ?_
  refine ps_st (S' := (26, [(3, .int (nI f0)), (1, .int (nI (pM + 2))), (2, .int (nI (by2 f pM))), (0, .ref m0)], [.int 512, .int (nI cf)], M)) rfl rfl rfl ?_
  refine ps_st (S' := (27, [(3, .int (nI f0)), (1, .int (nI (pM + 2))), (2, .int (nI (by2 f pM))), (0, .ref m0)], [.int ((nI cf) &&& 512)], M)) rfl rfl rfl ?_
  rw [nI_an (p := cf) (k := 512) (x := 512) rfl]
  show pl _ _ _ (_, [(3, .int (nI f0)), (1, .int (nI (pM + 2))), (2, .int (nI (by2 f pM))), (0, .ref m0)], [.int (nI (aN cf 512))], M) _
  refine ps_if (S1 := (34, [(3, .int (nI f0)), (1, .int (nI (pM + 2))), (2, .int (nI (by2 f pM))), (0, .ref m0)], [], M)) (S2 := (30, [(3, .int (nI f0)), (1, .int (nI (pM + 2))), (2, .int (nI (by2 f pM))), (0, .ref m0)], [], M)) rfl rfl rfl (fun c_27 => ?_) (fun c_27 => ?_)
  · have c_27 : (nI (aN cf 512)) = 0 := of_decide_eq_true c_27
    have n_27 : aN cf 512 = 0 := (eq_nI (p := aN cf 512) (n := 0) (Nat.lt_of_le_of_lt (an_le _ _) (by decide)) (by decide)).mp c_27
    refine ps_st (S' := (35, [(0, .ref m0), (1, .int (nI (pM + 2))), (2, .int (nI (by2 f pM))), (3, .int (nI f0))], [.int 0], M)) rfl rfl rfl ?_
    refine ps_st (S' := (37, [(4, .int 0), (0, .ref m0), (1, .int (nI (pM + 2))), (2, .int (nI (by2 f pM))), (3, .int (nI f0))], [], M)) rfl rfl rfl ?_
    refine ps_st (S' := (38, [(4, .int 0), (0, .ref m0), (1, .int (nI (pM + 2))), (2, .int (nI (by2 f pM))), (3, .int (nI f0))], [.int 0], M)) rfl rfl rfl ?_
    refine ps_st (S' := (40, [(0, .ref m0), (1, .int (nI (pM + 2))), (2, .int (nI (by2 f pM))), (3, .int (nI f0)), (4, .int 0), (5, .int 0)], [], M)) rfl rfl rfl ?_
    exact (LL kf).1 (0) (pM + 2) (0) M I R hR hEI hER hi51 hi52 hi53 hi58 hi56 hi26 hi9 hi10 hF hY hP hK hFN0 (by omega) (fun h9 => (hMB.2.2.1 (by omega)).symm) (by omega) (rfl) (by omega)
  · have c_27 : ¬ ((nI (aN cf 512)) = 0) := of_decide_eq_false c_27
    have n_27 : ¬ (aN cf 512 = 0) := fun h9 => c_27 ((eq_nI (p := aN cf 512) (n := 0) (Nat.lt_of_le_of_lt (an_le _ _) (by decide)) (by decide)).mpr h9)
    refine ps_st (S' := (31, [(3, .int (nI f0)), (1, .int (nI (pM + 2))), (2, .int (nI (by2 f pM))), (0, .ref m0)], [.int 1], M)) rfl rfl rfl ?_
    refine ps_st (S' := (35, [(0, .ref m0), (1, .int (nI (pM + 2))), (2, .int (nI (by2 f pM))), (3, .int (nI f0))], [.int 1], M)) rfl rfl rfl ?_
    refine ps_st (S' := (37, [(4, .int 1), (0, .ref m0), (1, .int (nI (pM + 2))), (2, .int (nI (by2 f pM))), (3, .int (nI f0))], [], M)) rfl rfl rfl ?_
    refine ps_st (S' := (38, [(4, .int 1), (0, .ref m0), (1, .int (nI (pM + 2))), (2, .int (nI (by2 f pM))), (3, .int (nI f0))], [.int 0], M)) rfl rfl rfl ?_
    refine ps_st (S' := (40, [(0, .ref m0), (1, .int (nI (pM + 2))), (2, .int (nI (by2 f pM))), (3, .int (nI f0)), (4, .int 1), (5, .int 0)], [], M)) rfl rfl rfl ?_
    exact (LL kf).1 (0) (pM + 2) (1) M I R hR hEI hER hi51 hi52 hi53 hi58 hi56 hi26 hi9 hi10 hF hY hP hK hFN0 (by omega) (fun h9 => (hMB.2.2.1 (by omega)).symm) (by omega) (rfl) (by omega)
