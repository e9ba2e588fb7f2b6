/-! names of members stay (laid by wip/p4/e27.py) -/
set_option maxHeartbeats 8000000 in
theorem rd_checkFields2 {g : xe_G} {m0 : Nat} {q : Nat → Nat} {z : Nat × Nat} {I : rI} {R : rR} {M : mi_H} {n : Nat} {f : Nat → Int32} {tx : List (List Nat)} {cN : Nat} {A : Nat → Nat} {N mj : Nat} {E : List (Nat × Nat)} {pF f0 cf : Nat} {B : List Nat} {E1 : Nat → Nat} (hR : RS g m0 q z I R M) (hi51 : I 51 = some 0) (hi52 : I 52 = some (nI N)) (hi53 : I 53 = some (nI mj)) (hi58 : I 58 = some (nI cf)) (hi55 : I 55 = some (nI pF)) (hi25 : I 25 = some (nI f0)) (hF : FK n f I R) (hY : SYT tx cN A I R) (hP : RPV f n E tx N I R) (hK : KX I R) (hEP : EP f n E) (hN : N < 65536) (hmj : mj < 65536) (hMB : MBS f n B pF E1) (hf0 : f0 ≤ 8300) (hcf : cf < 65536) : pt (mT g) 189 [.ref m0] M (fun v M' => (∃  (I' : rI) (R' : rR), (flS f n E cf B B.length 0 = none) ∧ v = some (.int 1) ∧ RS g m0 q z I' R' M' ∧ eqI [25, 47, 48] I I' ∧ eqR [27, 28, 29, 30, 31, 32, 33] R R' ∧ I' 25 = some (nI (f0 + B.length)) ∧ FN 28 29 f n E tx B f0 B.length I' R') ∨ (∃ (e9 : Nat × Nat) (I' : rI) (R' : rR), (flS f n E cf B B.length 0 = some e9) ∧ v = some (.int 0) ∧ RS g m0 q z I' R' M' ∧ eqI [25, 47, 48] I I' ∧ eqR [27, 28, 29, 30, 31, 32, 33] R R' ∧ I' 47 = some (nI e9.1) ∧ I' 48 = some (nI e9.2))) := by
  refine pt_in (b := mb_189 g) rfl (fun kf => ?_)
  show pl (mT g) kf (mb_189 g).2 (0, [(0, .ref m0)], [], M) _
  have hEI : eqI [25, 47, 48] I I := eqI.rf
  have hER : eqR [27, 28, 29, 30, 31, 32, 33] R R := eqR.rf
  have hn := hF.1
  have hBl := hMB.1
  have hp2 := hMB.2.1
  have hFN0 : FN 28 29 f n E tx B f0 0 I R := fun j hj => absurd hj (Nat.not_lt_zero _)
  have LL : ∀ (kf : Nat), (∀ (k p : Nat) (M1 : mi_H) (I1 : rI) (R1 : rR), (RS g m0 q z I1 R1 M1) → (eqI [25, 47, 48] I I1) → (eqR [27, 28, 29, 30, 31, 32, 33] R R1) → (I1 51 = some 0) → (I1 52 = some (nI N)) → (I1 53 = some (nI mj)) → (I1 58 = some (nI cf)) → (I1 55 = some (nI pF)) → (I1 25 = some (nI (f0 + k))) → (FK n f I1 R1) → (SYT tx cN A I1 R1) → (RPV f n E tx N I1 R1) → (KX I1 R1) → (FN 28 29 f n E tx B f0 k I1 R1) → (k ≤ by2 f pF) → (k < by2 f pF → p = B.getD k 0) → (p ≤ n) → (flS f n E cf B (B.length - k) k = flS f n E cf B B.length 0) →  pl (mT g) kf (mb_189 g).2 (22, [(0, .ref m0), (1, .int (nI p)), (2, .int (nI (by2 f pF))), (3, .int (nI f0)), (4, .int (nI k))], [], M1) (fun v M' => (∃  (I' : rI) (R' : rR), (flS f n E cf B B.length 0 = none) ∧ v = some (.int 1) ∧ RS g m0 q z I' R' M' ∧ eqI [25, 47, 48] I I' ∧ eqR [27, 28, 29, 30, 31, 32, 33] R R' ∧ I' 25 = some (nI (f0 + B.length)) ∧ FN 28 29 f n E tx B f0 B.length I' R') ∨ (∃ (e9 : Nat × Nat) (I' : rI) (R' : rR), (flS f n E cf B B.length 0 = some e9) ∧ v = some (.int 0) ∧ RS g m0 q z I' R' M' ∧ eqI [25, 47, 48] I I' ∧ eqR [27, 28, 29, 30, 31, 32, 33] R R' ∧ I' 47 = some (nI e9.1) ∧ I' 48 = some (nI e9.2)))) ∧ (∀ (k p j a d : Nat) (M1 : mi_H) (I1 : rI) (R1 : rR), (RS g m0 q z I1 R1 M1) → (eqI [25, 47, 48] I I1) → (eqR [27, 28, 29, 30, 31, 32, 33] R R1) → (I1 51 = some 0) → (I1 52 = some (nI N)) → (I1 53 = some (nI mj)) → (I1 58 = some (nI cf)) → (I1 55 = some (nI pF)) → (I1 25 = some (nI (f0 + k))) → (FK n f I1 R1) → (SYT tx cN A I1 R1) → (RPV f n E tx N I1 R1) → (KX I1 R1) → (FN 28 29 f n E tx B f0 k I1 R1) → (CE 27 (f0 + k) (nI (by2 f p)) I1 R1) → (CE 28 (f0 + k) (nI a) I1 R1) → (CE 29 (f0 + k) (nI d) I1 R1) → (k < by2 f pF) → (p = B.getD k 0) → (p + 8 ≤ n) → (flS f n E cf B (B.length - k) k = flS f n E cf B B.length 0) → (j ≤ k) → (f0 + k < 8300) → (a < tx.length ∧ tx.getD a [] = tX f n E (by2 f (p + 2))) → (d < tx.length ∧ tx.getD d [] = tX f n E (by2 f (p + 4))) → (tg f E (by2 f (p + 2)) = 1) → (tg f E (by2 f (p + 4)) = 1) → (¬ fflN cf (by2 f p) = 0) → (¬ unqN (tX f n E (by2 f (p + 2))) = 0) → (¬ fldN (tX f n E (by2 f (p + 4))) = 0) → (smeS f n E B (by2 f (p + 2)) (by2 f (p + 4)) (k - j) j = smeS f n E B (by2 f (p + 2)) (by2 f (p + 4)) k 0) →  pl (mT g) kf (mb_189 g).2 (277, [(0, .ref m0), (1, .int (nI p)), (2, .int (nI (by2 f pF))), (3, .int (nI f0)), (4, .int (nI k)), (6, .int (nI (f0 + k))), (7, .int (nI (f0 + j)))], [], M1) (fun v M' => (∃  (I' : rI) (R' : rR), (flS f n E cf B B.length 0 = none) ∧ v = some (.int 1) ∧ RS g m0 q z I' R' M' ∧ eqI [25, 47, 48] I I' ∧ eqR [27, 28, 29, 30, 31, 32, 33] R R' ∧ I' 25 = some (nI (f0 + B.length)) ∧ FN 28 29 f n E tx B f0 B.length I' R') ∨ (∃ (e9 : Nat × Nat) (I' : rI) (R' : rR), (flS f n E cf B B.length 0 = some e9) ∧ v = some (.int 0) ∧ RS g m0 q z I' R' M' ∧ eqI [25, 47, 48] I I' ∧ eqR [27, 28, 29, 30, 31, 32, 33] R R' ∧ I' 47 = some (nI e9.1) ∧ I' 48 = some (nI e9.2)))) := by
    intro kf
    induction kf with
    | zero => exact ⟨by intros; exact pl_0, by intros; exact pl_0⟩
    | succ kf ih =>
      refine ⟨?_, ?_⟩
      · skip
        intro k p M1 I1 R1 hR1 hEI1 hER1 hl51 hl52 hl53 hl58 hl55 hl25 hF1 hY1 hP1 hK1 hN91 hk hp hpn hs
        have hn := hF1.1
        have hu9 := by2_lt f pF
        have htl := hY1.1.2.2.1
        have hBl := hMB.1
        refine ps_st1 (S' := (24, [(0, .ref m0), (1, .int (nI p)), (2, .int (nI (by2 f pF))), (3, .int (nI f0)), (4, .int (nI k))], [.int (nI k)], M1)) rfl rfl rfl ?_
        refine ps_st (S' := (25, [(0, .ref m0), (1, .int (nI p)), (2, .int (nI (by2 f pF))), (3, .int (nI f0)), (4, .int (nI k))], [.int (nI (by2 f pF)), .int (nI k)], M1)) rfl rfl rfl ?_
        refine ps_if2 (S1 := (366, [(0, .ref m0), (1, .int (nI p)), (2, .int (nI (by2 f pF))), (3, .int (nI f0)), (4, .int (nI k))], [], M1)) (S2 := (28, [(0, .ref m0), (1, .int (nI p)), (2, .int (nI (by2 f pF))), (3, .int (nI f0)), (4, .int (nI k))], [], M1)) rfl rfl rfl (fun c_25 => ?_) (fun c_25 => ?_)
        · have c_25 : (nI (by2 f pF)) ≤ (nI k) := of_decide_eq_true c_25
          have n_25 : by2 f pF ≤ k := (le_nI (p := by2 f pF) (n := k) (Nat.lt_trans (by2_lt _ _) (by decide)) (by omega)).mp c_25
          refine ps_st (S' := (367, [(0, .ref m0), (1, .int (nI p)), (2, .int (nI (by2 f pF))), (3, .int (nI f0)), (4, .int (nI k))], [.int 1], M1)) rfl rfl rfl ?_
          exact ps_ret rfl rfl (Or.inl ⟨I1, R1, by
              rw [← hs, show B.length - k = 0 by omega]
              rfl, rfl, hR1, hEI1, hER1, by rw [show B.length = k by omega]; exact hl25, by rw [show B.length = k by omega]; exact hN91⟩)
        · have c_25 : ¬ ((nI (by2 f pF)) ≤ (nI k)) := of_decide_eq_false c_25
          have n_25 : ¬ (by2 f pF ≤ k) := fun h9 => c_25 ((le_nI (p := by2 f pF) (n := k) (Nat.lt_trans (by2_lt _ _) (by decide)) (by omega)).mpr h9)
          have hpk := hp (by omega)
          have hm8 := (hMB.2.2.2 k (by omega)).1
          have hm7 := (hMB.2.2.2 k (by omega)).2.1
          rw [← hpk] at hm8
          have hpe : p + 8 ≤ n := by omega
          have hu8 := by2_lt f p
          refine ps_st (S' := (29, [(0, .ref m0), (1, .int (nI p)), (2, .int (nI (by2 f pF))), (3, .int (nI f0)), (4, .int (nI k))], [.ref m0], M1)) rfl rfl rfl ?_
          refine ps_st (S' := (30, [(0, .ref m0), (1, .int (nI p)), (2, .int (nI (by2 f pF))), (3, .int (nI f0)), (4, .int (nI k))], [.int (nI p), .ref m0], M1)) rfl rfl rfl ?_
          refine pl_call (a := [.ref m0, .int (nI p)]) (rest := []) rfl rfl rfl (rd_u2 (n := n) (f := f) (p := p) hR1 hF1 (by omega)) (fun v1 M2 q3 => ?_)
          obtain ⟨rfl, rfl⟩ := q3
          show pl _ _ _ (33, [(0, .ref m0), (1, .int (nI p)), (2, .int (nI (by2 f pF))), (3, .int (nI f0)), (4, .int (nI k))], [.int (nI (by2 f p))], M1) _
          have hu_30 := by2_lt f p
          refine ps_st (S' := (35, [(5, .int (nI (by2 f p))), (0, .ref m0), (1, .int (nI p)), (2, .int (nI (by2 f pF))), (3, .int (nI f0)), (4, .int (nI k))], [], M1)) rfl rfl rfl ?_
          refine ps_st (S' := (37, [(5, .int (nI (by2 f p))), (0, .ref m0), (1, .int (nI p)), (2, .int (nI (by2 f pF))), (3, .int (nI f0)), (4, .int (nI k))], [.int (nI (by2 f p))], M1)) rfl rfl rfl ?_
          refine ps_st (S' := (38, [(5, .int (nI (by2 f p))), (0, .ref m0), (1, .int (nI p)), (2, .int (nI (by2 f pF))), (3, .int (nI f0)), (4, .int (nI k))], [.int 1, .int (nI (by2 f p))], M1)) rfl rfl rfl ?_
          refine ps_st (S' := (39, [(5, .int (nI (by2 f p))), (0, .ref m0), (1, .int (nI p)), (2, .int (nI (by2 f pF))), (3, .int (nI f0)), (4, .int (nI k))], [.int 2, .int 1, .int (nI (by2 f p))], M1)) rfl rfl rfl ?_
          refine ps_st (S' := (40, [(5, .int (nI (by2 f p))), (0, .ref m0), (1, .int (nI p)), (2, .int (nI (by2 f pF))), (3, .int (nI f0)), (4, .int (nI k))], [.int 4, .int 2, .int 1, .int (nI (by2 f p))], M1)) rfl rfl rfl ?_
          refine pl_call (a := [.int (nI (by2 f p)), .int 1, .int 2, .int 4]) (rest := []) rfl rfl rfl (rd_several (x := (by2 f p))) (fun v4 M5 q6 => ?_)
          obtain ⟨rfl, rfl⟩ := q6
          show pl _ _ _ (43, [(5, .int (nI (by2 f p))), (0, .ref m0), (1, .int (nI p)), (2, .int (nI (by2 f pF))), (3, .int (nI f0)), (4, .int (nI k))], [.int (nI (sevN (by2 f p)))], M1) _
          refine ps_if (S1 := (84, [(0, .ref m0), (1, .int (nI p))], [], M1)) (S2 := (46, [(5, .int (nI (by2 f p))), (0, .ref m0), (1, .int (nI p)), (2, .int (nI (by2 f pF))), (3, .int (nI f0)), (4, .int (nI k))], [], M1)) rfl rfl rfl (fun c_43 => ?_) (fun c_43 => ?_)
          · have c_43 : ¬ (nI (sevN (by2 f p))) = 0 := of_decide_eq_true c_43
            have n_43 : ¬ (sevN (by2 f p) = 0) := fun h9 => c_43 ((eq_nI (p := sevN (by2 f p)) (n := 0) (Nat.lt_trans (le1_sev _) (by decide)) (by decide)).mpr h9)
            refine ps_st (S' := (85, [(0, .ref m0), (1, .int (nI p))], [.ref m0], M1)) rfl rfl rfl ?_
            refine ps_st (S' := (87, [(0, .ref m0), (1, .int (nI p))], [.int 19, .ref m0], M1)) rfl rfl rfl ?_
            refine ps_st (S' := (88, [(0, .ref m0), (1, .int (nI p))], [.int (nI p), .int 19, .ref m0], M1)) rfl rfl rfl ?_
            refine pl_call (a := [.ref m0, .int 19, .int (nI p)]) (rest := []) rfl rfl rfl (rd_wrong (x1 := 19) (x2 := (nI p)) hR1) (fun v7 M8 q9 => ?_)
            obtain ⟨I10, R11, rfl, hR12, hI13, hX14, hi15, hi16⟩ := q9
            have hi17 := (hI13 51 (by decide)).trans hl51
            have hi18 := (hI13 52 (by decide)).trans hl52
            have hi19 := (hI13 53 (by decide)).trans hl53
            have hi20 := (hI13 58 (by decide)).trans hl58
            have hi21 := (hI13 55 (by decide)).trans hl55
            have hi22 := (hI13 25 (by decide)).trans hl25
            have hF_23 := hF1.mono (cIx hI13 (by decide)) (cRx hX14 (by decide))
            have hY_24 := hY1.mono (cIx hI13 (by decide)) (cRx hX14 (by decide))
            have hP_25 := hP1.mono (cIx hI13 (by decide)) (cRx hX14 (by decide))
            have hK_26 := hK1.mono (cIx hI13 (by decide)) (cRx hX14 (by decide))
            have hN9_27 := hN91.mono (cIx hI13 (by decide)) (cRx hX14 (by decide))
            have hEI28 := hEI1.tr hI13 (by decide)
            have hER29 := hER1.tr hX14 (by decide)
            show pl _ _ _ (91, [(0, .ref m0), (1, .int (nI p))], [.int 0], M8) _
            exact ps_ret rfl rfl (Or.inr ⟨(19, p), I10, R11, by
                rw [← hs, flS_st (i := k) (by omega), ← hpk, fh_19 (by have e1 := ffl_0 cf (by2 f p); have e2 := sev_0 (by2 f p); have e3 := hall_80 (by2 f p); omega)], rfl, hR12, hEI28, hER29, hi15, hi16⟩)
          · have c_43 : ¬ (¬ (nI (sevN (by2 f p))) = 0) := of_decide_eq_false c_43
            have n_43 : sevN (by2 f p) = 0 := (eq_nI (p := sevN (by2 f p)) (n := 0) (Nat.lt_trans (le1_sev _) (by decide)) (by decide)).mp (Decidable.not_not.mp c_43)
            refine ps_st (S' := (48, [(5, .int (nI (by2 f p))), (0, .ref m0), (1, .int (nI p)), (2, .int (nI (by2 f pF))), (3, .int (nI f0)), (4, .int (nI k))], [.int (nI (by2 f p))], M1)) rfl rfl rfl ?_
            refine ps_st (S' := (50, [(5, .int (nI (by2 f p))), (0, .ref m0), (1, .int (nI p)), (2, .int (nI (by2 f pF))), (3, .int (nI f0)), (4, .int (nI k))], [.int 16, .int (nI (by2 f p))], M1)) rfl rfl rfl ?_
            refine ps_st (S' := (51, [(5, .int (nI (by2 f p))), (0, .ref m0), (1, .int (nI p)), (2, .int (nI (by2 f pF))), (3, .int (nI f0)), (4, .int (nI k))], [.int ((nI (by2 f p)) &&& 16)], M1)) rfl rfl rfl ?_
            rw [nI_an (p := by2 f p) (k := 16) (x := 16) rfl]
            show pl _ _ _ (_, [(5, .int (nI (by2 f p))), (0, .ref m0), (1, .int (nI p)), (2, .int (nI (by2 f pF))), (3, .int (nI f0)), (4, .int (nI k))], [.int (nI (aN (by2 f p) 16))], M1) _
            refine ps_if (S1 := (62, [(0, .ref m0), (1, .int (nI p)), (2, .int (nI (by2 f pF))), (3, .int (nI f0)), (4, .int (nI k)), (5, .int (nI (by2 f p)))], [], M1)) (S2 := (54, [(5, .int (nI (by2 f p))), (0, .ref m0), (1, .int (nI p)), (2, .int (nI (by2 f pF))), (3, .int (nI f0)), (4, .int (nI k))], [], M1)) rfl rfl rfl (fun c_51 => ?_) (fun c_51 => ?_)
            · have c_51 : (nI (aN (by2 f p) 16)) = 0 := of_decide_eq_true c_51
              have n_51 : aN (by2 f p) 16 = 0 := (eq_nI (p := aN (by2 f p) 16) (n := 0) (Nat.lt_of_le_of_lt (an_le _ _) (by decide)) (by decide)).mp c_51
              refine ps_st (S' := (63, [(0, .ref m0), (1, .int (nI p)), (2, .int (nI (by2 f pF))), (3, .int (nI f0)), (4, .int (nI k)), (5, .int (nI (by2 f p)))], [.ref m0], M1)) rfl rfl rfl ?_
              refine pr_int (j := 58) (S' := (66, [(0, .ref m0), (1, .int (nI p)), (2, .int (nI (by2 f pF))), (3, .int (nI f0)), (4, .int (nI k)), (5, .int (nI (by2 f p)))], [.int (nI cf)], M1)) rfl hR1 rfl hl58 rfl ?_
              refine ps_st (S' := (69, [(0, .ref m0), (1, .int (nI p)), (2, .int (nI (by2 f pF))), (3, .int (nI f0)), (4, .int (nI k)), (5, .int (nI (by2 f p)))], [.int 512, .int (nI cf)], M1)) rfl rfl rfl ?_
              refine ps_st (S' := (70, [(0, .ref m0), (1, .int (nI p)), (2, .int (nI (by2 f pF))), (3, .int (nI f0)), (4, .int (nI k)), (5, .int (nI (by2 f p)))], [.int ((nI cf) &&& 512)], M1)) rfl rfl rfl ?_
              rw [nI_an (p := cf) (k := 512) (x := 512) rfl]
              show pl _ _ _ (_, [(0, .ref m0), (1, .int (nI p)), (2, .int (nI (by2 f pF))), (3, .int (nI f0)), (4, .int (nI k)), (5, .int (nI (by2 f p)))], [.int (nI (aN cf 512))], M1) _
              refine ps_if (S1 := (92, [(0, .ref m0), (1, .int (nI p)), (2, .int (nI (by2 f pF))), (3, .int (nI f0)), (4, .int (nI k)), (5, .int (nI (by2 f p)))], [], M1)) (S2 := (73, [(0, .ref m0), (1, .int (nI p)), (2, .int (nI (by2 f pF))), (3, .int (nI f0)), (4, .int (nI k)), (5, .int (nI (by2 f p)))], [], M1)) rfl rfl rfl (fun c_70 => ?_) (fun c_70 => ?_)
              · have c_70 : (nI (aN cf 512)) = 0 := of_decide_eq_true c_70
                have n_70 : aN cf 512 = 0 := (eq_nI (p := aN cf 512) (n := 0) (Nat.lt_of_le_of_lt (an_le _ _) (by decide)) (by decide)).mp c_70
                refine ps_st (S' := (93, [(0, .ref m0), (1, .int (nI p)), (2, .int (nI (by2 f pF))), (3, .int (nI f0)), (4, .int (nI k)), (5, .int (nI (by2 f p)))], [.ref m0], M1)) rfl rfl rfl ?_
                refine ps_st (S' := (94, [(0, .ref m0), (1, .int (nI p)), (2, .int (nI (by2 f pF))), (3, .int (nI f0)), (4, .int (nI k)), (5, .int (nI (by2 f p)))], [.ref m0, .ref m0], M1)) rfl rfl rfl ?_
                refine ps_st (S' := (95, [(0, .ref m0), (1, .int (nI p)), (2, .int (nI (by2 f pF))), (3, .int (nI f0)), (4, .int (nI k)), (5, .int (nI (by2 f p)))], [.int (nI p), .ref m0, .ref m0], M1)) rfl rfl rfl ?_
                refine ps_st (S' := (96, [(0, .ref m0), (1, .int (nI p)), (2, .int (nI (by2 f pF))), (3, .int (nI f0)), (4, .int (nI k)), (5, .int (nI (by2 f p)))], [.int 2, .int (nI p), .ref m0, .ref m0], M1)) rfl rfl rfl ?_
                refine ps_st (S' := (97, [(0, .ref m0), (1, .int (nI p)), (2, .int (nI (by2 f pF))), (3, .int (nI f0)), (4, .int (nI k)), (5, .int (nI (by2 f p)))], [.int ((nI p) + 2), .ref m0, .ref m0], M1)) rfl rfl rfl ?_
                rw [nI_add1 (p := p) (k := 2) (x := 2) rfl (by omega)]
                show pl _ _ _ (_, [(0, .ref m0), (1, .int (nI p)), (2, .int (nI (by2 f pF))), (3, .int (nI f0)), (4, .int (nI k)), (5, .int (nI (by2 f p)))], [.int (nI (p + 2)), .ref m0, .ref m0], M1) _
                refine pl_call (a := [.ref m0, .int (nI (p + 2))]) (rest := [.ref m0]) rfl rfl rfl (rd_u2 (n := n) (f := f) (p := (p + 2)) hR1 hF1 (by omega)) (fun v30 M31 q32 => ?_)
                obtain ⟨rfl, rfl⟩ := q32
                show pl _ _ _ (100, [(0, .ref m0), (1, .int (nI p)), (2, .int (nI (by2 f pF))), (3, .int (nI f0)), (4, .int (nI k)), (5, .int (nI (by2 f p)))], [.int (nI (by2 f (p + 2))), .ref m0], M1) _
                have hu_97 := by2_lt f (p + 2)
                refine pl_call (a := [.ref m0, .int (nI (by2 f (p + 2)))]) (rest := []) rfl rfl rfl (rd_tag (n := n) (f := f) (tx := tx) (cN := cN) (A := A) (N := N) (mj := mj) (E := E) (k := (by2 f (p + 2))) hR1 hl51 hl52 hl53 hF1 hY1 hP1 (hEP) (hN) (hmj) (by2_lt _ _)) (fun v33 M34 q35 => ?_)
                obtain ⟨rfl, rfl⟩ := q35
                show pl _ _ _ (103, [(0, .ref m0), (1, .int (nI p)), (2, .int (nI (by2 f pF))), (3, .int (nI f0)), (4, .int (nI k)), (5, .int (nI (by2 f p)))], [.int (nI (tg f E (by2 f (p + 2))))], M1) _
                have htg_100 := tg_lt f E (by2 f (p + 2))
                refine ps_st (S' := (104, [(0, .ref m0), (1, .int (nI p)), (2, .int (nI (by2 f pF))), (3, .int (nI f0)), (4, .int (nI k)), (5, .int (nI (by2 f p)))], [.int 1, .int (nI (tg f E (by2 f (p + 2))))], M1)) rfl rfl rfl ?_
                refine ps_if2 (S1 := (126, [(0, .ref m0), (1, .int (nI p))], [], M1)) (S2 := (107, [(0, .ref m0), (1, .int (nI p)), (2, .int (nI (by2 f pF))), (3, .int (nI f0)), (4, .int (nI k)), (5, .int (nI (by2 f p)))], [], M1)) rfl rfl rfl (fun c_104 => ?_) (fun c_104 => ?_)
                · have c_104 : ¬ (nI (tg f E (by2 f (p + 2)))) = 1 := of_decide_eq_true c_104
                  have n_104 : ¬ (tg f E (by2 f (p + 2)) = 1) := fun h9 => c_104 ((eq_nI (p := tg f E (by2 f (p + 2))) (n := 1) (Nat.lt_trans (tg_lt _ _ _) (by decide)) (by decide)).mpr h9)
                  refine ps_st (S' := (127, [(0, .ref m0), (1, .int (nI p))], [.ref m0], M1)) rfl rfl rfl ?_
                  refine ps_st (S' := (129, [(0, .ref m0), (1, .int (nI p))], [.int 20, .ref m0], M1)) rfl rfl rfl ?_
                  refine ps_st (S' := (130, [(0, .ref m0), (1, .int (nI p))], [.int (nI p), .int 20, .ref m0], M1)) rfl rfl rfl ?_
                  refine ps_st (S' := (131, [(0, .ref m0), (1, .int (nI p))], [.int 2, .int (nI p), .int 20, .ref m0], M1)) rfl rfl rfl ?_
                  refine ps_st (S' := (132, [(0, .ref m0), (1, .int (nI p))], [.int ((nI p) + 2), .int 20, .ref m0], M1)) rfl rfl rfl ?_
                  rw [nI_add1 (p := p) (k := 2) (x := 2) rfl (by omega)]
                  show pl _ _ _ (_, [(0, .ref m0), (1, .int (nI p))], [.int (nI (p + 2)), .int 20, .ref m0], M1) _
                  refine pl_call (a := [.ref m0, .int 20, .int (nI (p + 2))]) (rest := []) rfl rfl rfl (rd_wrong (x1 := 20) (x2 := (nI (p + 2))) hR1) (fun v36 M37 q38 => ?_)
                  obtain ⟨I39, R40, rfl, hR41, hI42, hX43, hi44, hi45⟩ := q38
                  have hi46 := (hI42 51 (by decide)).trans hl51
                  have hi47 := (hI42 52 (by decide)).trans hl52
                  have hi48 := (hI42 53 (by decide)).trans hl53
                  have hi49 := (hI42 58 (by decide)).trans hl58
                  have hi50 := (hI42 55 (by decide)).trans hl55
                  have hi51 := (hI42 25 (by decide)).trans hl25
                  have hF_52 := hF1.mono (cIx hI42 (by decide)) (cRx hX43 (by decide))
                  have hY_53 := hY1.mono (cIx hI42 (by decide)) (cRx hX43 (by decide))
                  have hP_54 := hP1.mono (cIx hI42 (by decide)) (cRx hX43 (by decide))
                  have hK_55 := hK1.mono (cIx hI42 (by decide)) (cRx hX43 (by decide))
                  have hN9_56 := hN91.mono (cIx hI42 (by decide)) (cRx hX43 (by decide))
                  have hEI57 := hEI1.tr hI42 (by decide)
                  have hER58 := hER1.tr hX43 (by decide)
                  show pl _ _ _ (135, [(0, .ref m0), (1, .int (nI p))], [.int 0], M37) _
                  exact ps_ret rfl rfl (Or.inr ⟨(20, p + 2), I39, R40, by
                      rw [← hs, flS_st (i := k) (by omega), ← hpk, fh_20 (by have e1 := ffl_0 cf (by2 f p); have e2 := sev_0 (by2 f p); have e3 := hall_80 (by2 f p); omega) (by rw [tx_no (by omega)]; decide)], rfl, hR41, hEI57, hER58, hi44, hi45⟩)
                · have c_104 : ¬ (¬ (nI (tg f E (by2 f (p + 2)))) = 1) := of_decide_eq_false c_104
                  have n_104 : tg f E (by2 f (p + 2)) = 1 := (eq_nI (p := tg f E (by2 f (p + 2))) (n := 1) (Nat.lt_trans (tg_lt _ _ _) (by decide)) (by decide)).mp (Decidable.not_not.mp c_104)
                  refine ps_st (S' := (108, [(0, .ref m0), (1, .int (nI p)), (2, .int (nI (by2 f pF))), (3, .int (nI f0)), (4, .int (nI k)), (5, .int (nI (by2 f p)))], [.ref m0], M1)) rfl rfl rfl ?_
                  refine ps_st (S' := (109, [(0, .ref m0), (1, .int (nI p)), (2, .int (nI (by2 f pF))), (3, .int (nI f0)), (4, .int (nI k)), (5, .int (nI (by2 f p)))], [.ref m0, .ref m0], M1)) rfl rfl rfl ?_
                  refine ps_st (S' := (110, [(0, .ref m0), (1, .int (nI p)), (2, .int (nI (by2 f pF))), (3, .int (nI f0)), (4, .int (nI k)), (5, .int (nI (by2 f p)))], [.ref m0, .ref m0, .ref m0], M1)) rfl rfl rfl ?_
                  refine ps_st (S' := (111, [(0, .ref m0), (1, .int (nI p)), (2, .int (nI (by2 f pF))), (3, .int (nI f0)), (4, .int (nI k)), (5, .int (nI (by2 f p)))], [.int (nI p), .ref m0, .ref m0, .ref m0], M1)) rfl rfl rfl ?_
                  refine ps_st (S' := (112, [(0, .ref m0), (1, .int (nI p)), (2, .int (nI (by2 f pF))), (3, .int (nI f0)), (4, .int (nI k)), (5, .int (nI (by2 f p)))], [.int 2, .int (nI p), .ref m0, .ref m0, .ref m0], M1)) rfl rfl rfl ?_
                  refine ps_st (S' := (113, [(0, .ref m0), (1, .int (nI p)), (2, .int (nI (by2 f pF))), (3, .int (nI f0)), (4, .int (nI k)), (5, .int (nI (by2 f p)))], [.int ((nI p) + 2), .ref m0, .ref m0, .ref m0], M1)) rfl rfl rfl ?_
                  rw [nI_add1 (p := p) (k := 2) (x := 2) rfl (by omega)]
                  show pl _ _ _ (_, [(0, .ref m0), (1, .int (nI p)), (2, .int (nI (by2 f pF))), (3, .int (nI f0)), (4, .int (nI k)), (5, .int (nI (by2 f p)))], [.int (nI (p + 2)), .ref m0, .ref m0, .ref m0], M1) _
                  refine pl_call (a := [.ref m0, .int (nI (p + 2))]) (rest := [.ref m0, .ref m0]) rfl rfl rfl (rd_u2 (n := n) (f := f) (p := (p + 2)) hR1 hF1 (by omega)) (fun v59 M60 q61 => ?_)
                  obtain ⟨rfl, rfl⟩ := q61
                  show pl _ _ _ (116, [(0, .ref m0), (1, .int (nI p)), (2, .int (nI (by2 f pF))), (3, .int (nI f0)), (4, .int (nI k)), (5, .int (nI (by2 f p)))], [.int (nI (by2 f (p + 2))), .ref m0, .ref m0], M1) _
                  have hu_113 := by2_lt f (p + 2)
                  refine pl_call (a := [.ref m0, .int (nI (by2 f (p + 2)))]) (rest := [.ref m0]) rfl rfl rfl (rd_symOf (n := n) (f := f) (tx := tx) (cN := cN) (A := A) (N := N) (mj := mj) (E := E) (k := (by2 f (p + 2))) hR1 hl51 hl52 hl53 hF1 hY1 hP1 (hEP) (hN) (hmj) (by omega)) (fun v62 M63 q64 => ?_)
                  obtain ⟨s65, q116_s, rfl, rfl⟩ := q64
                  show pl _ _ _ (119, [(0, .ref m0), (1, .int (nI p)), (2, .int (nI (by2 f pF))), (3, .int (nI f0)), (4, .int (nI k)), (5, .int (nI (by2 f p)))], [.int (nI s65), .ref m0], M1) _
                  have hsl_116 := q116_s.1
                  have htl_116 := hY1.1.2.2.1
                  refine ps_st (S' := (120, [(0, .ref m0), (1, .int (nI p)), (2, .int (nI (by2 f pF))), (3, .int (nI f0)), (4, .int (nI k)), (5, .int (nI (by2 f p)))], [.int 1, .int (nI s65), .ref m0], M1)) rfl rfl rfl ?_
                  refine pl_call (a := [.ref m0, .int (nI s65), .int 1]) (rest := []) rfl rfl rfl (rd_unq1 (tx := tx) (cN := cN) (A := A) (s := s65) (l := (tX f n E (by2 f (p + 2)))) hR1 hY1 (q116_s)) (fun v66 M67 q68 => ?_)
                  obtain ⟨rfl, rfl⟩ := q68
                  show pl _ _ _ (123, [(0, .ref m0), (1, .int (nI p)), (2, .int (nI (by2 f pF))), (3, .int (nI f0)), (4, .int (nI k)), (5, .int (nI (by2 f p)))], [.int (nI (unqN (tX f n E (by2 f (p + 2)))))], M1) _
                  refine ps_if (S1 := (136, [(0, .ref m0), (1, .int (nI p)), (2, .int (nI (by2 f pF))), (3, .int (nI f0)), (4, .int (nI k)), (5, .int (nI (by2 f p)))], [], M1)) (S2 := (126, [(0, .ref m0), (1, .int (nI p))], [], M1)) rfl rfl rfl (fun c_123 => ?_) (fun c_123 => ?_)
                  · have c_123 : ¬ (nI (unqN (tX f n E (by2 f (p + 2))))) = 0 := of_decide_eq_true c_123
                    have n_123 : ¬ (unqN (tX f n E (by2 f (p + 2))) = 0) := fun h9 => c_123 ((eq_nI (p := unqN (tX f n E (by2 f (p + 2)))) (n := 0) (Nat.lt_trans (le1_unq _) (by decide)) (by decide)).mpr h9)
                    refine ps_st (S' := (137, [(0, .ref m0), (1, .int (nI p)), (2, .int (nI (by2 f pF))), (3, .int (nI f0)), (4, .int (nI k)), (5, .int (nI (by2 f p)))], [.ref m0], M1)) rfl rfl rfl ?_
                    refine ps_st (S' := (138, [(0, .ref m0), (1, .int (nI p)), (2, .int (nI (by2 f pF))), (3, .int (nI f0)), (4, .int (nI k)), (5, .int (nI (by2 f p)))], [.ref m0, .ref m0], M1)) rfl rfl rfl ?_
                    refine ps_st (S' := (139, [(0, .ref m0), (1, .int (nI p)), (2, .int (nI (by2 f pF))), (3, .int (nI f0)), (4, .int (nI k)), (5, .int (nI (by2 f p)))], [.int (nI p), .ref m0, .ref m0], M1)) rfl rfl rfl ?_
                    refine ps_st (S' := (140, [(0, .ref m0), (1, .int (nI p)), (2, .int (nI (by2 f pF))), (3, .int (nI f0)), (4, .int (nI k)), (5, .int (nI (by2 f p)))], [.int 4, .int (nI p), .ref m0, .ref m0], M1)) rfl rfl rfl ?_
                    refine ps_st (S' := (141, [(0, .ref m0), (1, .int (nI p)), (2, .int (nI (by2 f pF))), (3, .int (nI f0)), (4, .int (nI k)), (5, .int (nI (by2 f p)))], [.int ((nI p) + 4), .ref m0, .ref m0], M1)) rfl rfl rfl ?_
                    rw [nI_add1 (p := p) (k := 4) (x := 4) rfl (by omega)]
                    show pl _ _ _ (_, [(0, .ref m0), (1, .int (nI p)), (2, .int (nI (by2 f pF))), (3, .int (nI f0)), (4, .int (nI k)), (5, .int (nI (by2 f p)))], [.int (nI (p + 4)), .ref m0, .ref m0], M1) _
                    refine pl_call (a := [.ref m0, .int (nI (p + 4))]) (rest := [.ref m0]) rfl rfl rfl (rd_u2 (n := n) (f := f) (p := (p + 4)) hR1 hF1 (by omega)) (fun v69 M70 q71 => ?_)
                    obtain ⟨rfl, rfl⟩ := q71
                    show pl _ _ _ (144, [(0, .ref m0), (1, .int (nI p)), (2, .int (nI (by2 f pF))), (3, .int (nI f0)), (4, .int (nI k)), (5, .int (nI (by2 f p)))], [.int (nI (by2 f (p + 4))), .ref m0], M1) _
                    have hu_141 := by2_lt f (p + 4)
                    refine pl_call (a := [.ref m0, .int (nI (by2 f (p + 4)))]) (rest := []) rfl rfl rfl (rd_tag (n := n) (f := f) (tx := tx) (cN := cN) (A := A) (N := N) (mj := mj) (E := E) (k := (by2 f (p + 4))) hR1 hl51 hl52 hl53 hF1 hY1 hP1 (hEP) (hN) (hmj) (by2_lt _ _)) (fun v72 M73 q74 => ?_)
                    obtain ⟨rfl, rfl⟩ := q74
                    show pl _ _ _ (147, [(0, .ref m0), (1, .int (nI p)), (2, .int (nI (by2 f pF))), (3, .int (nI f0)), (4, .int (nI k)), (5, .int (nI (by2 f p)))], [.int (nI (tg f E (by2 f (p + 4))))], M1) _
                    have htg_144 := tg_lt f E (by2 f (p + 4))
                    refine ps_st (S' := (148, [(0, .ref m0), (1, .int (nI p)), (2, .int (nI (by2 f pF))), (3, .int (nI f0)), (4, .int (nI k)), (5, .int (nI (by2 f p)))], [.int 1, .int (nI (tg f E (by2 f (p + 4))))], M1)) rfl rfl rfl ?_
                    refine ps_if2 (S1 := (169, [(0, .ref m0), (1, .int (nI p))], [], M1)) (S2 := (151, [(0, .ref m0), (1, .int (nI p)), (2, .int (nI (by2 f pF))), (3, .int (nI f0)), (4, .int (nI k)), (5, .int (nI (by2 f p)))], [], M1)) rfl rfl rfl (fun c_148 => ?_) (fun c_148 => ?_)
                    · have c_148 : ¬ (nI (tg f E (by2 f (p + 4)))) = 1 := of_decide_eq_true c_148
                      have n_148 : ¬ (tg f E (by2 f (p + 4)) = 1) := fun h9 => c_148 ((eq_nI (p := tg f E (by2 f (p + 4))) (n := 1) (Nat.lt_trans (tg_lt _ _ _) (by decide)) (by decide)).mpr h9)
                      refine ps_st (S' := (170, [(0, .ref m0), (1, .int (nI p))], [.ref m0], M1)) rfl rfl rfl ?_
                      refine ps_st (S' := (172, [(0, .ref m0), (1, .int (nI p))], [.int 21, .ref m0], M1)) rfl rfl rfl ?_
                      refine ps_st (S' := (173, [(0, .ref m0), (1, .int (nI p))], [.int (nI p), .int 21, .ref m0], M1)) rfl rfl rfl ?_
                      refine ps_st (S' := (174, [(0, .ref m0), (1, .int (nI p))], [.int 4, .int (nI p), .int 21, .ref m0], M1)) rfl rfl rfl ?_
                      refine ps_st (S' := (175, [(0, .ref m0), (1, .int (nI p))], [.int ((nI p) + 4), .int 21, .ref m0], M1)) rfl rfl rfl ?_
                      rw [nI_add1 (p := p) (k := 4) (x := 4) rfl (by omega)]
                      show pl _ _ _ (_, [(0, .ref m0), (1, .int (nI p))], [.int (nI (p + 4)), .int 21, .ref m0], M1) _
                      refine pl_call (a := [.ref m0, .int 21, .int (nI (p + 4))]) (rest := []) rfl rfl rfl (rd_wrong (x1 := 21) (x2 := (nI (p + 4))) hR1) (fun v75 M76 q77 => ?_)
                      obtain ⟨I78, R79, rfl, hR80, hI81, hX82, hi83, hi84⟩ := q77
                      have hi85 := (hI81 51 (by decide)).trans hl51
                      have hi86 := (hI81 52 (by decide)).trans hl52
                      have hi87 := (hI81 53 (by decide)).trans hl53
                      have hi88 := (hI81 58 (by decide)).trans hl58
                      have hi89 := (hI81 55 (by decide)).trans hl55
                      have hi90 := (hI81 25 (by decide)).trans hl25
                      have hF_91 := hF1.mono (cIx hI81 (by decide)) (cRx hX82 (by decide))
                      have hY_92 := hY1.mono (cIx hI81 (by decide)) (cRx hX82 (by decide))
                      have hP_93 := hP1.mono (cIx hI81 (by decide)) (cRx hX82 (by decide))
                      have hK_94 := hK1.mono (cIx hI81 (by decide)) (cRx hX82 (by decide))
                      have hN9_95 := hN91.mono (cIx hI81 (by decide)) (cRx hX82 (by decide))
                      have hEI96 := hEI1.tr hI81 (by decide)
                      have hER97 := hER1.tr hX82 (by decide)
                      show pl _ _ _ (178, [(0, .ref m0), (1, .int (nI p))], [.int 0], M76) _
                      exact ps_ret rfl rfl (Or.inr ⟨(21, p + 4), I78, R79, by
                          rw [← hs, flS_st (i := k) (by omega), ← hpk, fh_21 (by have e1 := ffl_0 cf (by2 f p); have e2 := sev_0 (by2 f p); have e3 := hall_80 (by2 f p); omega) (by omega) (by rw [tx_no (by omega)]; decide)], rfl, hR80, hEI96, hER97, hi83, hi84⟩)
                    · have c_148 : ¬ (¬ (nI (tg f E (by2 f (p + 4)))) = 1) := of_decide_eq_false c_148
                      have n_148 : tg f E (by2 f (p + 4)) = 1 := (eq_nI (p := tg f E (by2 f (p + 4))) (n := 1) (Nat.lt_trans (tg_lt _ _ _) (by decide)) (by decide)).mp (Decidable.not_not.mp c_148)
                      refine ps_st (S' := (152, [(0, .ref m0), (1, .int (nI p)), (2, .int (nI (by2 f pF))), (3, .int (nI f0)), (4, .int (nI k)), (5, .int (nI (by2 f p)))], [.ref m0], M1)) rfl rfl rfl ?_
                      refine ps_st (S' := (153, [(0, .ref m0), (1, .int (nI p)), (2, .int (nI (by2 f pF))), (3, .int (nI f0)), (4, .int (nI k)), (5, .int (nI (by2 f p)))], [.ref m0, .ref m0], M1)) rfl rfl rfl ?_
                      refine ps_st (S' := (154, [(0, .ref m0), (1, .int (nI p)), (2, .int (nI (by2 f pF))), (3, .int (nI f0)), (4, .int (nI k)), (5, .int (nI (by2 f p)))], [.ref m0, .ref m0, .ref m0], M1)) rfl rfl rfl ?_
                      refine ps_st (S' := (155, [(0, .ref m0), (1, .int (nI p)), (2, .int (nI (by2 f pF))), (3, .int (nI f0)), (4, .int (nI k)), (5, .int (nI (by2 f p)))], [.int (nI p), .ref m0, .ref m0, .ref m0], M1)) rfl rfl rfl ?_
                      refine ps_st (S' := (156, [(0, .ref m0), (1, .int (nI p)), (2, .int (nI (by2 f pF))), (3, .int (nI f0)), (4, .int (nI k)), (5, .int (nI (by2 f p)))], [.int 4, .int (nI p), .ref m0, .ref m0, .ref m0], M1)) rfl rfl rfl ?_
                      refine ps_st (S' := (157, [(0, .ref m0), (1, .int (nI p)), (2, .int (nI (by2 f pF))), (3, .int (nI f0)), (4, .int (nI k)), (5, .int (nI (by2 f p)))], [.int ((nI p) + 4), .ref m0, .ref m0, .ref m0], M1)) rfl rfl rfl ?_
                      rw [nI_add1 (p := p) (k := 4) (x := 4) rfl (by omega)]
                      show pl _ _ _ (_, [(0, .ref m0), (1, .int (nI p)), (2, .int (nI (by2 f pF))), (3, .int (nI f0)), (4, .int (nI k)), (5, .int (nI (by2 f p)))], [.int (nI (p + 4)), .ref m0, .ref m0, .ref m0], M1) _
                      refine pl_call (a := [.ref m0, .int (nI (p + 4))]) (rest := [.ref m0, .ref m0]) rfl rfl rfl (rd_u2 (n := n) (f := f) (p := (p + 4)) hR1 hF1 (by omega)) (fun v98 M99 q100 => ?_)
                      obtain ⟨rfl, rfl⟩ := q100
                      show pl _ _ _ (160, [(0, .ref m0), (1, .int (nI p)), (2, .int (nI (by2 f pF))), (3, .int (nI f0)), (4, .int (nI k)), (5, .int (nI (by2 f p)))], [.int (nI (by2 f (p + 4))), .ref m0, .ref m0], M1) _
                      have hu_157 := by2_lt f (p + 4)
                      refine pl_call (a := [.ref m0, .int (nI (by2 f (p + 4)))]) (rest := [.ref m0]) rfl rfl rfl (rd_symOf (n := n) (f := f) (tx := tx) (cN := cN) (A := A) (N := N) (mj := mj) (E := E) (k := (by2 f (p + 4))) hR1 hl51 hl52 hl53 hF1 hY1 hP1 (hEP) (hN) (hmj) (by omega)) (fun v101 M102 q103 => ?_)
                      obtain ⟨s104, q160_s, rfl, rfl⟩ := q103
                      show pl _ _ _ (163, [(0, .ref m0), (1, .int (nI p)), (2, .int (nI (by2 f pF))), (3, .int (nI f0)), (4, .int (nI k)), (5, .int (nI (by2 f p)))], [.int (nI s104), .ref m0], M1) _
                      have hsl_160 := q160_s.1
                      have htl_160 := hY1.1.2.2.1
                      refine pl_call (a := [.ref m0, .int (nI s104)]) (rest := []) rfl rfl rfl (rd_isField (tx := tx) (cN := cN) (A := A) (s := s104) (l := (tX f n E (by2 f (p + 4)))) hR1 hY1 (q160_s)) (fun v105 M106 q107 => ?_)
                      obtain ⟨rfl, rfl⟩ := q107
                      show pl _ _ _ (166, [(0, .ref m0), (1, .int (nI p)), (2, .int (nI (by2 f pF))), (3, .int (nI f0)), (4, .int (nI k)), (5, .int (nI (by2 f p)))], [.int (nI (fldN (tX f n E (by2 f (p + 4)))))], M1) _
                      refine ps_if (S1 := (179, [(0, .ref m0), (1, .int (nI p)), (2, .int (nI (by2 f pF))), (3, .int (nI f0)), (4, .int (nI k)), (5, .int (nI (by2 f p)))], [], M1)) (S2 := (169, [(0, .ref m0), (1, .int (nI p))], [], M1)) rfl rfl rfl (fun c_166 => ?_) (fun c_166 => ?_)
                      · have c_166 : ¬ (nI (fldN (tX f n E (by2 f (p + 4))))) = 0 := of_decide_eq_true c_166
                        have n_166 : ¬ (fldN (tX f n E (by2 f (p + 4))) = 0) := fun h9 => c_166 ((eq_nI (p := fldN (tX f n E (by2 f (p + 4)))) (n := 0) (Nat.lt_trans (le1_fld _) (by decide)) (by decide)).mpr h9)
                        refine ps_st (S' := (180, [(0, .ref m0), (1, .int (nI p)), (2, .int (nI (by2 f pF))), (3, .int (nI f0)), (4, .int (nI k)), (5, .int (nI (by2 f p)))], [.ref m0], M1)) rfl rfl rfl ?_
                        refine pr_int (j := 25) (S' := (183, [(0, .ref m0), (1, .int (nI p)), (2, .int (nI (by2 f pF))), (3, .int (nI f0)), (4, .int (nI k)), (5, .int (nI (by2 f p)))], [.int (nI (f0 + k))], M1)) rfl hR1 rfl hl25 rfl ?_
                        refine ps_st (S' := (185, [(6, .int (nI (f0 + k))), (0, .ref m0), (1, .int (nI p)), (2, .int (nI (by2 f pF))), (3, .int (nI f0)), (4, .int (nI k)), (5, .int (nI (by2 f p)))], [], M1)) rfl rfl rfl ?_
                        refine ps_st (S' := (186, [(6, .int (nI (f0 + k))), (0, .ref m0), (1, .int (nI p)), (2, .int (nI (by2 f pF))), (3, .int (nI f0)), (4, .int (nI k)), (5, .int (nI (by2 f p)))], [.ref m0], M1)) rfl rfl rfl ?_
                        refine pr_ref (j := 27) (S' := (189, [(6, .int (nI (f0 + k))), (0, .ref m0), (1, .int (nI p)), (2, .int (nI (by2 f pF))), (3, .int (nI f0)), (4, .int (nI k)), (5, .int (nI (by2 f p)))], [.ref (q 27)], M1)) rfl hR1 rfl rfl ?_
                        refine ps_st (S' := (191, [(6, .int (nI (f0 + k))), (0, .ref m0), (1, .int (nI p)), (2, .int (nI (by2 f pF))), (3, .int (nI f0)), (4, .int (nI k)), (5, .int (nI (by2 f p)))], [.int (nI (f0 + k)), .ref (q 27)], M1)) rfl rfl rfl ?_
                        refine ps_st (S' := (193, [(6, .int (nI (f0 + k))), (0, .ref m0), (1, .int (nI p)), (2, .int (nI (by2 f pF))), (3, .int (nI f0)), (4, .int (nI k)), (5, .int (nI (by2 f p)))], [.int (nI (by2 f p)), .int (nI (f0 + k)), .ref (q 27)], M1)) rfl rfl rfl ?_
                        refine pr_st (a := 27) (j := f0 + k) rfl hR1 rfl (by omega) (fun M108 R109 i1_193 hR110 hS111 => ?_)
                        have hF_112 := hF1.mono (fun _ _ => rfl) (rRx hS111 (by decide))
                        have hY_113 := hY1.mono (fun _ _ => rfl) (rRx hS111 (by decide))
                        have hP_114 := hP1.mono (fun _ _ => rfl) (rRx hS111 (by decide))
                        have hK_115 := hK1.mono (fun _ _ => rfl) (rRx hS111 (by decide))
                        have hN9_116 := hN91.mono (fun _ _ => rfl) (rRx hS111 (by decide))
                        have hER117 := hER1.st hS111 (by decide)
                        show pl _ _ _ (194, [(6, .int (nI (f0 + k))), (0, .ref m0), (1, .int (nI p)), (2, .int (nI (by2 f pF))), (3, .int (nI f0)), (4, .int (nI k)), (5, .int (nI (by2 f p)))], [], M108) _
                        have c27_118 : CE 27 (f0 + k) (nI (by2 f p)) I1 R109 := CE.st hS111
                        refine ps_st (S' := (195, [(6, .int (nI (f0 + k))), (0, .ref m0), (1, .int (nI p)), (2, .int (nI (by2 f pF))), (3, .int (nI f0)), (4, .int (nI k)), (5, .int (nI (by2 f p)))], [.ref m0], M108)) rfl rfl rfl ?_
                        refine pr_ref (j := 28) (S' := (198, [(6, .int (nI (f0 + k))), (0, .ref m0), (1, .int (nI p)), (2, .int (nI (by2 f pF))), (3, .int (nI f0)), (4, .int (nI k)), (5, .int (nI (by2 f p)))], [.ref (q 28)], M108)) rfl hR110 rfl rfl ?_
                        refine ps_st (S' := (200, [(6, .int (nI (f0 + k))), (0, .ref m0), (1, .int (nI p)), (2, .int (nI (by2 f pF))), (3, .int (nI f0)), (4, .int (nI k)), (5, .int (nI (by2 f p)))], [.int (nI (f0 + k)), .ref (q 28)], M108)) rfl rfl rfl ?_
                        refine ps_st (S' := (201, [(6, .int (nI (f0 + k))), (0, .ref m0), (1, .int (nI p)), (2, .int (nI (by2 f pF))), (3, .int (nI f0)), (4, .int (nI k)), (5, .int (nI (by2 f p)))], [.ref m0, .int (nI (f0 + k)), .ref (q 28)], M108)) rfl rfl rfl ?_
                        refine ps_st (S' := (202, [(6, .int (nI (f0 + k))), (0, .ref m0), (1, .int (nI p)), (2, .int (nI (by2 f pF))), (3, .int (nI f0)), (4, .int (nI k)), (5, .int (nI (by2 f p)))], [.ref m0, .ref m0, .int (nI (f0 + k)), .ref (q 28)], M108)) rfl rfl rfl ?_
                        refine ps_st (S' := (203, [(6, .int (nI (f0 + k))), (0, .ref m0), (1, .int (nI p)), (2, .int (nI (by2 f pF))), (3, .int (nI f0)), (4, .int (nI k)), (5, .int (nI (by2 f p)))], [.int (nI p), .ref m0, .ref m0, .int (nI (f0 + k)), .ref (q 28)], M108)) rfl rfl rfl ?_
                        refine ps_st (S' := (204, [(6, .int (nI (f0 + k))), (0, .ref m0), (1, .int (nI p)), (2, .int (nI (by2 f pF))), (3, .int (nI f0)), (4, .int (nI k)), (5, .int (nI (by2 f p)))], [.int 2, .int (nI p), .ref m0, .ref m0, .int (nI (f0 + k)), .ref (q 28)], M108)) rfl rfl rfl ?_
                        refine ps_st (S' := (205, [(6, .int (nI (f0 + k))), (0, .ref m0), (1, .int (nI p)), (2, .int (nI (by2 f pF))), (3, .int (nI f0)), (4, .int (nI k)), (5, .int (nI (by2 f p)))], [.int ((nI p) + 2), .ref m0, .ref m0, .int (nI (f0 + k)), .ref (q 28)], M108)) rfl rfl rfl ?_
                        rw [nI_add1 (p := p) (k := 2) (x := 2) rfl (by omega)]
                        show pl _ _ _ (_, [(6, .int (nI (f0 + k))), (0, .ref m0), (1, .int (nI p)), (2, .int (nI (by2 f pF))), (3, .int (nI f0)), (4, .int (nI k)), (5, .int (nI (by2 f p)))], [.int (nI (p + 2)), .ref m0, .ref m0, .int (nI (f0 + k)), .ref (q 28)], M108) _
                        refine pl_call (a := [.ref m0, .int (nI (p + 2))]) (rest := [.ref m0, .int (nI (f0 + k)), .ref (q 28)]) rfl rfl rfl (rd_u2 (n := n) (f := f) (p := (p + 2)) hR110 hF_112 (by omega)) (fun v119 M120 q121 => ?_)
                        obtain ⟨rfl, rfl⟩ := q121
                        show pl _ _ _ (208, [(6, .int (nI (f0 + k))), (0, .ref m0), (1, .int (nI p)), (2, .int (nI (by2 f pF))), (3, .int (nI f0)), (4, .int (nI k)), (5, .int (nI (by2 f p)))], [.int (nI (by2 f (p + 2))), .ref m0, .int (nI (f0 + k)), .ref (q 28)], M108) _
                        have hu_205 := by2_lt f (p + 2)
                        refine pl_call (a := [.ref m0, .int (nI (by2 f (p + 2)))]) (rest := [.int (nI (f0 + k)), .ref (q 28)]) rfl rfl rfl (rd_symOf (n := n) (f := f) (tx := tx) (cN := cN) (A := A) (N := N) (mj := mj) (E := E) (k := (by2 f (p + 2))) hR110 hl51 hl52 hl53 hF_112 hY_113 hP_114 (hEP) (hN) (hmj) (by omega)) (fun v122 M123 q124 => ?_)
                        obtain ⟨s125, q208_s, rfl, rfl⟩ := q124
                        show pl _ _ _ (211, [(6, .int (nI (f0 + k))), (0, .ref m0), (1, .int (nI p)), (2, .int (nI (by2 f pF))), (3, .int (nI f0)), (4, .int (nI k)), (5, .int (nI (by2 f p)))], [.int (nI s125), .int (nI (f0 + k)), .ref (q 28)], M108) _
                        have hsl_208 := q208_s.1
                        have htl_208 := hY_113.1.2.2.1
                        refine pr_st (a := 28) (j := f0 + k) rfl hR110 rfl (by omega) (fun M126 R127 i1_211 hR128 hS129 => ?_)
                        have hF_130 := hF_112.mono (fun _ _ => rfl) (rRx hS129 (by decide))
                        have hY_131 := hY_113.mono (fun _ _ => rfl) (rRx hS129 (by decide))
                        have hP_132 := hP_114.mono (fun _ _ => rfl) (rRx hS129 (by decide))
                        have hK_133 := hK_115.mono (fun _ _ => rfl) (rRx hS129 (by decide))
                        have c27_134 := c27_118.mono (fun _ _ => rfl) (rRx hS129 (by decide))
                        have hER135 := hER117.st hS129 (by decide)
                        show pl _ _ _ (212, [(6, .int (nI (f0 + k))), (0, .ref m0), (1, .int (nI p)), (2, .int (nI (by2 f pF))), (3, .int (nI f0)), (4, .int (nI k)), (5, .int (nI (by2 f p)))], [], M126) _
                        have c28_136 : CE 28 (f0 + k) (nI s125) I1 R127 := CE.st hS129
                        have hN9_137 := FN.st (I' := I1) hN9_116 hS129 rfl
                        refine ps_st (S' := (213, [(6, .int (nI (f0 + k))), (0, .ref m0), (1, .int (nI p)), (2, .int (nI (by2 f pF))), (3, .int (nI f0)), (4, .int (nI k)), (5, .int (nI (by2 f p)))], [.ref m0], M126)) rfl rfl rfl ?_
                        refine pr_ref (j := 29) (S' := (216, [(6, .int (nI (f0 + k))), (0, .ref m0), (1, .int (nI p)), (2, .int (nI (by2 f pF))), (3, .int (nI f0)), (4, .int (nI k)), (5, .int (nI (by2 f p)))], [.ref (q 29)], M126)) rfl hR128 rfl rfl ?_
                        refine ps_st (S' := (218, [(6, .int (nI (f0 + k))), (0, .ref m0), (1, .int (nI p)), (2, .int (nI (by2 f pF))), (3, .int (nI f0)), (4, .int (nI k)), (5, .int (nI (by2 f p)))], [.int (nI (f0 + k)), .ref (q 29)], M126)) rfl rfl rfl ?_
                        refine ps_st (S' := (219, [(6, .int (nI (f0 + k))), (0, .ref m0), (1, .int (nI p)), (2, .int (nI (by2 f pF))), (3, .int (nI f0)), (4, .int (nI k)), (5, .int (nI (by2 f p)))], [.ref m0, .int (nI (f0 + k)), .ref (q 29)], M126)) rfl rfl rfl ?_
                        refine ps_st (S' := (220, [(6, .int (nI (f0 + k))), (0, .ref m0), (1, .int (nI p)), (2, .int (nI (by2 f pF))), (3, .int (nI f0)), (4, .int (nI k)), (5, .int (nI (by2 f p)))], [.ref m0, .ref m0, .int (nI (f0 + k)), .ref (q 29)], M126)) rfl rfl rfl ?_
                        refine ps_st (S' := (221, [(6, .int (nI (f0 + k))), (0, .ref m0), (1, .int (nI p)), (2, .int (nI (by2 f pF))), (3, .int (nI f0)), (4, .int (nI k)), (5, .int (nI (by2 f p)))], [.int (nI p), .ref m0, .ref m0, .int (nI (f0 + k)), .ref (q 29)], M126)) rfl rfl rfl ?_
                        refine ps_st (S' := (222, [(6, .int (nI (f0 + k))), (0, .ref m0), (1, .int (nI p)), (2, .int (nI (by2 f pF))), (3, .int (nI f0)), (4, .int (nI k)), (5, .int (nI (by2 f p)))], [.int 4, .int (nI p), .ref m0, .ref m0, .int (nI (f0 + k)), .ref (q 29)], M126)) rfl rfl rfl ?_
                        refine ps_st (S' := (223, [(6, .int (nI (f0 + k))), (0, .ref m0), (1, .int (nI p)), (2, .int (nI (by2 f pF))), (3, .int (nI f0)), (4, .int (nI k)), (5, .int (nI (by2 f p)))], [.int ((nI p) + 4), .ref m0, .ref m0, .int (nI (f0 + k)), .ref (q 29)], M126)) rfl rfl rfl ?_
                        rw [nI_add1 (p := p) (k := 4) (x := 4) rfl (by omega)]
                        show pl _ _ _ (_, [(6, .int (nI (f0 + k))), (0, .ref m0), (1, .int (nI p)), (2, .int (nI (by2 f pF))), (3, .int (nI f0)), (4, .int (nI k)), (5, .int (nI (by2 f p)))], [.int (nI (p + 4)), .ref m0, .ref m0, .int (nI (f0 + k)), .ref (q 29)], M126) _
                        refine pl_call (a := [.ref m0, .int (nI (p + 4))]) (rest := [.ref m0, .int (nI (f0 + k)), .ref (q 29)]) rfl rfl rfl (rd_u2 (n := n) (f := f) (p := (p + 4)) hR128 hF_130 (by omega)) (fun v138 M139 q140 => ?_)
                        obtain ⟨rfl, rfl⟩ := q140
                        show pl _ _ _ (226, [(6, .int (nI (f0 + k))), (0, .ref m0), (1, .int (nI p)), (2, .int (nI (by2 f pF))), (3, .int (nI f0)), (4, .int (nI k)), (5, .int (nI (by2 f p)))], [.int (nI (by2 f (p + 4))), .ref m0, .int (nI (f0 + k)), .ref (q 29)], M126) _
                        have hu_223 := by2_lt f (p + 4)
                        refine pl_call (a := [.ref m0, .int (nI (by2 f (p + 4)))]) (rest := [.int (nI (f0 + k)), .ref (q 29)]) rfl rfl rfl (rd_symOf (n := n) (f := f) (tx := tx) (cN := cN) (A := A) (N := N) (mj := mj) (E := E) (k := (by2 f (p + 4))) hR128 hl51 hl52 hl53 hF_130 hY_131 hP_132 (hEP) (hN) (hmj) (by omega)) (fun v141 M142 q143 => ?_)
                        obtain ⟨s144, q226_s, rfl, rfl⟩ := q143
                        show pl _ _ _ (229, [(6, .int (nI (f0 + k))), (0, .ref m0), (1, .int (nI p)), (2, .int (nI (by2 f pF))), (3, .int (nI f0)), (4, .int (nI k)), (5, .int (nI (by2 f p)))], [.int (nI s144), .int (nI (f0 + k)), .ref (q 29)], M126) _
                        have hsl_226 := q226_s.1
                        have htl_226 := hY_131.1.2.2.1
                        refine pr_st (a := 29) (j := f0 + k) rfl hR128 rfl (by omega) (fun M145 R146 i1_229 hR147 hS148 => ?_)
                        have hF_149 := hF_130.mono (fun _ _ => rfl) (rRx hS148 (by decide))
                        have hY_150 := hY_131.mono (fun _ _ => rfl) (rRx hS148 (by decide))
                        have hP_151 := hP_132.mono (fun _ _ => rfl) (rRx hS148 (by decide))
                        have hK_152 := hK_133.mono (fun _ _ => rfl) (rRx hS148 (by decide))
                        have c27_153 := c27_134.mono (fun _ _ => rfl) (rRx hS148 (by decide))
                        have c28_154 := c28_136.mono (fun _ _ => rfl) (rRx hS148 (by decide))
                        have hER155 := hER135.st hS148 (by decide)
                        show pl _ _ _ (230, [(6, .int (nI (f0 + k))), (0, .ref m0), (1, .int (nI p)), (2, .int (nI (by2 f pF))), (3, .int (nI f0)), (4, .int (nI k)), (5, .int (nI (by2 f p)))], [], M145) _
                        have c29_156 : CE 29 (f0 + k) (nI s144) I1 R146 := CE.st hS148
                        have hN9_157 := FN.st (I' := I1) hN9_137 hS148 rfl
                        refine ps_st (S' := (231, [(6, .int (nI (f0 + k))), (0, .ref m0), (1, .int (nI p)), (2, .int (nI (by2 f pF))), (3, .int (nI f0)), (4, .int (nI k)), (5, .int (nI (by2 f p)))], [.ref m0], M145)) rfl rfl rfl ?_
                        refine pr_ref (j := 30) (S' := (234, [(6, .int (nI (f0 + k))), (0, .ref m0), (1, .int (nI p)), (2, .int (nI (by2 f pF))), (3, .int (nI f0)), (4, .int (nI k)), (5, .int (nI (by2 f p)))], [.ref (q 30)], M145)) rfl hR147 rfl rfl ?_
                        refine ps_st (S' := (236, [(6, .int (nI (f0 + k))), (0, .ref m0), (1, .int (nI p)), (2, .int (nI (by2 f pF))), (3, .int (nI f0)), (4, .int (nI k)), (5, .int (nI (by2 f p)))], [.int (nI (f0 + k)), .ref (q 30)], M145)) rfl rfl rfl ?_
                        refine ps_st (S' := (237, [(6, .int (nI (f0 + k))), (0, .ref m0), (1, .int (nI p)), (2, .int (nI (by2 f pF))), (3, .int (nI f0)), (4, .int (nI k)), (5, .int (nI (by2 f p)))], [.int 0, .int (nI (f0 + k)), .ref (q 30)], M145)) rfl rfl rfl ?_
                        refine pr_st (a := 30) (j := f0 + k) rfl hR147 rfl (by omega) (fun M158 R159 i1_237 hR160 hS161 => ?_)
                        have hF_162 := hF_149.mono (fun _ _ => rfl) (rRx hS161 (by decide))
                        have hY_163 := hY_150.mono (fun _ _ => rfl) (rRx hS161 (by decide))
                        have hP_164 := hP_151.mono (fun _ _ => rfl) (rRx hS161 (by decide))
                        have hK_165 := hK_152.mono (fun _ _ => rfl) (rRx hS161 (by decide))
                        have c27_166 := c27_153.mono (fun _ _ => rfl) (rRx hS161 (by decide))
                        have c28_167 := c28_154.mono (fun _ _ => rfl) (rRx hS161 (by decide))
                        have c29_168 := c29_156.mono (fun _ _ => rfl) (rRx hS161 (by decide))
                        have hN9_169 := hN9_157.mono (fun _ _ => rfl) (rRx hS161 (by decide))
                        have hER170 := hER155.st hS161 (by decide)
                        show pl _ _ _ (238, [(6, .int (nI (f0 + k))), (0, .ref m0), (1, .int (nI p)), (2, .int (nI (by2 f pF))), (3, .int (nI f0)), (4, .int (nI k)), (5, .int (nI (by2 f p)))], [], M158) _
                        refine ps_st (S' := (239, [(6, .int (nI (f0 + k))), (0, .ref m0), (1, .int (nI p)), (2, .int (nI (by2 f pF))), (3, .int (nI f0)), (4, .int (nI k)), (5, .int (nI (by2 f p)))], [.ref m0], M158)) rfl rfl rfl ?_
                        refine pr_ref (j := 31) (S' := (242, [(6, .int (nI (f0 + k))), (0, .ref m0), (1, .int (nI p)), (2, .int (nI (by2 f pF))), (3, .int (nI f0)), (4, .int (nI k)), (5, .int (nI (by2 f p)))], [.ref (q 31)], M158)) rfl hR160 rfl rfl ?_
                        refine ps_st (S' := (244, [(6, .int (nI (f0 + k))), (0, .ref m0), (1, .int (nI p)), (2, .int (nI (by2 f pF))), (3, .int (nI f0)), (4, .int (nI k)), (5, .int (nI (by2 f p)))], [.int (nI (f0 + k)), .ref (q 31)], M158)) rfl rfl rfl ?_
                        refine ps_st (S' := (245, [(6, .int (nI (f0 + k))), (0, .ref m0), (1, .int (nI p)), (2, .int (nI (by2 f pF))), (3, .int (nI f0)), (4, .int (nI k)), (5, .int (nI (by2 f p)))], [.int 0, .int (nI (f0 + k)), .ref (q 31)], M158)) rfl rfl rfl ?_
                        refine pr_st (a := 31) (j := f0 + k) rfl hR160 rfl (by omega) (fun M171 R172 i1_245 hR173 hS174 => ?_)
                        have hF_175 := hF_162.mono (fun _ _ => rfl) (rRx hS174 (by decide))
                        have hY_176 := hY_163.mono (fun _ _ => rfl) (rRx hS174 (by decide))
                        have hP_177 := hP_164.mono (fun _ _ => rfl) (rRx hS174 (by decide))
                        have hK_178 := hK_165.mono (fun _ _ => rfl) (rRx hS174 (by decide))
                        have c27_179 := c27_166.mono (fun _ _ => rfl) (rRx hS174 (by decide))
                        have c28_180 := c28_167.mono (fun _ _ => rfl) (rRx hS174 (by decide))
                        have c29_181 := c29_168.mono (fun _ _ => rfl) (rRx hS174 (by decide))
                        have hN9_182 := hN9_169.mono (fun _ _ => rfl) (rRx hS174 (by decide))
                        have hER183 := hER170.st hS174 (by decide)
                        show pl _ _ _ (246, [(6, .int (nI (f0 + k))), (0, .ref m0), (1, .int (nI p)), (2, .int (nI (by2 f pF))), (3, .int (nI f0)), (4, .int (nI k)), (5, .int (nI (by2 f p)))], [], M171) _
                        refine ps_st (S' := (247, [(6, .int (nI (f0 + k))), (0, .ref m0), (1, .int (nI p)), (2, .int (nI (by2 f pF))), (3, .int (nI f0)), (4, .int (nI k)), (5, .int (nI (by2 f p)))], [.ref m0], M171)) rfl rfl rfl ?_
                        refine pr_ref (j := 32) (S' := (250, [(6, .int (nI (f0 + k))), (0, .ref m0), (1, .int (nI p)), (2, .int (nI (by2 f pF))), (3, .int (nI f0)), (4, .int (nI k)), (5, .int (nI (by2 f p)))], [.ref (q 32)], M171)) rfl hR173 rfl rfl ?_
                        refine ps_st (S' := (252, [(6, .int (nI (f0 + k))), (0, .ref m0), (1, .int (nI p)), (2, .int (nI (by2 f pF))), (3, .int (nI f0)), (4, .int (nI k)), (5, .int (nI (by2 f p)))], [.int (nI (f0 + k)), .ref (q 32)], M171)) rfl rfl rfl ?_
                        refine ps_st (S' := (253, [(6, .int (nI (f0 + k))), (0, .ref m0), (1, .int (nI p)), (2, .int (nI (by2 f pF))), (3, .int (nI f0)), (4, .int (nI k)), (5, .int (nI (by2 f p)))], [.ref m0, .int (nI (f0 + k)), .ref (q 32)], M171)) rfl rfl rfl ?_
                        refine ps_st (S' := (254, [(6, .int (nI (f0 + k))), (0, .ref m0), (1, .int (nI p)), (2, .int (nI (by2 f pF))), (3, .int (nI f0)), (4, .int (nI k)), (5, .int (nI (by2 f p)))], [.int (nI p), .ref m0, .int (nI (f0 + k)), .ref (q 32)], M171)) rfl rfl rfl ?_
                        refine ps_st (S' := (255, [(6, .int (nI (f0 + k))), (0, .ref m0), (1, .int (nI p)), (2, .int (nI (by2 f pF))), (3, .int (nI f0)), (4, .int (nI k)), (5, .int (nI (by2 f p)))], [.int 2, .int (nI p), .ref m0, .int (nI (f0 + k)), .ref (q 32)], M171)) rfl rfl rfl ?_
                        refine ps_st (S' := (256, [(6, .int (nI (f0 + k))), (0, .ref m0), (1, .int (nI p)), (2, .int (nI (by2 f pF))), (3, .int (nI f0)), (4, .int (nI k)), (5, .int (nI (by2 f p)))], [.int ((nI p) + 2), .ref m0, .int (nI (f0 + k)), .ref (q 32)], M171)) rfl rfl rfl ?_
                        rw [nI_add1 (p := p) (k := 2) (x := 2) rfl (by omega)]
                        show pl _ _ _ (_, [(6, .int (nI (f0 + k))), (0, .ref m0), (1, .int (nI p)), (2, .int (nI (by2 f pF))), (3, .int (nI f0)), (4, .int (nI k)), (5, .int (nI (by2 f p)))], [.int (nI (p + 2)), .ref m0, .int (nI (f0 + k)), .ref (q 32)], M171) _
                        refine pl_call (a := [.ref m0, .int (nI (p + 2))]) (rest := [.int (nI (f0 + k)), .ref (q 32)]) rfl rfl rfl (rd_u2 (n := n) (f := f) (p := (p + 2)) hR173 hF_175 (by omega)) (fun v184 M185 q186 => ?_)
                        obtain ⟨rfl, rfl⟩ := q186
                        show pl _ _ _ (259, [(6, .int (nI (f0 + k))), (0, .ref m0), (1, .int (nI p)), (2, .int (nI (by2 f pF))), (3, .int (nI f0)), (4, .int (nI k)), (5, .int (nI (by2 f p)))], [.int (nI (by2 f (p + 2))), .int (nI (f0 + k)), .ref (q 32)], M171) _
                        have hu_256 := by2_lt f (p + 2)
                        refine pr_st (a := 32) (j := f0 + k) rfl hR173 rfl (by omega) (fun M187 R188 i1_259 hR189 hS190 => ?_)
                        have hF_191 := hF_175.mono (fun _ _ => rfl) (rRx hS190 (by decide))
                        have hY_192 := hY_176.mono (fun _ _ => rfl) (rRx hS190 (by decide))
                        have hP_193 := hP_177.mono (fun _ _ => rfl) (rRx hS190 (by decide))
                        have hK_194 := hK_178.mono (fun _ _ => rfl) (rRx hS190 (by decide))
                        have c27_195 := c27_179.mono (fun _ _ => rfl) (rRx hS190 (by decide))
                        have c28_196 := c28_180.mono (fun _ _ => rfl) (rRx hS190 (by decide))
                        have c29_197 := c29_181.mono (fun _ _ => rfl) (rRx hS190 (by decide))
                        have hN9_198 := hN9_182.mono (fun _ _ => rfl) (rRx hS190 (by decide))
                        have hER199 := hER183.st hS190 (by decide)
                        show pl _ _ _ (260, [(6, .int (nI (f0 + k))), (0, .ref m0), (1, .int (nI p)), (2, .int (nI (by2 f pF))), (3, .int (nI f0)), (4, .int (nI k)), (5, .int (nI (by2 f p)))], [], M187) _
                        refine ps_st (S' := (261, [(6, .int (nI (f0 + k))), (0, .ref m0), (1, .int (nI p)), (2, .int (nI (by2 f pF))), (3, .int (nI f0)), (4, .int (nI k)), (5, .int (nI (by2 f p)))], [.ref m0], M187)) rfl rfl rfl ?_
                        refine pr_ref (j := 33) (S' := (264, [(6, .int (nI (f0 + k))), (0, .ref m0), (1, .int (nI p)), (2, .int (nI (by2 f pF))), (3, .int (nI f0)), (4, .int (nI k)), (5, .int (nI (by2 f p)))], [.ref (q 33)], M187)) rfl hR189 rfl rfl ?_
                        refine ps_st (S' := (266, [(6, .int (nI (f0 + k))), (0, .ref m0), (1, .int (nI p)), (2, .int (nI (by2 f pF))), (3, .int (nI f0)), (4, .int (nI k)), (5, .int (nI (by2 f p)))], [.int (nI (f0 + k)), .ref (q 33)], M187)) rfl rfl rfl ?_
                        refine ps_st (S' := (267, [(6, .int (nI (f0 + k))), (0, .ref m0), (1, .int (nI p)), (2, .int (nI (by2 f pF))), (3, .int (nI f0)), (4, .int (nI k)), (5, .int (nI (by2 f p)))], [.ref m0, .int (nI (f0 + k)), .ref (q 33)], M187)) rfl rfl rfl ?_
                        refine ps_st (S' := (268, [(6, .int (nI (f0 + k))), (0, .ref m0), (1, .int (nI p)), (2, .int (nI (by2 f pF))), (3, .int (nI f0)), (4, .int (nI k)), (5, .int (nI (by2 f p)))], [.int (nI p), .ref m0, .int (nI (f0 + k)), .ref (q 33)], M187)) rfl rfl rfl ?_
                        refine ps_st (S' := (269, [(6, .int (nI (f0 + k))), (0, .ref m0), (1, .int (nI p)), (2, .int (nI (by2 f pF))), (3, .int (nI f0)), (4, .int (nI k)), (5, .int (nI (by2 f p)))], [.int 4, .int (nI p), .ref m0, .int (nI (f0 + k)), .ref (q 33)], M187)) rfl rfl rfl ?_
                        refine ps_st (S' := (270, [(6, .int (nI (f0 + k))), (0, .ref m0), (1, .int (nI p)), (2, .int (nI (by2 f pF))), (3, .int (nI f0)), (4, .int (nI k)), (5, .int (nI (by2 f p)))], [.int ((nI p) + 4), .ref m0, .int (nI (f0 + k)), .ref (q 33)], M187)) rfl rfl rfl ?_
                        rw [nI_add1 (p := p) (k := 4) (x := 4) rfl (by omega)]
                        show pl _ _ _ (_, [(6, .int (nI (f0 + k))), (0, .ref m0), (1, .int (nI p)), (2, .int (nI (by2 f pF))), (3, .int (nI f0)), (4, .int (nI k)), (5, .int (nI (by2 f p)))], [.int (nI (p + 4)), .ref m0, .int (nI (f0 + k)), .ref (q 33)], M187) _
                        refine pl_call (a := [.ref m0, .int (nI (p + 4))]) (rest := [.int (nI (f0 + k)), .ref (q 33)]) rfl rfl rfl (rd_u2 (n := n) (f := f) (p := (p + 4)) hR189 hF_191 (by omega)) (fun v200 M201 q202 => ?_)
                        obtain ⟨rfl, rfl⟩ := q202
                        show pl _ _ _ (273, [(6, .int (nI (f0 + k))), (0, .ref m0), (1, .int (nI p)), (2, .int (nI (by2 f pF))), (3, .int (nI f0)), (4, .int (nI k)), (5, .int (nI (by2 f p)))], [.int (nI (by2 f (p + 4))), .int (nI (f0 + k)), .ref (q 33)], M187) _
                        have hu_270 := by2_lt f (p + 4)
                        refine pr_st (a := 33) (j := f0 + k) rfl hR189 rfl (by omega) (fun M203 R204 i1_273 hR205 hS206 => ?_)
                        have hF_207 := hF_191.mono (fun _ _ => rfl) (rRx hS206 (by decide))
                        have hY_208 := hY_192.mono (fun _ _ => rfl) (rRx hS206 (by decide))
                        have hP_209 := hP_193.mono (fun _ _ => rfl) (rRx hS206 (by decide))
                        have hK_210 := hK_194.mono (fun _ _ => rfl) (rRx hS206 (by decide))
                        have c27_211 := c27_195.mono (fun _ _ => rfl) (rRx hS206 (by decide))
                        have c28_212 := c28_196.mono (fun _ _ => rfl) (rRx hS206 (by decide))
                        have c29_213 := c29_197.mono (fun _ _ => rfl) (rRx hS206 (by decide))
                        have hN9_214 := hN9_198.mono (fun _ _ => rfl) (rRx hS206 (by decide))
                        have hER215 := hER199.st hS206 (by decide)
                        show pl _ _ _ (274, [(6, .int (nI (f0 + k))), (0, .ref m0), (1, .int (nI p)), (2, .int (nI (by2 f pF))), (3, .int (nI f0)), (4, .int (nI k)), (5, .int (nI (by2 f p)))], [], M203) _
                        refine ps_st (S' := (275, [(6, .int (nI (f0 + k))), (0, .ref m0), (1, .int (nI p)), (2, .int (nI (by2 f pF))), (3, .int (nI f0)), (4, .int (nI k)), (5, .int (nI (by2 f p)))], [.int (nI f0)], M203)) rfl rfl rfl ?_
                        refine ps_st (S' := (277, [(0, .ref m0), (1, .int (nI p)), (2, .int (nI (by2 f pF))), (3, .int (nI f0)), (4, .int (nI k)), (6, .int (nI (f0 + k))), (7, .int (nI f0))], [], M203)) rfl rfl rfl ?_
                        have h19 : ¬ fflN cf (by2 f p) = 0 := by
                          have e1 := ffl_0 cf (by2 f p)
                          have e2 := sev_0 (by2 f p)
                          have e3 := hall_80 (by2 f p)
                          omega
                        exact ih.2 (k) (p) (0) (s125) (s144) M203 I1 R204 hR205 hEI1 hER215 hl51 hl52 hl53 hl58 hl55 hl25 hF_207 hY_208 hP_209 hK_210 hN9_214 c27_211 c28_212 c29_213 (by omega) (hpk) (by omega) (hs) (by omega) (by omega) (q208_s) (q226_s) (by omega) (by omega) (h19) (by omega) (by omega) (rfl)
                      · have c_166 : ¬ (¬ (nI (fldN (tX f n E (by2 f (p + 4))))) = 0) := of_decide_eq_false c_166
                        have n_166 : fldN (tX f n E (by2 f (p + 4))) = 0 := (eq_nI (p := fldN (tX f n E (by2 f (p + 4)))) (n := 0) (Nat.lt_trans (le1_fld _) (by decide)) (by decide)).mp (Decidable.not_not.mp c_166)
                        refine ps_st (S' := (170, [(0, .ref m0), (1, .int (nI p))], [.ref m0], M1)) rfl rfl rfl ?_
                        refine ps_st (S' := (172, [(0, .ref m0), (1, .int (nI p))], [.int 21, .ref m0], M1)) rfl rfl rfl ?_
                        refine ps_st (S' := (173, [(0, .ref m0), (1, .int (nI p))], [.int (nI p), .int 21, .ref m0], M1)) rfl rfl rfl ?_
                        refine ps_st (S' := (174, [(0, .ref m0), (1, .int (nI p))], [.int 4, .int (nI p), .int 21, .ref m0], M1)) rfl rfl rfl ?_
                        refine ps_st (S' := (175, [(0, .ref m0), (1, .int (nI p))], [.int ((nI p) + 4), .int 21, .ref m0], M1)) rfl rfl rfl ?_
                        rw [nI_add1 (p := p) (k := 4) (x := 4) rfl (by omega)]
                        show pl _ _ _ (_, [(0, .ref m0), (1, .int (nI p))], [.int (nI (p + 4)), .int 21, .ref m0], M1) _
                        refine pl_call (a := [.ref m0, .int 21, .int (nI (p + 4))]) (rest := []) rfl rfl rfl (rd_wrong (x1 := 21) (x2 := (nI (p + 4))) hR1) (fun v216 M217 q218 => ?_)
                        obtain ⟨I219, R220, rfl, hR221, hI222, hX223, hi224, hi225⟩ := q218
                        have hi226 := (hI222 51 (by decide)).trans hl51
                        have hi227 := (hI222 52 (by decide)).trans hl52
                        have hi228 := (hI222 53 (by decide)).trans hl53
                        have hi229 := (hI222 58 (by decide)).trans hl58
                        have hi230 := (hI222 55 (by decide)).trans hl55
                        have hi231 := (hI222 25 (by decide)).trans hl25
                        have hF_232 := hF1.mono (cIx hI222 (by decide)) (cRx hX223 (by decide))
                        have hY_233 := hY1.mono (cIx hI222 (by decide)) (cRx hX223 (by decide))
                        have hP_234 := hP1.mono (cIx hI222 (by decide)) (cRx hX223 (by decide))
                        have hK_235 := hK1.mono (cIx hI222 (by decide)) (cRx hX223 (by decide))
                        have hN9_236 := hN91.mono (cIx hI222 (by decide)) (cRx hX223 (by decide))
                        have hEI237 := hEI1.tr hI222 (by decide)
                        have hER238 := hER1.tr hX223 (by decide)
                        show pl _ _ _ (178, [(0, .ref m0), (1, .int (nI p))], [.int 0], M217) _
                        exact ps_ret rfl rfl (Or.inr ⟨(21, p + 4), I219, R220, by
                            rw [← hs, flS_st (i := k) (by omega), ← hpk, fh_21 (by have e1 := ffl_0 cf (by2 f p); have e2 := sev_0 (by2 f p); have e3 := hall_80 (by2 f p); omega) (by omega) (by omega)], rfl, hR221, hEI237, hER238, hi224, hi225⟩)
                  · have c_123 : ¬ (¬ (nI (unqN (tX f n E (by2 f (p + 2))))) = 0) := of_decide_eq_false c_123
                    have n_123 : unqN (tX f n E (by2 f (p + 2))) = 0 := (eq_nI (p := unqN (tX f n E (by2 f (p + 2)))) (n := 0) (Nat.lt_trans (le1_unq _) (by decide)) (by decide)).mp (Decidable.not_not.mp c_123)
                    refine ps_st (S' := (127, [(0, .ref m0), (1, .int (nI p))], [.ref m0], M1)) rfl rfl rfl ?_
                    refine ps_st (S' := (129, [(0, .ref m0), (1, .int (nI p))], [.int 20, .ref m0], M1)) rfl rfl rfl ?_
                    refine ps_st (S' := (130, [(0, .ref m0), (1, .int (nI p))], [.int (nI p), .int 20, .ref m0], M1)) rfl rfl rfl ?_
                    refine ps_st (S' := (131, [(0, .ref m0), (1, .int (nI p))], [.int 2, .int (nI p), .int 20, .ref m0], M1)) rfl rfl rfl ?_
                    refine ps_st (S' := (132, [(0, .ref m0), (1, .int (nI p))], [.int ((nI p) + 2), .int 20, .ref m0], M1)) rfl rfl rfl ?_
                    rw [nI_add1 (p := p) (k := 2) (x := 2) rfl (by omega)]
                    show pl _ _ _ (_, [(0, .ref m0), (1, .int (nI p))], [.int (nI (p + 2)), .int 20, .ref m0], M1) _
                    refine pl_call (a := [.ref m0, .int 20, .int (nI (p + 2))]) (rest := []) rfl rfl rfl (rd_wrong (x1 := 20) (x2 := (nI (p + 2))) hR1) (fun v239 M240 q241 => ?_)
                    obtain ⟨I242, R243, rfl, hR244, hI245, hX246, hi247, hi248⟩ := q241
                    have hi249 := (hI245 51 (by decide)).trans hl51
                    have hi250 := (hI245 52 (by decide)).trans hl52
                    have hi251 := (hI245 53 (by decide)).trans hl53
                    have hi252 := (hI245 58 (by decide)).trans hl58
                    have hi253 := (hI245 55 (by decide)).trans hl55
                    have hi254 := (hI245 25 (by decide)).trans hl25
                    have hF_255 := hF1.mono (cIx hI245 (by decide)) (cRx hX246 (by decide))
                    have hY_256 := hY1.mono (cIx hI245 (by decide)) (cRx hX246 (by decide))
                    have hP_257 := hP1.mono (cIx hI245 (by decide)) (cRx hX246 (by decide))
                    have hK_258 := hK1.mono (cIx hI245 (by decide)) (cRx hX246 (by decide))
                    have hN9_259 := hN91.mono (cIx hI245 (by decide)) (cRx hX246 (by decide))
                    have hEI260 := hEI1.tr hI245 (by decide)
                    have hER261 := hER1.tr hX246 (by decide)
                    show pl _ _ _ (135, [(0, .ref m0), (1, .int (nI p))], [.int 0], M240) _
                    exact ps_ret rfl rfl (Or.inr ⟨(20, p + 2), I242, R243, by
                        rw [← hs, flS_st (i := k) (by omega), ← hpk, fh_20 (by have e1 := ffl_0 cf (by2 f p); have e2 := sev_0 (by2 f p); have e3 := hall_80 (by2 f p); omega) (by omega)], rfl, hR244, hEI260, hER261, hi247, hi248⟩)
              · have c_70 : ¬ ((nI (aN cf 512)) = 0) := of_decide_eq_false c_70
                have n_70 : ¬ (aN cf 512 = 0) := fun h9 => c_70 ((eq_nI (p := aN cf 512) (n := 0) (Nat.lt_of_le_of_lt (an_le _ _) (by decide)) (by decide)).mpr h9)
                refine ps_st (S' := (75, [(0, .ref m0), (1, .int (nI p)), (2, .int (nI (by2 f pF))), (3, .int (nI f0)), (4, .int (nI k)), (5, .int (nI (by2 f p)))], [.int (nI (by2 f p))], M1)) rfl rfl rfl ?_
                refine ps_st (S' := (78, [(0, .ref m0), (1, .int (nI p)), (2, .int (nI (by2 f pF))), (3, .int (nI f0)), (4, .int (nI k)), (5, .int (nI (by2 f p)))], [.int 16607, .int (nI (by2 f p))], M1)) rfl rfl rfl ?_
                refine ps_st (S' := (79, [(0, .ref m0), (1, .int (nI p)), (2, .int (nI (by2 f pF))), (3, .int (nI f0)), (4, .int (nI k)), (5, .int (nI (by2 f p)))], [.int ((nI (by2 f p)) &&& 16607)], M1)) rfl rfl rfl ?_
                rw [nI_an (p := by2 f p) (k := 16607) (x := 16607) rfl]
                show pl _ _ _ (_, [(0, .ref m0), (1, .int (nI p)), (2, .int (nI (by2 f pF))), (3, .int (nI f0)), (4, .int (nI k)), (5, .int (nI (by2 f p)))], [.int (nI (aN (by2 f p) 16607))], M1) _
                refine ps_st (S' := (81, [(0, .ref m0), (1, .int (nI p)), (2, .int (nI (by2 f pF))), (3, .int (nI f0)), (4, .int (nI k)), (5, .int (nI (by2 f p)))], [.int 25, .int (nI (aN (by2 f p) 16607))], M1)) rfl rfl rfl ?_
                refine ps_if2 (S1 := (92, [(0, .ref m0), (1, .int (nI p)), (2, .int (nI (by2 f pF))), (3, .int (nI f0)), (4, .int (nI k)), (5, .int (nI (by2 f p)))], [], M1)) (S2 := (84, [(0, .ref m0), (1, .int (nI p))], [], M1)) rfl rfl rfl (fun c_81 => ?_) (fun c_81 => ?_)
                · have c_81 : (nI (aN (by2 f p) 16607)) = 25 := of_decide_eq_true c_81
                  have n_81 : aN (by2 f p) 16607 = 25 := (eq_nI (p := aN (by2 f p) 16607) (n := 25) (Nat.lt_of_le_of_lt (an_le _ _) (by decide)) (by decide)).mp c_81
                  refine ps_st (S' := (93, [(0, .ref m0), (1, .int (nI p)), (2, .int (nI (by2 f pF))), (3, .int (nI f0)), (4, .int (nI k)), (5, .int (nI (by2 f p)))], [.ref m0], M1)) rfl rfl rfl ?_
                  refine ps_st (S' := (94, [(0, .ref m0), (1, .int (nI p)), (2, .int (nI (by2 f pF))), (3, .int (nI f0)), (4, .int (nI k)), (5, .int (nI (by2 f p)))], [.ref m0, .ref m0], M1)) rfl rfl rfl ?_
                  refine ps_st (S' := (95, [(0, .ref m0), (1, .int (nI p)), (2, .int (nI (by2 f pF))), (3, .int (nI f0)), (4, .int (nI k)), (5, .int (nI (by2 f p)))], [.int (nI p), .ref m0, .ref m0], M1)) rfl rfl rfl ?_
                  refine ps_st (S' := (96, [(0, .ref m0), (1, .int (nI p)), (2, .int (nI (by2 f pF))), (3, .int (nI f0)), (4, .int (nI k)), (5, .int (nI (by2 f p)))], [.int 2, .int (nI p), .ref m0, .ref m0], M1)) rfl rfl rfl ?_
                  refine ps_st (S' := (97, [(0, .ref m0), (1, .int (nI p)), (2, .int (nI (by2 f pF))), (3, .int (nI f0)), (4, .int (nI k)), (5, .int (nI (by2 f p)))], [.int ((nI p) + 2), .ref m0, .ref m0], M1)) rfl rfl rfl ?_
                  rw [nI_add1 (p := p) (k := 2) (x := 2) rfl (by omega)]
                  show pl _ _ _ (_, [(0, .ref m0), (1, .int (nI p)), (2, .int (nI (by2 f pF))), (3, .int (nI f0)), (4, .int (nI k)), (5, .int (nI (by2 f p)))], [.int (nI (p + 2)), .ref m0, .ref m0], M1) _
                  refine pl_call (a := [.ref m0, .int (nI (p + 2))]) (rest := [.ref m0]) rfl rfl rfl (rd_u2 (n := n) (f := f) (p := (p + 2)) hR1 hF1 (by omega)) (fun v262 M263 q264 => ?_)
                  obtain ⟨rfl, rfl⟩ := q264
                  show pl _ _ _ (100, [(0, .ref m0), (1, .int (nI p)), (2, .int (nI (by2 f pF))), (3, .int (nI f0)), (4, .int (nI k)), (5, .int (nI (by2 f p)))], [.int (nI (by2 f (p + 2))), .ref m0], M1) _
                  have hu_97 := by2_lt f (p + 2)
                  refine pl_call (a := [.ref m0, .int (nI (by2 f (p + 2)))]) (rest := []) rfl rfl rfl (rd_tag (n := n) (f := f) (tx := tx) (cN := cN) (A := A) (N := N) (mj := mj) (E := E) (k := (by2 f (p + 2))) hR1 hl51 hl52 hl53 hF1 hY1 hP1 (hEP) (hN) (hmj) (by2_lt _ _)) (fun v265 M266 q267 => ?_)
                  obtain ⟨rfl, rfl⟩ := q267
                  show pl _ _ _ (103, [(0, .ref m0), (1, .int (nI p)), (2, .int (nI (by2 f pF))), (3, .int (nI f0)), (4, .int (nI k)), (5, .int (nI (by2 f p)))], [.int (nI (tg f E (by2 f (p + 2))))], M1) _
                  have htg_100 := tg_lt f E (by2 f (p + 2))
                  refine ps_st (S' := (104, [(0, .ref m0), (1, .int (nI p)), (2, .int (nI (by2 f pF))), (3, .int (nI f0)), (4, .int (nI k)), (5, .int (nI (by2 f p)))], [.int 1, .int (nI (tg f E (by2 f (p + 2))))], M1)) rfl rfl rfl ?_
                  refine ps_if2 (S1 := (126, [(0, .ref m0), (1, .int (nI p))], [], M1)) (S2 := (107, [(0, .ref m0), (1, .int (nI p)), (2, .int (nI (by2 f pF))), (3, .int (nI f0)), (4, .int (nI k)), (5, .int (nI (by2 f p)))], [], M1)) rfl rfl rfl (fun c_104 => ?_) (fun c_104 => ?_)
                  · have c_104 : ¬ (nI (tg f E (by2 f (p + 2)))) = 1 := of_decide_eq_true c_104
                    have n_104 : ¬ (tg f E (by2 f (p + 2)) = 1) := fun h9 => c_104 ((eq_nI (p := tg f E (by2 f (p + 2))) (n := 1) (Nat.lt_trans (tg_lt _ _ _) (by decide)) (by decide)).mpr h9)
                    refine ps_st (S' := (127, [(0, .ref m0), (1, .int (nI p))], [.ref m0], M1)) rfl rfl rfl ?_
                    refine ps_st (S' := (129, [(0, .ref m0), (1, .int (nI p))], [.int 20, .ref m0], M1)) rfl rfl rfl ?_
                    refine ps_st (S' := (130, [(0, .ref m0), (1, .int (nI p))], [.int (nI p), .int 20, .ref m0], M1)) rfl rfl rfl ?_
                    refine ps_st (S' := (131, [(0, .ref m0), (1, .int (nI p))], [.int 2, .int (nI p), .int 20, .ref m0], M1)) rfl rfl rfl ?_
                    refine ps_st (S' := (132, [(0, .ref m0), (1, .int (nI p))], [.int ((nI p) + 2), .int 20, .ref m0], M1)) rfl rfl rfl ?_
                    rw [nI_add1 (p := p) (k := 2) (x := 2) rfl (by omega)]
                    show pl _ _ _ (_, [(0, .ref m0), (1, .int (nI p))], [.int (nI (p + 2)), .int 20, .ref m0], M1) _
                    refine pl_call (a := [.ref m0, .int 20, .int (nI (p + 2))]) (rest := []) rfl rfl rfl (rd_wrong (x1 := 20) (x2 := (nI (p + 2))) hR1) (fun v268 M269 q270 => ?_)
                    obtain ⟨I271, R272, rfl, hR273, hI274, hX275, hi276, hi277⟩ := q270
                    have hi278 := (hI274 51 (by decide)).trans hl51
                    have hi279 := (hI274 52 (by decide)).trans hl52
                    have hi280 := (hI274 53 (by decide)).trans hl53
                    have hi281 := (hI274 58 (by decide)).trans hl58
                    have hi282 := (hI274 55 (by decide)).trans hl55
                    have hi283 := (hI274 25 (by decide)).trans hl25
                    have hF_284 := hF1.mono (cIx hI274 (by decide)) (cRx hX275 (by decide))
                    have hY_285 := hY1.mono (cIx hI274 (by decide)) (cRx hX275 (by decide))
                    have hP_286 := hP1.mono (cIx hI274 (by decide)) (cRx hX275 (by decide))
                    have hK_287 := hK1.mono (cIx hI274 (by decide)) (cRx hX275 (by decide))
                    have hN9_288 := hN91.mono (cIx hI274 (by decide)) (cRx hX275 (by decide))
                    have hEI289 := hEI1.tr hI274 (by decide)
                    have hER290 := hER1.tr hX275 (by decide)
                    show pl _ _ _ (135, [(0, .ref m0), (1, .int (nI p))], [.int 0], M269) _
                    exact ps_ret rfl rfl (Or.inr ⟨(20, p + 2), I271, R272, by
                        rw [← hs, flS_st (i := k) (by omega), ← hpk, fh_20 (by have e1 := ffl_0 cf (by2 f p); have e2 := sev_0 (by2 f p); have e3 := hall_80 (by2 f p); omega) (by rw [tx_no (by omega)]; decide)], rfl, hR273, hEI289, hER290, hi276, hi277⟩)
                  · have c_104 : ¬ (¬ (nI (tg f E (by2 f (p + 2)))) = 1) := of_decide_eq_false c_104
                    have n_104 : tg f E (by2 f (p + 2)) = 1 := (eq_nI (p := tg f E (by2 f (p + 2))) (n := 1) (Nat.lt_trans (tg_lt _ _ _) (by decide)) (by decide)).mp (Decidable.not_not.mp c_104)
                    refine ps_st (S' := (108, [(0, .ref m0), (1, .int (nI p)), (2, .int (nI (by2 f pF))), (3, .int (nI f0)), (4, .int (nI k)), (5, .int (nI (by2 f p)))], [.ref m0], M1)) rfl rfl rfl ?_
                    refine ps_st (S' := (109, [(0, .ref m0), (1, .int (nI p)), (2, .int (nI (by2 f pF))), (3, .int (nI f0)), (4, .int (nI k)), (5, .int (nI (by2 f p)))], [.ref m0, .ref m0], M1)) rfl rfl rfl ?_
                    refine ps_st (S' := (110, [(0, .ref m0), (1, .int (nI p)), (2, .int (nI (by2 f pF))), (3, .int (nI f0)), (4, .int (nI k)), (5, .int (nI (by2 f p)))], [.ref m0, .ref m0, .ref m0], M1)) rfl rfl rfl ?_
                    refine ps_st (S' := (111, [(0, .ref m0), (1, .int (nI p)), (2, .int (nI (by2 f pF))), (3, .int (nI f0)), (4, .int (nI k)), (5, .int (nI (by2 f p)))], [.int (nI p), .ref m0, .ref m0, .ref m0], M1)) rfl rfl rfl ?_
                    refine ps_st (S' := (112, [(0, .ref m0), (1, .int (nI p)), (2, .int (nI (by2 f pF))), (3, .int (nI f0)), (4, .int (nI k)), (5, .int (nI (by2 f p)))], [.int 2, .int (nI p), .ref m0, .ref m0, .ref m0], M1)) rfl rfl rfl ?_
                    refine ps_st (S' := (113, [(0, .ref m0), (1, .int (nI p)), (2, .int (nI (by2 f pF))), (3, .int (nI f0)), (4, .int (nI k)), (5, .int (nI (by2 f p)))], [.int ((nI p) + 2), .ref m0, .ref m0, .ref m0], M1)) rfl rfl rfl ?_
                    rw [nI_add1 (p := p) (k := 2) (x := 2) rfl (by omega)]
                    show pl _ _ _ (_, [(0, .ref m0), (1, .int (nI p)), (2, .int (nI (by2 f pF))), (3, .int (nI f0)), (4, .int (nI k)), (5, .int (nI (by2 f p)))], [.int (nI (p + 2)), .ref m0, .ref m0, .ref m0], M1) _
                    refine pl_call (a := [.ref m0, .int (nI (p + 2))]) (rest := [.ref m0, .ref m0]) rfl rfl rfl (rd_u2 (n := n) (f := f) (p := (p + 2)) hR1 hF1 (by omega)) (fun v291 M292 q293 => ?_)
                    obtain ⟨rfl, rfl⟩ := q293
                    show pl _ _ _ (116, [(0, .ref m0), (1, .int (nI p)), (2, .int (nI (by2 f pF))), (3, .int (nI f0)), (4, .int (nI k)), (5, .int (nI (by2 f p)))], [.int (nI (by2 f (p + 2))), .ref m0, .ref m0], M1) _
                    have hu_113 := by2_lt f (p + 2)
                    refine pl_call (a := [.ref m0, .int (nI (by2 f (p + 2)))]) (rest := [.ref m0]) rfl rfl rfl (rd_symOf (n := n) (f := f) (tx := tx) (cN := cN) (A := A) (N := N) (mj := mj) (E := E) (k := (by2 f (p + 2))) hR1 hl51 hl52 hl53 hF1 hY1 hP1 (hEP) (hN) (hmj) (by omega)) (fun v294 M295 q296 => ?_)
                    obtain ⟨s297, q116_s, rfl, rfl⟩ := q296
                    show pl _ _ _ (119, [(0, .ref m0), (1, .int (nI p)), (2, .int (nI (by2 f pF))), (3, .int (nI f0)), (4, .int (nI k)), (5, .int (nI (by2 f p)))], [.int (nI s297), .ref m0], M1) _
                    have hsl_116 := q116_s.1
                    have htl_116 := hY1.1.2.2.1
                    refine ps_st (S' := (120, [(0, .ref m0), (1, .int (nI p)), (2, .int (nI (by2 f pF))), (3, .int (nI f0)), (4, .int (nI k)), (5, .int (nI (by2 f p)))], [.int 1, .int (nI s297), .ref m0], M1)) rfl rfl rfl ?_
                    refine pl_call (a := [.ref m0, .int (nI s297), .int 1]) (rest := []) rfl rfl rfl (rd_unq1 (tx := tx) (cN := cN) (A := A) (s := s297) (l := (tX f n E (by2 f (p + 2)))) hR1 hY1 (q116_s)) (fun v298 M299 q300 => ?_)
                    obtain ⟨rfl, rfl⟩ := q300
                    show pl _ _ _ (123, [(0, .ref m0), (1, .int (nI p)), (2, .int (nI (by2 f pF))), (3, .int (nI f0)), (4, .int (nI k)), (5, .int (nI (by2 f p)))], [.int (nI (unqN (tX f n E (by2 f (p + 2)))))], M1) _
                    refine ps_if (S1 := (136, [(0, .ref m0), (1, .int (nI p)), (2, .int (nI (by2 f pF))), (3, .int (nI f0)), (4, .int (nI k)), (5, .int (nI (by2 f p)))], [], M1)) (S2 := (126, [(0, .ref m0), (1, .int (nI p))], [], M1)) rfl rfl rfl (fun c_123 => ?_) (fun c_123 => ?_)
                    · have c_123 : ¬ (nI (unqN (tX f n E (by2 f (p + 2))))) = 0 := of_decide_eq_true c_123
                      have n_123 : ¬ (unqN (tX f n E (by2 f (p + 2))) = 0) := fun h9 => c_123 ((eq_nI (p := unqN (tX f n E (by2 f (p + 2)))) (n := 0) (Nat.lt_trans (le1_unq _) (by decide)) (by decide)).mpr h9)
                      refine ps_st (S' := (137, [(0, .ref m0), (1, .int (nI p)), (2, .int (nI (by2 f pF))), (3, .int (nI f0)), (4, .int (nI k)), (5, .int (nI (by2 f p)))], [.ref m0], M1)) rfl rfl rfl ?_
                      refine ps_st (S' := (138, [(0, .ref m0), (1, .int (nI p)), (2, .int (nI (by2 f pF))), (3, .int (nI f0)), (4, .int (nI k)), (5, .int (nI (by2 f p)))], [.ref m0, .ref m0], M1)) rfl rfl rfl ?_
                      refine ps_st (S' := (139, [(0, .ref m0), (1, .int (nI p)), (2, .int (nI (by2 f pF))), (3, .int (nI f0)), (4, .int (nI k)), (5, .int (nI (by2 f p)))], [.int (nI p), .ref m0, .ref m0], M1)) rfl rfl rfl ?_
                      refine ps_st (S' := (140, [(0, .ref m0), (1, .int (nI p)), (2, .int (nI (by2 f pF))), (3, .int (nI f0)), (4, .int (nI k)), (5, .int (nI (by2 f p)))], [.int 4, .int (nI p), .ref m0, .ref m0], M1)) rfl rfl rfl ?_
                      refine ps_st (S' := (141, [(0, .ref m0), (1, .int (nI p)), (2, .int (nI (by2 f pF))), (3, .int (nI f0)), (4, .int (nI k)), (5, .int (nI (by2 f p)))], [.int ((nI p) + 4), .ref m0, .ref m0], M1)) rfl rfl rfl ?_
                      rw [nI_add1 (p := p) (k := 4) (x := 4) rfl (by omega)]
                      show pl _ _ _ (_, [(0, .ref m0), (1, .int (nI p)), (2, .int (nI (by2 f pF))), (3, .int (nI f0)), (4, .int (nI k)), (5, .int (nI (by2 f p)))], [.int (nI (p + 4)), .ref m0, .ref m0], M1) _
                      refine pl_call (a := [.ref m0, .int (nI (p + 4))]) (rest := [.ref m0]) rfl rfl rfl (rd_u2 (n := n) (f := f) (p := (p + 4)) hR1 hF1 (by omega)) (fun v301 M302 q303 => ?_)
                      obtain ⟨rfl, rfl⟩ := q303
                      show pl _ _ _ (144, [(0, .ref m0), (1, .int (nI p)), (2, .int (nI (by2 f pF))), (3, .int (nI f0)), (4, .int (nI k)), (5, .int (nI (by2 f p)))], [.int (nI (by2 f (p + 4))), .ref m0], M1) _
                      have hu_141 := by2_lt f (p + 4)
                      refine pl_call (a := [.ref m0, .int (nI (by2 f (p + 4)))]) (rest := []) rfl rfl rfl (rd_tag (n := n) (f := f) (tx := tx) (cN := cN) (A := A) (N := N) (mj := mj) (E := E) (k := (by2 f (p + 4))) hR1 hl51 hl52 hl53 hF1 hY1 hP1 (hEP) (hN) (hmj) (by2_lt _ _)) (fun v304 M305 q306 => ?_)
                      obtain ⟨rfl, rfl⟩ := q306
                      show pl _ _ _ (147, [(0, .ref m0), (1, .int (nI p)), (2, .int (nI (by2 f pF))), (3, .int (nI f0)), (4, .int (nI k)), (5, .int (nI (by2 f p)))], [.int (nI (tg f E (by2 f (p + 4))))], M1) _
                      have htg_144 := tg_lt f E (by2 f (p + 4))
                      refine ps_st (S' := (148, [(0, .ref m0), (1, .int (nI p)), (2, .int (nI (by2 f pF))), (3, .int (nI f0)), (4, .int (nI k)), (5, .int (nI (by2 f p)))], [.int 1, .int (nI (tg f E (by2 f (p + 4))))], M1)) rfl rfl rfl ?_
                      refine ps_if2 (S1 := (169, [(0, .ref m0), (1, .int (nI p))], [], M1)) (S2 := (151, [(0, .ref m0), (1, .int (nI p)), (2, .int (nI (by2 f pF))), (3, .int (nI f0)), (4, .int (nI k)), (5, .int (nI (by2 f p)))], [], M1)) rfl rfl rfl (fun c_148 => ?_) (fun c_148 => ?_)
                      · have c_148 : ¬ (nI (tg f E (by2 f (p + 4)))) = 1 := of_decide_eq_true c_148
                        have n_148 : ¬ (tg f E (by2 f (p + 4)) = 1) := fun h9 => c_148 ((eq_nI (p := tg f E (by2 f (p + 4))) (n := 1) (Nat.lt_trans (tg_lt _ _ _) (by decide)) (by decide)).mpr h9)
                        refine ps_st (S' := (170, [(0, .ref m0), (1, .int (nI p))], [.ref m0], M1)) rfl rfl rfl ?_
                        refine ps_st (S' := (172, [(0, .ref m0), (1, .int (nI p))], [.int 21, .ref m0], M1)) rfl rfl rfl ?_
                        refine ps_st (S' := (173, [(0, .ref m0), (1, .int (nI p))], [.int (nI p), .int 21, .ref m0], M1)) rfl rfl rfl ?_
                        refine ps_st (S' := (174, [(0, .ref m0), (1, .int (nI p))], [.int 4, .int (nI p), .int 21, .ref m0], M1)) rfl rfl rfl ?_
                        refine ps_st (S' := (175, [(0, .ref m0), (1, .int (nI p))], [.int ((nI p) + 4), .int 21, .ref m0], M1)) rfl rfl rfl ?_
                        rw [nI_add1 (p := p) (k := 4) (x := 4) rfl (by omega)]
                        show pl _ _ _ (_, [(0, .ref m0), (1, .int (nI p))], [.int (nI (p + 4)), .int 21, .ref m0], M1) _
                        refine pl_call (a := [.ref m0, .int 21, .int (nI (p + 4))]) (rest := []) rfl rfl rfl (rd_wrong (x1 := 21) (x2 := (nI (p + 4))) hR1) (fun v307 M308 q309 => ?_)
                        obtain ⟨I310, R311, rfl, hR312, hI313, hX314, hi315, hi316⟩ := q309
                        have hi317 := (hI313 51 (by decide)).trans hl51
                        have hi318 := (hI313 52 (by decide)).trans hl52
                        have hi319 := (hI313 53 (by decide)).trans hl53
                        have hi320 := (hI313 58 (by decide)).trans hl58
                        have hi321 := (hI313 55 (by decide)).trans hl55
                        have hi322 := (hI313 25 (by decide)).trans hl25
                        have hF_323 := hF1.mono (cIx hI313 (by decide)) (cRx hX314 (by decide))
                        have hY_324 := hY1.mono (cIx hI313 (by decide)) (cRx hX314 (by decide))
                        have hP_325 := hP1.mono (cIx hI313 (by decide)) (cRx hX314 (by decide))
                        have hK_326 := hK1.mono (cIx hI313 (by decide)) (cRx hX314 (by decide))
                        have hN9_327 := hN91.mono (cIx hI313 (by decide)) (cRx hX314 (by decide))
                        have hEI328 := hEI1.tr hI313 (by decide)
                        have hER329 := hER1.tr hX314 (by decide)
                        show pl _ _ _ (178, [(0, .ref m0), (1, .int (nI p))], [.int 0], M308) _
                        exact ps_ret rfl rfl (Or.inr ⟨(21, p + 4), I310, R311, by
                            rw [← hs, flS_st (i := k) (by omega), ← hpk, fh_21 (by have e1 := ffl_0 cf (by2 f p); have e2 := sev_0 (by2 f p); have e3 := hall_80 (by2 f p); omega) (by omega) (by rw [tx_no (by omega)]; decide)], rfl, hR312, hEI328, hER329, hi315, hi316⟩)
                      · have c_148 : ¬ (¬ (nI (tg f E (by2 f (p + 4)))) = 1) := of_decide_eq_false c_148
                        have n_148 : tg f E (by2 f (p + 4)) = 1 := (eq_nI (p := tg f E (by2 f (p + 4))) (n := 1) (Nat.lt_trans (tg_lt _ _ _) (by decide)) (by decide)).mp (Decidable.not_not.mp c_148)
                        refine ps_st (S' := (152, [(0, .ref m0), (1, .int (nI p)), (2, .int (nI (by2 f pF))), (3, .int (nI f0)), (4, .int (nI k)), (5, .int (nI (by2 f p)))], [.ref m0], M1)) rfl rfl rfl ?_
                        refine ps_st (S' := (153, [(0, .ref m0), (1, .int (nI p)), (2, .int (nI (by2 f pF))), (3, .int (nI f0)), (4, .int (nI k)), (5, .int (nI (by2 f p)))], [.ref m0, .ref m0], M1)) rfl rfl rfl ?_
                        refine ps_st (S' := (154, [(0, .ref m0), (1, .int (nI p)), (2, .int (nI (by2 f pF))), (3, .int (nI f0)), (4, .int (nI k)), (5, .int (nI (by2 f p)))], [.ref m0, .ref m0, .ref m0], M1)) rfl rfl rfl ?_
                        refine ps_st (S' := (155, [(0, .ref m0), (1, .int (nI p)), (2, .int (nI (by2 f pF))), (3, .int (nI f0)), (4, .int (nI k)), (5, .int (nI (by2 f p)))], [.int (nI p), .ref m0, .ref m0, .ref m0], M1)) rfl rfl rfl ?_
                        refine ps_st (S' := (156, [(0, .ref m0), (1, .int (nI p)), (2, .int (nI (by2 f pF))), (3, .int (nI f0)), (4, .int (nI k)), (5, .int (nI (by2 f p)))], [.int 4, .int (nI p), .ref m0, .ref m0, .ref m0], M1)) rfl rfl rfl ?_
                        refine ps_st (S' := (157, [(0, .ref m0), (1, .int (nI p)), (2, .int (nI (by2 f pF))), (3, .int (nI f0)), (4, .int (nI k)), (5, .int (nI (by2 f p)))], [.int ((nI p) + 4), .ref m0, .ref m0, .ref m0], M1)) rfl rfl rfl ?_
                        rw [nI_add1 (p := p) (k := 4) (x := 4) rfl (by omega)]
                        show pl _ _ _ (_, [(0, .ref m0), (1, .int (nI p)), (2, .int (nI (by2 f pF))), (3, .int (nI f0)), (4, .int (nI k)), (5, .int (nI (by2 f p)))], [.int (nI (p + 4)), .ref m0, .ref m0, .ref m0], M1) _
                        refine pl_call (a := [.ref m0, .int (nI (p + 4))]) (rest := [.ref m0, .ref m0]) rfl rfl rfl (rd_u2 (n := n) (f := f) (p := (p + 4)) hR1 hF1 (by omega)) (fun v330 M331 q332 => ?_)
                        obtain ⟨rfl, rfl⟩ := q332
                        show pl _ _ _ (160, [(0, .ref m0), (1, .int (nI p)), (2, .int (nI (by2 f pF))), (3, .int (nI f0)), (4, .int (nI k)), (5, .int (nI (by2 f p)))], [.int (nI (by2 f (p + 4))), .ref m0, .ref m0], M1) _
                        have hu_157 := by2_lt f (p + 4)
                        refine pl_call (a := [.ref m0, .int (nI (by2 f (p + 4)))]) (rest := [.ref m0]) rfl rfl rfl (rd_symOf (n := n) (f := f) (tx := tx) (cN := cN) (A := A) (N := N) (mj := mj) (E := E) (k := (by2 f (p + 4))) hR1 hl51 hl52 hl53 hF1 hY1 hP1 (hEP) (hN) (hmj) (by omega)) (fun v333 M334 q335 => ?_)
                        obtain ⟨s336, q160_s, rfl, rfl⟩ := q335
                        show pl _ _ _ (163, [(0, .ref m0), (1, .int (nI p)), (2, .int (nI (by2 f pF))), (3, .int (nI f0)), (4, .int (nI k)), (5, .int (nI (by2 f p)))], [.int (nI s336), .ref m0], M1) _
                        have hsl_160 := q160_s.1
                        have htl_160 := hY1.1.2.2.1
                        refine pl_call (a := [.ref m0, .int (nI s336)]) (rest := []) rfl rfl rfl (rd_isField (tx := tx) (cN := cN) (A := A) (s := s336) (l := (tX f n E (by2 f (p + 4)))) hR1 hY1 (q160_s)) (fun v337 M338 q339 => ?_)
                        obtain ⟨rfl, rfl⟩ := q339
                        show pl _ _ _ (166, [(0, .ref m0), (1, .int (nI p)), (2, .int (nI (by2 f pF))), (3, .int (nI f0)), (4, .int (nI k)), (5, .int (nI (by2 f p)))], [.int (nI (fldN (tX f n E (by2 f (p + 4)))))], M1) _
                        refine ps_if (S1 := (179, [(0, .ref m0), (1, .int (nI p)), (2, .int (nI (by2 f pF))), (3, .int (nI f0)), (4, .int (nI k)), (5, .int (nI (by2 f p)))], [], M1)) (S2 := (169, [(0, .ref m0), (1, .int (nI p))], [], M1)) rfl rfl rfl (fun c_166 => ?_) (fun c_166 => ?_)
                        · have c_166 : ¬ (nI (fldN (tX f n E (by2 f (p + 4))))) = 0 := of_decide_eq_true c_166
                          have n_166 : ¬ (fldN (tX f n E (by2 f (p + 4))) = 0) := fun h9 => c_166 ((eq_nI (p := fldN (tX f n E (by2 f (p + 4)))) (n := 0) (Nat.lt_trans (le1_fld _) (by decide)) (by decide)).mpr h9)
                          refine ps_st (S' := (180, [(0, .ref m0), (1, .int (nI p)), (2, .int (nI (by2 f pF))), (3, .int (nI f0)), (4, .int (nI k)), (5, .int (nI (by2 f p)))], [.ref m0], M1)) rfl rfl rfl ?_
                          refine pr_int (j := 25) (S' := (183, [(0, .ref m0), (1, .int (nI p)), (2, .int (nI (by2 f pF))), (3, .int (nI f0)), (4, .int (nI k)), (5, .int (nI (by2 f p)))], [.int (nI (f0 + k))], M1)) rfl hR1 rfl hl25 rfl ?_
                          refine ps_st (S' := (185, [(6, .int (nI (f0 + k))), (0, .ref m0), (1, .int (nI p)), (2, .int (nI (by2 f pF))), (3, .int (nI f0)), (4, .int (nI k)), (5, .int (nI (by2 f p)))], [], M1)) rfl rfl rfl ?_
                          refine ps_st (S' := (186, [(6, .int (nI (f0 + k))), (0, .ref m0), (1, .int (nI p)), (2, .int (nI (by2 f pF))), (3, .int (nI f0)), (4, .int (nI k)), (5, .int (nI (by2 f p)))], [.ref m0], M1)) rfl rfl rfl ?_
                          refine pr_ref (j := 27) (S' := (189, [(6, .int (nI (f0 + k))), (0, .ref m0), (1, .int (nI p)), (2, .int (nI (by2 f pF))), (3, .int (nI f0)), (4, .int (nI k)), (5, .int (nI (by2 f p)))], [.ref (q 27)], M1)) rfl hR1 rfl rfl ?_
                          refine ps_st (S' := (191, [(6, .int (nI (f0 + k))), (0, .ref m0), (1, .int (nI p)), (2, .int (nI (by2 f pF))), (3, .int (nI f0)), (4, .int (nI k)), (5, .int (nI (by2 f p)))], [.int (nI (f0 + k)), .ref (q 27)], M1)) rfl rfl rfl ?_
                          refine ps_st (S' := (193, [(6, .int (nI (f0 + k))), (0, .ref m0), (1, .int (nI p)), (2, .int (nI (by2 f pF))), (3, .int (nI f0)), (4, .int (nI k)), (5, .int (nI (by2 f p)))], [.int (nI (by2 f p)), .int (nI (f0 + k)), .ref (q 27)], M1)) rfl rfl rfl ?_
                          refine pr_st (a := 27) (j := f0 + k) rfl hR1 rfl (by omega) (fun M340 R341 i1_193 hR342 hS343 => ?_)
                          have hF_344 := hF1.mono (fun _ _ => rfl) (rRx hS343 (by decide))
                          have hY_345 := hY1.mono (fun _ _ => rfl) (rRx hS343 (by decide))
                          have hP_346 := hP1.mono (fun _ _ => rfl) (rRx hS343 (by decide))
                          have hK_347 := hK1.mono (fun _ _ => rfl) (rRx hS343 (by decide))
                          have hN9_348 := hN91.mono (fun _ _ => rfl) (rRx hS343 (by decide))
                          have hER349 := hER1.st hS343 (by decide)
                          show pl _ _ _ (194, [(6, .int (nI (f0 + k))), (0, .ref m0), (1, .int (nI p)), (2, .int (nI (by2 f pF))), (3, .int (nI f0)), (4, .int (nI k)), (5, .int (nI (by2 f p)))], [], M340) _
                          have c27_350 : CE 27 (f0 + k) (nI (by2 f p)) I1 R341 := CE.st hS343
                          refine ps_st (S' := (195, [(6, .int (nI (f0 + k))), (0, .ref m0), (1, .int (nI p)), (2, .int (nI (by2 f pF))), (3, .int (nI f0)), (4, .int (nI k)), (5, .int (nI (by2 f p)))], [.ref m0], M340)) rfl rfl rfl ?_
                          refine pr_ref (j := 28) (S' := (198, [(6, .int (nI (f0 + k))), (0, .ref m0), (1, .int (nI p)), (2, .int (nI (by2 f pF))), (3, .int (nI f0)), (4, .int (nI k)), (5, .int (nI (by2 f p)))], [.ref (q 28)], M340)) rfl hR342 rfl rfl ?_
                          refine ps_st (S' := (200, [(6, .int (nI (f0 + k))), (0, .ref m0), (1, .int (nI p)), (2, .int (nI (by2 f pF))), (3, .int (nI f0)), (4, .int (nI k)), (5, .int (nI (by2 f p)))], [.int (nI (f0 + k)), .ref (q 28)], M340)) rfl rfl rfl ?_
                          refine ps_st (S' := (201, [(6, .int (nI (f0 + k))), (0, .ref m0), (1, .int (nI p)), (2, .int (nI (by2 f pF))), (3, .int (nI f0)), (4, .int (nI k)), (5, .int (nI (by2 f p)))], [.ref m0, .int (nI (f0 + k)), .ref (q 28)], M340)) rfl rfl rfl ?_
                          refine ps_st (S' := (202, [(6, .int (nI (f0 + k))), (0, .ref m0), (1, .int (nI p)), (2, .int (nI (by2 f pF))), (3, .int (nI f0)), (4, .int (nI k)), (5, .int (nI (by2 f p)))], [.ref m0, .ref m0, .int (nI (f0 + k)), .ref (q 28)], M340)) rfl rfl rfl ?_
                          refine ps_st (S' := (203, [(6, .int (nI (f0 + k))), (0, .ref m0), (1, .int (nI p)), (2, .int (nI (by2 f pF))), (3, .int (nI f0)), (4, .int (nI k)), (5, .int (nI (by2 f p)))], [.int (nI p), .ref m0, .ref m0, .int (nI (f0 + k)), .ref (q 28)], M340)) rfl rfl rfl ?_
                          refine ps_st (S' := (204, [(6, .int (nI (f0 + k))), (0, .ref m0), (1, .int (nI p)), (2, .int (nI (by2 f pF))), (3, .int (nI f0)), (4, .int (nI k)), (5, .int (nI (by2 f p)))], [.int 2, .int (nI p), .ref m0, .ref m0, .int (nI (f0 + k)), .ref (q 28)], M340)) rfl rfl rfl ?_
                          refine ps_st (S' := (205, [(6, .int (nI (f0 + k))), (0, .ref m0), (1, .int (nI p)), (2, .int (nI (by2 f pF))), (3, .int (nI f0)), (4, .int (nI k)), (5, .int (nI (by2 f p)))], [.int ((nI p) + 2), .ref m0, .ref m0, .int (nI (f0 + k)), .ref (q 28)], M340)) rfl rfl rfl ?_
                          rw [nI_add1 (p := p) (k := 2) (x := 2) rfl (by omega)]
                          show pl _ _ _ (_, [(6, .int (nI (f0 + k))), (0, .ref m0), (1, .int (nI p)), (2, .int (nI (by2 f pF))), (3, .int (nI f0)), (4, .int (nI k)), (5, .int (nI (by2 f p)))], [.int (nI (p + 2)), .ref m0, .ref m0, .int (nI (f0 + k)), .ref (q 28)], M340) _
                          refine pl_call (a := [.ref m0, .int (nI (p + 2))]) (rest := [.ref m0, .int (nI (f0 + k)), .ref (q 28)]) rfl rfl rfl (rd_u2 (n := n) (f := f) (p := (p + 2)) hR342 hF_344 (by omega)) (fun v351 M352 q353 => ?_)
                          obtain ⟨rfl, rfl⟩ := q353
                          show pl _ _ _ (208, [(6, .int (nI (f0 + k))), (0, .ref m0), (1, .int (nI p)), (2, .int (nI (by2 f pF))), (3, .int (nI f0)), (4, .int (nI k)), (5, .int (nI (by2 f p)))], [.int (nI (by2 f (p + 2))), .ref m0, .int (nI (f0 + k)), .ref (q 28)], M340) _
                          have hu_205 := by2_lt f (p + 2)
                          refine pl_call (a := [.ref m0, .int (nI (by2 f (p + 2)))]) (rest := [.int (nI (f0 + k)), .ref (q 28)]) rfl rfl rfl (rd_symOf (n := n) (f := f) (tx := tx) (cN := cN) (A := A) (N := N) (mj := mj) (E := E) (k := (by2 f (p + 2))) hR342 hl51 hl52 hl53 hF_344 hY_345 hP_346 (hEP) (hN) (hmj) (by omega)) (fun v354 M355 q356 => ?_)
                          obtain ⟨s357, q208_s, rfl, rfl⟩ := q356
                          show pl _ _ _ (211, [(6, .int (nI (f0 + k))), (0, .ref m0), (1, .int (nI p)), (2, .int (nI (by2 f pF))), (3, .int (nI f0)), (4, .int (nI k)), (5, .int (nI (by2 f p)))], [.int (nI s357), .int (nI (f0 + k)), .ref (q 28)], M340) _
                          have hsl_208 := q208_s.1
                          have htl_208 := hY_345.1.2.2.1
                          refine pr_st (a := 28) (j := f0 + k) rfl hR342 rfl (by omega) (fun M358 R359 i1_211 hR360 hS361 => ?_)
                          have hF_362 := hF_344.mono (fun _ _ => rfl) (rRx hS361 (by decide))
                          have hY_363 := hY_345.mono (fun _ _ => rfl) (rRx hS361 (by decide))
                          have hP_364 := hP_346.mono (fun _ _ => rfl) (rRx hS361 (by decide))
                          have hK_365 := hK_347.mono (fun _ _ => rfl) (rRx hS361 (by decide))
                          have c27_366 := c27_350.mono (fun _ _ => rfl) (rRx hS361 (by decide))
                          have hER367 := hER349.st hS361 (by decide)
                          show pl _ _ _ (212, [(6, .int (nI (f0 + k))), (0, .ref m0), (1, .int (nI p)), (2, .int (nI (by2 f pF))), (3, .int (nI f0)), (4, .int (nI k)), (5, .int (nI (by2 f p)))], [], M358) _
                          have c28_368 : CE 28 (f0 + k) (nI s357) I1 R359 := CE.st hS361
                          have hN9_369 := FN.st (I' := I1) hN9_348 hS361 rfl
                          refine ps_st (S' := (213, [(6, .int (nI (f0 + k))), (0, .ref m0), (1, .int (nI p)), (2, .int (nI (by2 f pF))), (3, .int (nI f0)), (4, .int (nI k)), (5, .int (nI (by2 f p)))], [.ref m0], M358)) rfl rfl rfl ?_
                          refine pr_ref (j := 29) (S' := (216, [(6, .int (nI (f0 + k))), (0, .ref m0), (1, .int (nI p)), (2, .int (nI (by2 f pF))), (3, .int (nI f0)), (4, .int (nI k)), (5, .int (nI (by2 f p)))], [.ref (q 29)], M358)) rfl hR360 rfl rfl ?_
                          refine ps_st (S' := (218, [(6, .int (nI (f0 + k))), (0, .ref m0), (1, .int (nI p)), (2, .int (nI (by2 f pF))), (3, .int (nI f0)), (4, .int (nI k)), (5, .int (nI (by2 f p)))], [.int (nI (f0 + k)), .ref (q 29)], M358)) rfl rfl rfl ?_
                          refine ps_st (S' := (219, [(6, .int (nI (f0 + k))), (0, .ref m0), (1, .int (nI p)), (2, .int (nI (by2 f pF))), (3, .int (nI f0)), (4, .int (nI k)), (5, .int (nI (by2 f p)))], [.ref m0, .int (nI (f0 + k)), .ref (q 29)], M358)) rfl rfl rfl ?_
                          refine ps_st (S' := (220, [(6, .int (nI (f0 + k))), (0, .ref m0), (1, .int (nI p)), (2, .int (nI (by2 f pF))), (3, .int (nI f0)), (4, .int (nI k)), (5, .int (nI (by2 f p)))], [.ref m0, .ref m0, .int (nI (f0 + k)), .ref (q 29)], M358)) rfl rfl rfl ?_
                          refine ps_st (S' := (221, [(6, .int (nI (f0 + k))), (0, .ref m0), (1, .int (nI p)), (2, .int (nI (by2 f pF))), (3, .int (nI f0)), (4, .int (nI k)), (5, .int (nI (by2 f p)))], [.int (nI p), .ref m0, .ref m0, .int (nI (f0 + k)), .ref (q 29)], M358)) rfl rfl rfl ?_
                          refine ps_st (S' := (222, [(6, .int (nI (f0 + k))), (0, .ref m0), (1, .int (nI p)), (2, .int (nI (by2 f pF))), (3, .int (nI f0)), (4, .int (nI k)), (5, .int (nI (by2 f p)))], [.int 4, .int (nI p), .ref m0, .ref m0, .int (nI (f0 + k)), .ref (q 29)], M358)) rfl rfl rfl ?_
                          refine ps_st (S' := (223, [(6, .int (nI (f0 + k))), (0, .ref m0), (1, .int (nI p)), (2, .int (nI (by2 f pF))), (3, .int (nI f0)), (4, .int (nI k)), (5, .int (nI (by2 f p)))], [.int ((nI p) + 4), .ref m0, .ref m0, .int (nI (f0 + k)), .ref (q 29)], M358)) rfl rfl rfl ?_
                          rw [nI_add1 (p := p) (k := 4) (x := 4) rfl (by omega)]
                          show pl _ _ _ (_, [(6, .int (nI (f0 + k))), (0, .ref m0), (1, .int (nI p)), (2, .int (nI (by2 f pF))), (3, .int (nI f0)), (4, .int (nI k)), (5, .int (nI (by2 f p)))], [.int (nI (p + 4)), .ref m0, .ref m0, .int (nI (f0 + k)), .ref (q 29)], M358) _
                          refine pl_call (a := [.ref m0, .int (nI (p + 4))]) (rest := [.ref m0, .int (nI (f0 + k)), .ref (q 29)]) rfl rfl rfl (rd_u2 (n := n) (f := f) (p := (p + 4)) hR360 hF_362 (by omega)) (fun v370 M371 q372 => ?_)
                          obtain ⟨rfl, rfl⟩ := q372
                          show pl _ _ _ (226, [(6, .int (nI (f0 + k))), (0, .ref m0), (1, .int (nI p)), (2, .int (nI (by2 f pF))), (3, .int (nI f0)), (4, .int (nI k)), (5, .int (nI (by2 f p)))], [.int (nI (by2 f (p + 4))), .ref m0, .int (nI (f0 + k)), .ref (q 29)], M358) _
                          have hu_223 := by2_lt f (p + 4)
                          refine pl_call (a := [.ref m0, .int (nI (by2 f (p + 4)))]) (rest := [.int (nI (f0 + k)), .ref (q 29)]) rfl rfl rfl (rd_symOf (n := n) (f := f) (tx := tx) (cN := cN) (A := A) (N := N) (mj := mj) (E := E) (k := (by2 f (p + 4))) hR360 hl51 hl52 hl53 hF_362 hY_363 hP_364 (hEP) (hN) (hmj) (by omega)) (fun v373 M374 q375 => ?_)
                          obtain ⟨s376, q226_s, rfl, rfl⟩ := q375
                          show pl _ _ _ (229, [(6, .int (nI (f0 + k))), (0, .ref m0), (1, .int (nI p)), (2, .int (nI (by2 f pF))), (3, .int (nI f0)), (4, .int (nI k)), (5, .int (nI (by2 f p)))], [.int (nI s376), .int (nI (f0 + k)), .ref (q 29)], M358) _
                          have hsl_226 := q226_s.1
                          have htl_226 := hY_363.1.2.2.1
                          refine pr_st (a := 29) (j := f0 + k) rfl hR360 rfl (by omega) (fun M377 R378 i1_229 hR379 hS380 => ?_)
                          have hF_381 := hF_362.mono (fun _ _ => rfl) (rRx hS380 (by decide))
                          have hY_382 := hY_363.mono (fun _ _ => rfl) (rRx hS380 (by decide))
                          have hP_383 := hP_364.mono (fun _ _ => rfl) (rRx hS380 (by decide))
                          have hK_384 := hK_365.mono (fun _ _ => rfl) (rRx hS380 (by decide))
                          have c27_385 := c27_366.mono (fun _ _ => rfl) (rRx hS380 (by decide))
                          have c28_386 := c28_368.mono (fun _ _ => rfl) (rRx hS380 (by decide))
                          have hER387 := hER367.st hS380 (by decide)
                          show pl _ _ _ (230, [(6, .int (nI (f0 + k))), (0, .ref m0), (1, .int (nI p)), (2, .int (nI (by2 f pF))), (3, .int (nI f0)), (4, .int (nI k)), (5, .int (nI (by2 f p)))], [], M377) _
                          have c29_388 : CE 29 (f0 + k) (nI s376) I1 R378 := CE.st hS380
                          have hN9_389 := FN.st (I' := I1) hN9_369 hS380 rfl
                          refine ps_st (S' := (231, [(6, .int (nI (f0 + k))), (0, .ref m0), (1, .int (nI p)), (2, .int (nI (by2 f pF))), (3, .int (nI f0)), (4, .int (nI k)), (5, .int (nI (by2 f p)))], [.ref m0], M377)) rfl rfl rfl ?_
                          refine pr_ref (j := 30) (S' := (234, [(6, .int (nI (f0 + k))), (0, .ref m0), (1, .int (nI p)), (2, .int (nI (by2 f pF))), (3, .int (nI f0)), (4, .int (nI k)), (5, .int (nI (by2 f p)))], [.ref (q 30)], M377)) rfl hR379 rfl rfl ?_
                          refine ps_st (S' := (236, [(6, .int (nI (f0 + k))), (0, .ref m0), (1, .int (nI p)), (2, .int (nI (by2 f pF))), (3, .int (nI f0)), (4, .int (nI k)), (5, .int (nI (by2 f p)))], [.int (nI (f0 + k)), .ref (q 30)], M377)) rfl rfl rfl ?_
                          refine ps_st (S' := (237, [(6, .int (nI (f0 + k))), (0, .ref m0), (1, .int (nI p)), (2, .int (nI (by2 f pF))), (3, .int (nI f0)), (4, .int (nI k)), (5, .int (nI (by2 f p)))], [.int 0, .int (nI (f0 + k)), .ref (q 30)], M377)) rfl rfl rfl ?_
                          refine pr_st (a := 30) (j := f0 + k) rfl hR379 rfl (by omega) (fun M390 R391 i1_237 hR392 hS393 => ?_)
                          have hF_394 := hF_381.mono (fun _ _ => rfl) (rRx hS393 (by decide))
                          have hY_395 := hY_382.mono (fun _ _ => rfl) (rRx hS393 (by decide))
                          have hP_396 := hP_383.mono (fun _ _ => rfl) (rRx hS393 (by decide))
                          have hK_397 := hK_384.mono (fun _ _ => rfl) (rRx hS393 (by decide))
                          have c27_398 := c27_385.mono (fun _ _ => rfl) (rRx hS393 (by decide))
                          have c28_399 := c28_386.mono (fun _ _ => rfl) (rRx hS393 (by decide))
                          have c29_400 := c29_388.mono (fun _ _ => rfl) (rRx hS393 (by decide))
                          have hN9_401 := hN9_389.mono (fun _ _ => rfl) (rRx hS393 (by decide))
                          have hER402 := hER387.st hS393 (by decide)
                          show pl _ _ _ (238, [(6, .int (nI (f0 + k))), (0, .ref m0), (1, .int (nI p)), (2, .int (nI (by2 f pF))), (3, .int (nI f0)), (4, .int (nI k)), (5, .int (nI (by2 f p)))], [], M390) _
                          refine ps_st (S' := (239, [(6, .int (nI (f0 + k))), (0, .ref m0), (1, .int (nI p)), (2, .int (nI (by2 f pF))), (3, .int (nI f0)), (4, .int (nI k)), (5, .int (nI (by2 f p)))], [.ref m0], M390)) rfl rfl rfl ?_
                          refine pr_ref (j := 31) (S' := (242, [(6, .int (nI (f0 + k))), (0, .ref m0), (1, .int (nI p)), (2, .int (nI (by2 f pF))), (3, .int (nI f0)), (4, .int (nI k)), (5, .int (nI (by2 f p)))], [.ref (q 31)], M390)) rfl hR392 rfl rfl ?_
                          refine ps_st (S' := (244, [(6, .int (nI (f0 + k))), (0, .ref m0), (1, .int (nI p)), (2, .int (nI (by2 f pF))), (3, .int (nI f0)), (4, .int (nI k)), (5, .int (nI (by2 f p)))], [.int (nI (f0 + k)), .ref (q 31)], M390)) rfl rfl rfl ?_
                          refine ps_st (S' := (245, [(6, .int (nI (f0 + k))), (0, .ref m0), (1, .int (nI p)), (2, .int (nI (by2 f pF))), (3, .int (nI f0)), (4, .int (nI k)), (5, .int (nI (by2 f p)))], [.int 0, .int (nI (f0 + k)), .ref (q 31)], M390)) rfl rfl rfl ?_
                          refine pr_st (a := 31) (j := f0 + k) rfl hR392 rfl (by omega) (fun M403 R404 i1_245 hR405 hS406 => ?_)
                          have hF_407 := hF_394.mono (fun _ _ => rfl) (rRx hS406 (by decide))
                          have hY_408 := hY_395.mono (fun _ _ => rfl) (rRx hS406 (by decide))
                          have hP_409 := hP_396.mono (fun _ _ => rfl) (rRx hS406 (by decide))
                          have hK_410 := hK_397.mono (fun _ _ => rfl) (rRx hS406 (by decide))
                          have c27_411 := c27_398.mono (fun _ _ => rfl) (rRx hS406 (by decide))
                          have c28_412 := c28_399.mono (fun _ _ => rfl) (rRx hS406 (by decide))
                          have c29_413 := c29_400.mono (fun _ _ => rfl) (rRx hS406 (by decide))
                          have hN9_414 := hN9_401.mono (fun _ _ => rfl) (rRx hS406 (by decide))
                          have hER415 := hER402.st hS406 (by decide)
                          show pl _ _ _ (246, [(6, .int (nI (f0 + k))), (0, .ref m0), (1, .int (nI p)), (2, .int (nI (by2 f pF))), (3, .int (nI f0)), (4, .int (nI k)), (5, .int (nI (by2 f p)))], [], M403) _
                          refine ps_st (S' := (247, [(6, .int (nI (f0 + k))), (0, .ref m0), (1, .int (nI p)), (2, .int (nI (by2 f pF))), (3, .int (nI f0)), (4, .int (nI k)), (5, .int (nI (by2 f p)))], [.ref m0], M403)) rfl rfl rfl ?_
                          refine pr_ref (j := 32) (S' := (250, [(6, .int (nI (f0 + k))), (0, .ref m0), (1, .int (nI p)), (2, .int (nI (by2 f pF))), (3, .int (nI f0)), (4, .int (nI k)), (5, .int (nI (by2 f p)))], [.ref (q 32)], M403)) rfl hR405 rfl rfl ?_
                          refine ps_st (S' := (252, [(6, .int (nI (f0 + k))), (0, .ref m0), (1, .int (nI p)), (2, .int (nI (by2 f pF))), (3, .int (nI f0)), (4, .int (nI k)), (5, .int (nI (by2 f p)))], [.int (nI (f0 + k)), .ref (q 32)], M403)) rfl rfl rfl ?_
                          refine ps_st (S' := (253, [(6, .int (nI (f0 + k))), (0, .ref m0), (1, .int (nI p)), (2, .int (nI (by2 f pF))), (3, .int (nI f0)), (4, .int (nI k)), (5, .int (nI (by2 f p)))], [.ref m0, .int (nI (f0 + k)), .ref (q 32)], M403)) rfl rfl rfl ?_
                          refine ps_st (S' := (254, [(6, .int (nI (f0 + k))), (0, .ref m0), (1, .int (nI p)), (2, .int (nI (by2 f pF))), (3, .int (nI f0)), (4, .int (nI k)), (5, .int (nI (by2 f p)))], [.int (nI p), .ref m0, .int (nI (f0 + k)), .ref (q 32)], M403)) rfl rfl rfl ?_
                          refine ps_st (S' := (255, [(6, .int (nI (f0 + k))), (0, .ref m0), (1, .int (nI p)), (2, .int (nI (by2 f pF))), (3, .int (nI f0)), (4, .int (nI k)), (5, .int (nI (by2 f p)))], [.int 2, .int (nI p), .ref m0, .int (nI (f0 + k)), .ref (q 32)], M403)) rfl rfl rfl ?_
                          refine ps_st (S' := (256, [(6, .int (nI (f0 + k))), (0, .ref m0), (1, .int (nI p)), (2, .int (nI (by2 f pF))), (3, .int (nI f0)), (4, .int (nI k)), (5, .int (nI (by2 f p)))], [.int ((nI p) + 2), .ref m0, .int (nI (f0 + k)), .ref (q 32)], M403)) rfl rfl rfl ?_
                          rw [nI_add1 (p := p) (k := 2) (x := 2) rfl (by omega)]
                          show pl _ _ _ (_, [(6, .int (nI (f0 + k))), (0, .ref m0), (1, .int (nI p)), (2, .int (nI (by2 f pF))), (3, .int (nI f0)), (4, .int (nI k)), (5, .int (nI (by2 f p)))], [.int (nI (p + 2)), .ref m0, .int (nI (f0 + k)), .ref (q 32)], M403) _
                          refine pl_call (a := [.ref m0, .int (nI (p + 2))]) (rest := [.int (nI (f0 + k)), .ref (q 32)]) rfl rfl rfl (rd_u2 (n := n) (f := f) (p := (p + 2)) hR405 hF_407 (by omega)) (fun v416 M417 q418 => ?_)
                          obtain ⟨rfl, rfl⟩ := q418
                          show pl _ _ _ (259, [(6, .int (nI (f0 + k))), (0, .ref m0), (1, .int (nI p)), (2, .int (nI (by2 f pF))), (3, .int (nI f0)), (4, .int (nI k)), (5, .int (nI (by2 f p)))], [.int (nI (by2 f (p + 2))), .int (nI (f0 + k)), .ref (q 32)], M403) _
                          have hu_256 := by2_lt f (p + 2)
                          refine pr_st (a := 32) (j := f0 + k) rfl hR405 rfl (by omega) (fun M419 R420 i1_259 hR421 hS422 => ?_)
                          have hF_423 := hF_407.mono (fun _ _ => rfl) (rRx hS422 (by decide))
                          have hY_424 := hY_408.mono (fun _ _ => rfl) (rRx hS422 (by decide))
                          have hP_425 := hP_409.mono (fun _ _ => rfl) (rRx hS422 (by decide))
                          have hK_426 := hK_410.mono (fun _ _ => rfl) (rRx hS422 (by decide))
                          have c27_427 := c27_411.mono (fun _ _ => rfl) (rRx hS422 (by decide))
                          have c28_428 := c28_412.mono (fun _ _ => rfl) (rRx hS422 (by decide))
                          have c29_429 := c29_413.mono (fun _ _ => rfl) (rRx hS422 (by decide))
                          have hN9_430 := hN9_414.mono (fun _ _ => rfl) (rRx hS422 (by decide))
                          have hER431 := hER415.st hS422 (by decide)
                          show pl _ _ _ (260, [(6, .int (nI (f0 + k))), (0, .ref m0), (1, .int (nI p)), (2, .int (nI (by2 f pF))), (3, .int (nI f0)), (4, .int (nI k)), (5, .int (nI (by2 f p)))], [], M419) _
                          refine ps_st (S' := (261, [(6, .int (nI (f0 + k))), (0, .ref m0), (1, .int (nI p)), (2, .int (nI (by2 f pF))), (3, .int (nI f0)), (4, .int (nI k)), (5, .int (nI (by2 f p)))], [.ref m0], M419)) rfl rfl rfl ?_
                          refine pr_ref (j := 33) (S' := (264, [(6, .int (nI (f0 + k))), (0, .ref m0), (1, .int (nI p)), (2, .int (nI (by2 f pF))), (3, .int (nI f0)), (4, .int (nI k)), (5, .int (nI (by2 f p)))], [.ref (q 33)], M419)) rfl hR421 rfl rfl ?_
                          refine ps_st (S' := (266, [(6, .int (nI (f0 + k))), (0, .ref m0), (1, .int (nI p)), (2, .int (nI (by2 f pF))), (3, .int (nI f0)), (4, .int (nI k)), (5, .int (nI (by2 f p)))], [.int (nI (f0 + k)), .ref (q 33)], M419)) rfl rfl rfl ?_
                          refine ps_st (S' := (267, [(6, .int (nI (f0 + k))), (0, .ref m0), (1, .int (nI p)), (2, .int (nI (by2 f pF))), (3, .int (nI f0)), (4, .int (nI k)), (5, .int (nI (by2 f p)))], [.ref m0, .int (nI (f0 + k)), .ref (q 33)], M419)) rfl rfl rfl ?_
                          refine ps_st (S' := (268, [(6, .int (nI (f0 + k))), (0, .ref m0), (1, .int (nI p)), (2, .int (nI (by2 f pF))), (3, .int (nI f0)), (4, .int (nI k)), (5, .int (nI (by2 f p)))], [.int (nI p), .ref m0, .int (nI (f0 + k)), .ref (q 33)], M419)) rfl rfl rfl ?_
                          refine ps_st (S' := (269, [(6, .int (nI (f0 + k))), (0, .ref m0), (1, .int (nI p)), (2, .int (nI (by2 f pF))), (3, .int (nI f0)), (4, .int (nI k)), (5, .int (nI (by2 f p)))], [.int 4, .int (nI p), .ref m0, .int (nI (f0 + k)), .ref (q 33)], M419)) rfl rfl rfl ?_
                          refine ps_st (S' := (270, [(6, .int (nI (f0 + k))), (0, .ref m0), (1, .int (nI p)), (2, .int (nI (by2 f pF))), (3, .int (nI f0)), (4, .int (nI k)), (5, .int (nI (by2 f p)))], [.int ((nI p) + 4), .ref m0, .int (nI (f0 + k)), .ref (q 33)], M419)) rfl rfl rfl ?_
                          rw [nI_add1 (p := p) (k := 4) (x := 4) rfl (by omega)]
                          show pl _ _ _ (_, [(6, .int (nI (f0 + k))), (0, .ref m0), (1, .int (nI p)), (2, .int (nI (by2 f pF))), (3, .int (nI f0)), (4, .int (nI k)), (5, .int (nI (by2 f p)))], [.int (nI (p + 4)), .ref m0, .int (nI (f0 + k)), .ref (q 33)], M419) _
                          refine pl_call (a := [.ref m0, .int (nI (p + 4))]) (rest := [.int (nI (f0 + k)), .ref (q 33)]) rfl rfl rfl (rd_u2 (n := n) (f := f) (p := (p + 4)) hR421 hF_423 (by omega)) (fun v432 M433 q434 => ?_)
                          obtain ⟨rfl, rfl⟩ := q434
                          show pl _ _ _ (273, [(6, .int (nI (f0 + k))), (0, .ref m0), (1, .int (nI p)), (2, .int (nI (by2 f pF))), (3, .int (nI f0)), (4, .int (nI k)), (5, .int (nI (by2 f p)))], [.int (nI (by2 f (p + 4))), .int (nI (f0 + k)), .ref (q 33)], M419) _
                          have hu_270 := by2_lt f (p + 4)
                          refine pr_st (a := 33) (j := f0 + k) rfl hR421 rfl (by omega) (fun M435 R436 i1_273 hR437 hS438 => ?_)
                          have hF_439 := hF_423.mono (fun _ _ => rfl) (rRx hS438 (by decide))
                          have hY_440 := hY_424.mono (fun _ _ => rfl) (rRx hS438 (by decide))
                          have hP_441 := hP_425.mono (fun _ _ => rfl) (rRx hS438 (by decide))
                          have hK_442 := hK_426.mono (fun _ _ => rfl) (rRx hS438 (by decide))
                          have c27_443 := c27_427.mono (fun _ _ => rfl) (rRx hS438 (by decide))
                          have c28_444 := c28_428.mono (fun _ _ => rfl) (rRx hS438 (by decide))
                          have c29_445 := c29_429.mono (fun _ _ => rfl) (rRx hS438 (by decide))
                          have hN9_446 := hN9_430.mono (fun _ _ => rfl) (rRx hS438 (by decide))
                          have hER447 := hER431.st hS438 (by decide)
                          show pl _ _ _ (274, [(6, .int (nI (f0 + k))), (0, .ref m0), (1, .int (nI p)), (2, .int (nI (by2 f pF))), (3, .int (nI f0)), (4, .int (nI k)), (5, .int (nI (by2 f p)))], [], M435) _
                          refine ps_st (S' := (275, [(6, .int (nI (f0 + k))), (0, .ref m0), (1, .int (nI p)), (2, .int (nI (by2 f pF))), (3, .int (nI f0)), (4, .int (nI k)), (5, .int (nI (by2 f p)))], [.int (nI f0)], M435)) rfl rfl rfl ?_
                          refine ps_st (S' := (277, [(0, .ref m0), (1, .int (nI p)), (2, .int (nI (by2 f pF))), (3, .int (nI f0)), (4, .int (nI k)), (6, .int (nI (f0 + k))), (7, .int (nI f0))], [], M435)) rfl rfl rfl ?_
                          have h19 : ¬ fflN cf (by2 f p) = 0 := by
                            have e1 := ffl_0 cf (by2 f p)
                            have e2 := sev_0 (by2 f p)
                            have e3 := hall_80 (by2 f p)
                            omega
                          exact ih.2 (k) (p) (0) (s357) (s376) M435 I1 R436 hR437 hEI1 hER447 hl51 hl52 hl53 hl58 hl55 hl25 hF_439 hY_440 hP_441 hK_442 hN9_446 c27_443 c28_444 c29_445 (by omega) (hpk) (by omega) (hs) (by omega) (by omega) (q208_s) (q226_s) (by omega) (by omega) (h19) (by omega) (by omega) (rfl)
                        · have c_166 : ¬ (¬ (nI (fldN (tX f n E (by2 f (p + 4))))) = 0) := of_decide_eq_false c_166
                          have n_166 : fldN (tX f n E (by2 f (p + 4))) = 0 := (eq_nI (p := fldN (tX f n E (by2 f (p + 4)))) (n := 0) (Nat.lt_trans (le1_fld _) (by decide)) (by decide)).mp (Decidable.not_not.mp c_166)
                          refine ps_st (S' := (170, [(0, .ref m0), (1, .int (nI p))], [.ref m0], M1)) rfl rfl rfl ?_
                          refine ps_st (S' := (172, [(0, .ref m0), (1, .int (nI p))], [.int 21, .ref m0], M1)) rfl rfl rfl ?_
                          refine ps_st (S' := (173, [(0, .ref m0), (1, .int (nI p))], [.int (nI p), .int 21, .ref m0], M1)) rfl rfl rfl ?_
                          refine ps_st (S' := (174, [(0, .ref m0), (1, .int (nI p))], [.int 4, .int (nI p), .int 21, .ref m0], M1)) rfl rfl rfl ?_
                          refine ps_st (S' := (175, [(0, .ref m0), (1, .int (nI p))], [.int ((nI p) + 4), .int 21, .ref m0], M1)) rfl rfl rfl ?_
                          rw [nI_add1 (p := p) (k := 4) (x := 4) rfl (by omega)]
                          show pl _ _ _ (_, [(0, .ref m0), (1, .int (nI p))], [.int (nI (p + 4)), .int 21, .ref m0], M1) _
                          refine pl_call (a := [.ref m0, .int 21, .int (nI (p + 4))]) (rest := []) rfl rfl rfl (rd_wrong (x1 := 21) (x2 := (nI (p + 4))) hR1) (fun v448 M449 q450 => ?_)
                          obtain ⟨I451, R452, rfl, hR453, hI454, hX455, hi456, hi457⟩ := q450
                          have hi458 := (hI454 51 (by decide)).trans hl51
                          have hi459 := (hI454 52 (by decide)).trans hl52
                          have hi460 := (hI454 53 (by decide)).trans hl53
                          have hi461 := (hI454 58 (by decide)).trans hl58
                          have hi462 := (hI454 55 (by decide)).trans hl55
                          have hi463 := (hI454 25 (by decide)).trans hl25
                          have hF_464 := hF1.mono (cIx hI454 (by decide)) (cRx hX455 (by decide))
                          have hY_465 := hY1.mono (cIx hI454 (by decide)) (cRx hX455 (by decide))
                          have hP_466 := hP1.mono (cIx hI454 (by decide)) (cRx hX455 (by decide))
                          have hK_467 := hK1.mono (cIx hI454 (by decide)) (cRx hX455 (by decide))
                          have hN9_468 := hN91.mono (cIx hI454 (by decide)) (cRx hX455 (by decide))
                          have hEI469 := hEI1.tr hI454 (by decide)
                          have hER470 := hER1.tr hX455 (by decide)
                          show pl _ _ _ (178, [(0, .ref m0), (1, .int (nI p))], [.int 0], M449) _
                          exact ps_ret rfl rfl (Or.inr ⟨(21, p + 4), I451, R452, by
                              rw [← hs, flS_st (i := k) (by omega), ← hpk, fh_21 (by have e1 := ffl_0 cf (by2 f p); have e2 := sev_0 (by2 f p); have e3 := hall_80 (by2 f p); omega) (by omega) (by omega)], rfl, hR453, hEI469, hER470, hi456, hi457⟩)
                    · have c_123 : ¬ (¬ (nI (unqN (tX f n E (by2 f (p + 2))))) = 0) := of_decide_eq_false c_123
                      have n_123 : unqN (tX f n E (by2 f (p + 2))) = 0 := (eq_nI (p := unqN (tX f n E (by2 f (p + 2)))) (n := 0) (Nat.lt_trans (le1_unq _) (by decide)) (by decide)).mp (Decidable.not_not.mp c_123)
                      refine ps_st (S' := (127, [(0, .ref m0), (1, .int (nI p))], [.ref m0], M1)) rfl rfl rfl ?_
                      refine ps_st (S' := (129, [(0, .ref m0), (1, .int (nI p))], [.int 20, .ref m0], M1)) rfl rfl rfl ?_
                      refine ps_st (S' := (130, [(0, .ref m0), (1, .int (nI p))], [.int (nI p), .int 20, .ref m0], M1)) rfl rfl rfl ?_
                      refine ps_st (S' := (131, [(0, .ref m0), (1, .int (nI p))], [.int 2, .int (nI p), .int 20, .ref m0], M1)) rfl rfl rfl ?_
                      refine ps_st (S' := (132, [(0, .ref m0), (1, .int (nI p))], [.int ((nI p) + 2), .int 20, .ref m0], M1)) rfl rfl rfl ?_
                      rw [nI_add1 (p := p) (k := 2) (x := 2) rfl (by omega)]
                      show pl _ _ _ (_, [(0, .ref m0), (1, .int (nI p))], [.int (nI (p + 2)), .int 20, .ref m0], M1) _
                      refine pl_call (a := [.ref m0, .int 20, .int (nI (p + 2))]) (rest := []) rfl rfl rfl (rd_wrong (x1 := 20) (x2 := (nI (p + 2))) hR1) (fun v471 M472 q473 => ?_)
                      obtain ⟨I474, R475, rfl, hR476, hI477, hX478, hi479, hi480⟩ := q473
                      have hi481 := (hI477 51 (by decide)).trans hl51
                      have hi482 := (hI477 52 (by decide)).trans hl52
                      have hi483 := (hI477 53 (by decide)).trans hl53
                      have hi484 := (hI477 58 (by decide)).trans hl58
                      have hi485 := (hI477 55 (by decide)).trans hl55
                      have hi486 := (hI477 25 (by decide)).trans hl25
                      have hF_487 := hF1.mono (cIx hI477 (by decide)) (cRx hX478 (by decide))
                      have hY_488 := hY1.mono (cIx hI477 (by decide)) (cRx hX478 (by decide))
                      have hP_489 := hP1.mono (cIx hI477 (by decide)) (cRx hX478 (by decide))
                      have hK_490 := hK1.mono (cIx hI477 (by decide)) (cRx hX478 (by decide))
                      have hN9_491 := hN91.mono (cIx hI477 (by decide)) (cRx hX478 (by decide))
                      have hEI492 := hEI1.tr hI477 (by decide)
                      have hER493 := hER1.tr hX478 (by decide)
                      show pl _ _ _ (135, [(0, .ref m0), (1, .int (nI p))], [.int 0], M472) _
                      exact ps_ret rfl rfl (Or.inr ⟨(20, p + 2), I474, R475, by
                          rw [← hs, flS_st (i := k) (by omega), ← hpk, fh_20 (by have e1 := ffl_0 cf (by2 f p); have e2 := sev_0 (by2 f p); have e3 := hall_80 (by2 f p); omega) (by omega)], rfl, hR476, hEI492, hER493, hi479, hi480⟩)
                · have c_81 : ¬ ((nI (aN (by2 f p) 16607)) = 25) := of_decide_eq_false c_81
                  have n_81 : ¬ (aN (by2 f p) 16607 = 25) := fun h9 => c_81 ((eq_nI (p := aN (by2 f p) 16607) (n := 25) (Nat.lt_of_le_of_lt (an_le _ _) (by decide)) (by decide)).mpr h9)
                  refine ps_st (S' := (85, [(0, .ref m0), (1, .int (nI p))], [.ref m0], M1)) rfl rfl rfl ?_
                  refine ps_st (S' := (87, [(0, .ref m0), (1, .int (nI p))], [.int 19, .ref m0], M1)) rfl rfl rfl ?_
                  refine ps_st (S' := (88, [(0, .ref m0), (1, .int (nI p))], [.int (nI p), .int 19, .ref m0], M1)) rfl rfl rfl ?_
                  refine pl_call (a := [.ref m0, .int 19, .int (nI p)]) (rest := []) rfl rfl rfl (rd_wrong (x1 := 19) (x2 := (nI p)) hR1) (fun v494 M495 q496 => ?_)
                  obtain ⟨I497, R498, rfl, hR499, hI500, hX501, hi502, hi503⟩ := q496
                  have hi504 := (hI500 51 (by decide)).trans hl51
                  have hi505 := (hI500 52 (by decide)).trans hl52
                  have hi506 := (hI500 53 (by decide)).trans hl53
                  have hi507 := (hI500 58 (by decide)).trans hl58
                  have hi508 := (hI500 55 (by decide)).trans hl55
                  have hi509 := (hI500 25 (by decide)).trans hl25
                  have hF_510 := hF1.mono (cIx hI500 (by decide)) (cRx hX501 (by decide))
                  have hY_511 := hY1.mono (cIx hI500 (by decide)) (cRx hX501 (by decide))
                  have hP_512 := hP1.mono (cIx hI500 (by decide)) (cRx hX501 (by decide))
                  have hK_513 := hK1.mono (cIx hI500 (by decide)) (cRx hX501 (by decide))
                  have hN9_514 := hN91.mono (cIx hI500 (by decide)) (cRx hX501 (by decide))
                  have hEI515 := hEI1.tr hI500 (by decide)
                  have hER516 := hER1.tr hX501 (by decide)
                  show pl _ _ _ (91, [(0, .ref m0), (1, .int (nI p))], [.int 0], M495) _
                  exact ps_ret rfl rfl (Or.inr ⟨(19, p), I497, R498, by
                      rw [← hs, flS_st (i := k) (by omega), ← hpk, fh_19 (by have e1 := ffl_0 cf (by2 f p); have e2 := sev_0 (by2 f p); have e3 := hall_80 (by2 f p); omega)], rfl, hR499, hEI515, hER516, hi502, hi503⟩)
            · have c_51 : ¬ ((nI (aN (by2 f p) 16)) = 0) := of_decide_eq_false c_51
              have n_51 : ¬ (aN (by2 f p) 16 = 0) := fun h9 => c_51 ((eq_nI (p := aN (by2 f p) 16) (n := 0) (Nat.lt_of_le_of_lt (an_le _ _) (by decide)) (by decide)).mpr h9)
              refine ps_st (S' := (56, [(5, .int (nI (by2 f p))), (0, .ref m0), (1, .int (nI p)), (2, .int (nI (by2 f pF))), (3, .int (nI f0)), (4, .int (nI k))], [.int (nI (by2 f p))], M1)) rfl rfl rfl ?_
              refine ps_st (S' := (58, [(5, .int (nI (by2 f p))), (0, .ref m0), (1, .int (nI p)), (2, .int (nI (by2 f pF))), (3, .int (nI f0)), (4, .int (nI k))], [.int 64, .int (nI (by2 f p))], M1)) rfl rfl rfl ?_
              refine ps_st (S' := (59, [(5, .int (nI (by2 f p))), (0, .ref m0), (1, .int (nI p)), (2, .int (nI (by2 f pF))), (3, .int (nI f0)), (4, .int (nI k))], [.int ((nI (by2 f p)) &&& 64)], M1)) rfl rfl rfl ?_
              rw [nI_an (p := by2 f p) (k := 64) (x := 64) rfl]
              show pl _ _ _ (_, [(5, .int (nI (by2 f p))), (0, .ref m0), (1, .int (nI p)), (2, .int (nI (by2 f pF))), (3, .int (nI f0)), (4, .int (nI k))], [.int (nI (aN (by2 f p) 64))], M1) _
              refine ps_if (S1 := (84, [(0, .ref m0), (1, .int (nI p))], [], M1)) (S2 := (62, [(0, .ref m0), (1, .int (nI p)), (2, .int (nI (by2 f pF))), (3, .int (nI f0)), (4, .int (nI k)), (5, .int (nI (by2 f p)))], [], M1)) rfl rfl rfl (fun c_59 => ?_) (fun c_59 => ?_)
              · have c_59 : ¬ (nI (aN (by2 f p) 64)) = 0 := of_decide_eq_true c_59
                have n_59 : ¬ (aN (by2 f p) 64 = 0) := fun h9 => c_59 ((eq_nI (p := aN (by2 f p) 64) (n := 0) (Nat.lt_of_le_of_lt (an_le _ _) (by decide)) (by decide)).mpr h9)
                refine ps_st (S' := (85, [(0, .ref m0), (1, .int (nI p))], [.ref m0], M1)) rfl rfl rfl ?_
                refine ps_st (S' := (87, [(0, .ref m0), (1, .int (nI p))], [.int 19, .ref m0], M1)) rfl rfl rfl ?_
                refine ps_st (S' := (88, [(0, .ref m0), (1, .int (nI p))], [.int (nI p), .int 19, .ref m0], M1)) rfl rfl rfl ?_
                refine pl_call (a := [.ref m0, .int 19, .int (nI p)]) (rest := []) rfl rfl rfl (rd_wrong (x1 := 19) (x2 := (nI p)) hR1) (fun v517 M518 q519 => ?_)
                obtain ⟨I520, R521, rfl, hR522, hI523, hX524, hi525, hi526⟩ := q519
                have hi527 := (hI523 51 (by decide)).trans hl51
                have hi528 := (hI523 52 (by decide)).trans hl52
                have hi529 := (hI523 53 (by decide)).trans hl53
                have hi530 := (hI523 58 (by decide)).trans hl58
                have hi531 := (hI523 55 (by decide)).trans hl55
                have hi532 := (hI523 25 (by decide)).trans hl25
                have hF_533 := hF1.mono (cIx hI523 (by decide)) (cRx hX524 (by decide))
                have hY_534 := hY1.mono (cIx hI523 (by decide)) (cRx hX524 (by decide))
                have hP_535 := hP1.mono (cIx hI523 (by decide)) (cRx hX524 (by decide))
                have hK_536 := hK1.mono (cIx hI523 (by decide)) (cRx hX524 (by decide))
                have hN9_537 := hN91.mono (cIx hI523 (by decide)) (cRx hX524 (by decide))
                have hEI538 := hEI1.tr hI523 (by decide)
                have hER539 := hER1.tr hX524 (by decide)
                show pl _ _ _ (91, [(0, .ref m0), (1, .int (nI p))], [.int 0], M518) _
                exact ps_ret rfl rfl (Or.inr ⟨(19, p), I520, R521, by
                    rw [← hs, flS_st (i := k) (by omega), ← hpk, fh_19 (by have e1 := ffl_0 cf (by2 f p); have e2 := sev_0 (by2 f p); have e3 := hall_80 (by2 f p); omega)], rfl, hR522, hEI538, hER539, hi525, hi526⟩)
              · have c_59 : ¬ (¬ (nI (aN (by2 f p) 64)) = 0) := of_decide_eq_false c_59
                have n_59 : aN (by2 f p) 64 = 0 := (eq_nI (p := aN (by2 f p) 64) (n := 0) (Nat.lt_of_le_of_lt (an_le _ _) (by decide)) (by decide)).mp (Decidable.not_not.mp c_59)
                refine ps_st (S' := (63, [(0, .ref m0), (1, .int (nI p)), (2, .int (nI (by2 f pF))), (3, .int (nI f0)), (4, .int (nI k)), (5, .int (nI (by2 f p)))], [.ref m0], M1)) rfl rfl rfl ?_
                refine pr_int (j := 58) (S' := (66, [(0, .ref m0), (1, .int (nI p)), (2, .int (nI (by2 f pF))), (3, .int (nI f0)), (4, .int (nI k)), (5, .int (nI (by2 f p)))], [.int (nI cf)], M1)) rfl hR1 rfl hl58 rfl ?_
                refine ps_st (S' := (69, [(0, .ref m0), (1, .int (nI p)), (2, .int (nI (by2 f pF))), (3, .int (nI f0)), (4, .int (nI k)), (5, .int (nI (by2 f p)))], [.int 512, .int (nI cf)], M1)) rfl rfl rfl ?_
                refine ps_st (S' := (70, [(0, .ref m0), (1, .int (nI p)), (2, .int (nI (by2 f pF))), (3, .int (nI f0)), (4, .int (nI k)), (5, .int (nI (by2 f p)))], [.int ((nI cf) &&& 512)], M1)) rfl rfl rfl ?_
                rw [nI_an (p := cf) (k := 512) (x := 512) rfl]
                show pl _ _ _ (_, [(0, .ref m0), (1, .int (nI p)), (2, .int (nI (by2 f pF))), (3, .int (nI f0)), (4, .int (nI k)), (5, .int (nI (by2 f p)))], [.int (nI (aN cf 512))], M1) _
                refine ps_if (S1 := (92, [(0, .ref m0), (1, .int (nI p)), (2, .int (nI (by2 f pF))), (3, .int (nI f0)), (4, .int (nI k)), (5, .int (nI (by2 f p)))], [], M1)) (S2 := (73, [(0, .ref m0), (1, .int (nI p)), (2, .int (nI (by2 f pF))), (3, .int (nI f0)), (4, .int (nI k)), (5, .int (nI (by2 f p)))], [], M1)) rfl rfl rfl (fun c_70 => ?_) (fun c_70 => ?_)
                · have c_70 : (nI (aN cf 512)) = 0 := of_decide_eq_true c_70
                  have n_70 : aN cf 512 = 0 := (eq_nI (p := aN cf 512) (n := 0) (Nat.lt_of_le_of_lt (an_le _ _) (by decide)) (by decide)).mp c_70
                  refine ps_st (S' := (93, [(0, .ref m0), (1, .int (nI p)), (2, .int (nI (by2 f pF))), (3, .int (nI f0)), (4, .int (nI k)), (5, .int (nI (by2 f p)))], [.ref m0], M1)) rfl rfl rfl ?_
                  refine ps_st (S' := (94, [(0, .ref m0), (1, .int (nI p)), (2, .int (nI (by2 f pF))), (3, .int (nI f0)), (4, .int (nI k)), (5, .int (nI (by2 f p)))], [.ref m0, .ref m0], M1)) rfl rfl rfl ?_
                  refine ps_st (S' := (95, [(0, .ref m0), (1, .int (nI p)), (2, .int (nI (by2 f pF))), (3, .int (nI f0)), (4, .int (nI k)), (5, .int (nI (by2 f p)))], [.int (nI p), .ref m0, .ref m0], M1)) rfl rfl rfl ?_
                  refine ps_st (S' := (96, [(0, .ref m0), (1, .int (nI p)), (2, .int (nI (by2 f pF))), (3, .int (nI f0)), (4, .int (nI k)), (5, .int (nI (by2 f p)))], [.int 2, .int (nI p), .ref m0, .ref m0], M1)) rfl rfl rfl ?_
                  refine ps_st (S' := (97, [(0, .ref m0), (1, .int (nI p)), (2, .int (nI (by2 f pF))), (3, .int (nI f0)), (4, .int (nI k)), (5, .int (nI (by2 f p)))], [.int ((nI p) + 2), .ref m0, .ref m0], M1)) rfl rfl rfl ?_
                  rw [nI_add1 (p := p) (k := 2) (x := 2) rfl (by omega)]
                  show pl _ _ _ (_, [(0, .ref m0), (1, .int (nI p)), (2, .int (nI (by2 f pF))), (3, .int (nI f0)), (4, .int (nI k)), (5, .int (nI (by2 f p)))], [.int (nI (p + 2)), .ref m0, .ref m0], M1) _
                  refine pl_call (a := [.ref m0, .int (nI (p + 2))]) (rest := [.ref m0]) rfl rfl rfl (rd_u2 (n := n) (f := f) (p := (p + 2)) hR1 hF1 (by omega)) (fun v540 M541 q542 => ?_)
                  obtain ⟨rfl, rfl⟩ := q542
                  show pl _ _ _ (100, [(0, .ref m0), (1, .int (nI p)), (2, .int (nI (by2 f pF))), (3, .int (nI f0)), (4, .int (nI k)), (5, .int (nI (by2 f p)))], [.int (nI (by2 f (p + 2))), .ref m0], M1) _
                  have hu_97 := by2_lt f (p + 2)
                  refine pl_call (a := [.ref m0, .int (nI (by2 f (p + 2)))]) (rest := []) rfl rfl rfl (rd_tag (n := n) (f := f) (tx := tx) (cN := cN) (A := A) (N := N) (mj := mj) (E := E) (k := (by2 f (p + 2))) hR1 hl51 hl52 hl53 hF1 hY1 hP1 (hEP) (hN) (hmj) (by2_lt _ _)) (fun v543 M544 q545 => ?_)
                  obtain ⟨rfl, rfl⟩ := q545
                  show pl _ _ _ (103, [(0, .ref m0), (1, .int (nI p)), (2, .int (nI (by2 f pF))), (3, .int (nI f0)), (4, .int (nI k)), (5, .int (nI (by2 f p)))], [.int (nI (tg f E (by2 f (p + 2))))], M1) _
                  have htg_100 := tg_lt f E (by2 f (p + 2))
                  refine ps_st (S' := (104, [(0, .ref m0), (1, .int (nI p)), (2, .int (nI (by2 f pF))), (3, .int (nI f0)), (4, .int (nI k)), (5, .int (nI (by2 f p)))], [.int 1, .int (nI (tg f E (by2 f (p + 2))))], M1)) rfl rfl rfl ?_
                  refine ps_if2 (S1 := (126, [(0, .ref m0), (1, .int (nI p))], [], M1)) (S2 := (107, [(0, .ref m0), (1, .int (nI p)), (2, .int (nI (by2 f pF))), (3, .int (nI f0)), (4, .int (nI k)), (5, .int (nI (by2 f p)))], [], M1)) rfl rfl rfl (fun c_104 => ?_) (fun c_104 => ?_)
                  · have c_104 : ¬ (nI (tg f E (by2 f (p + 2)))) = 1 := of_decide_eq_true c_104
                    have n_104 : ¬ (tg f E (by2 f (p + 2)) = 1) := fun h9 => c_104 ((eq_nI (p := tg f E (by2 f (p + 2))) (n := 1) (Nat.lt_trans (tg_lt _ _ _) (by decide)) (by decide)).mpr h9)
                    refine ps_st (S' := (127, [(0, .ref m0), (1, .int (nI p))], [.ref m0], M1)) rfl rfl rfl ?_
                    refine ps_st (S' := (129, [(0, .ref m0), (1, .int (nI p))], [.int 20, .ref m0], M1)) rfl rfl rfl ?_
                    refine ps_st (S' := (130, [(0, .ref m0), (1, .int (nI p))], [.int (nI p), .int 20, .ref m0], M1)) rfl rfl rfl ?_
                    refine ps_st (S' := (131, [(0, .ref m0), (1, .int (nI p))], [.int 2, .int (nI p), .int 20, .ref m0], M1)) rfl rfl rfl ?_
                    refine ps_st (S' := (132, [(0, .ref m0), (1, .int (nI p))], [.int ((nI p) + 2), .int 20, .ref m0], M1)) rfl rfl rfl ?_
                    rw [nI_add1 (p := p) (k := 2) (x := 2) rfl (by omega)]
                    show pl _ _ _ (_, [(0, .ref m0), (1, .int (nI p))], [.int (nI (p + 2)), .int 20, .ref m0], M1) _
                    refine pl_call (a := [.ref m0, .int 20, .int (nI (p + 2))]) (rest := []) rfl rfl rfl (rd_wrong (x1 := 20) (x2 := (nI (p + 2))) hR1) (fun v546 M547 q548 => ?_)
                    obtain ⟨I549, R550, rfl, hR551, hI552, hX553, hi554, hi555⟩ := q548
                    have hi556 := (hI552 51 (by decide)).trans hl51
                    have hi557 := (hI552 52 (by decide)).trans hl52
                    have hi558 := (hI552 53 (by decide)).trans hl53
                    have hi559 := (hI552 58 (by decide)).trans hl58
                    have hi560 := (hI552 55 (by decide)).trans hl55
                    have hi561 := (hI552 25 (by decide)).trans hl25
                    have hF_562 := hF1.mono (cIx hI552 (by decide)) (cRx hX553 (by decide))
                    have hY_563 := hY1.mono (cIx hI552 (by decide)) (cRx hX553 (by decide))
                    have hP_564 := hP1.mono (cIx hI552 (by decide)) (cRx hX553 (by decide))
                    have hK_565 := hK1.mono (cIx hI552 (by decide)) (cRx hX553 (by decide))
                    have hN9_566 := hN91.mono (cIx hI552 (by decide)) (cRx hX553 (by decide))
                    have hEI567 := hEI1.tr hI552 (by decide)
                    have hER568 := hER1.tr hX553 (by decide)
                    show pl _ _ _ (135, [(0, .ref m0), (1, .int (nI p))], [.int 0], M547) _
                    exact ps_ret rfl rfl (Or.inr ⟨(20, p + 2), I549, R550, by
                        rw [← hs, flS_st (i := k) (by omega), ← hpk, fh_20 (by have e1 := ffl_0 cf (by2 f p); have e2 := sev_0 (by2 f p); have e3 := hall_80 (by2 f p); omega) (by rw [tx_no (by omega)]; decide)], rfl, hR551, hEI567, hER568, hi554, hi555⟩)
                  · have c_104 : ¬ (¬ (nI (tg f E (by2 f (p + 2)))) = 1) := of_decide_eq_false c_104
                    have n_104 : tg f E (by2 f (p + 2)) = 1 := (eq_nI (p := tg f E (by2 f (p + 2))) (n := 1) (Nat.lt_trans (tg_lt _ _ _) (by decide)) (by decide)).mp (Decidable.not_not.mp c_104)
                    refine ps_st (S' := (108, [(0, .ref m0), (1, .int (nI p)), (2, .int (nI (by2 f pF))), (3, .int (nI f0)), (4, .int (nI k)), (5, .int (nI (by2 f p)))], [.ref m0], M1)) rfl rfl rfl ?_
                    refine ps_st (S' := (109, [(0, .ref m0), (1, .int (nI p)), (2, .int (nI (by2 f pF))), (3, .int (nI f0)), (4, .int (nI k)), (5, .int (nI (by2 f p)))], [.ref m0, .ref m0], M1)) rfl rfl rfl ?_
                    refine ps_st (S' := (110, [(0, .ref m0), (1, .int (nI p)), (2, .int (nI (by2 f pF))), (3, .int (nI f0)), (4, .int (nI k)), (5, .int (nI (by2 f p)))], [.ref m0, .ref m0, .ref m0], M1)) rfl rfl rfl ?_
                    refine ps_st (S' := (111, [(0, .ref m0), (1, .int (nI p)), (2, .int (nI (by2 f pF))), (3, .int (nI f0)), (4, .int (nI k)), (5, .int (nI (by2 f p)))], [.int (nI p), .ref m0, .ref m0, .ref m0], M1)) rfl rfl rfl ?_
                    refine ps_st (S' := (112, [(0, .ref m0), (1, .int (nI p)), (2, .int (nI (by2 f pF))), (3, .int (nI f0)), (4, .int (nI k)), (5, .int (nI (by2 f p)))], [.int 2, .int (nI p), .ref m0, .ref m0, .ref m0], M1)) rfl rfl rfl ?_
                    refine ps_st (S' := (113, [(0, .ref m0), (1, .int (nI p)), (2, .int (nI (by2 f pF))), (3, .int (nI f0)), (4, .int (nI k)), (5, .int (nI (by2 f p)))], [.int ((nI p) + 2), .ref m0, .ref m0, .ref m0], M1)) rfl rfl rfl ?_
                    rw [nI_add1 (p := p) (k := 2) (x := 2) rfl (by omega)]
                    show pl _ _ _ (_, [(0, .ref m0), (1, .int (nI p)), (2, .int (nI (by2 f pF))), (3, .int (nI f0)), (4, .int (nI k)), (5, .int (nI (by2 f p)))], [.int (nI (p + 2)), .ref m0, .ref m0, .ref m0], M1) _
                    refine pl_call (a := [.ref m0, .int (nI (p + 2))]) (rest := [.ref m0, .ref m0]) rfl rfl rfl (rd_u2 (n := n) (f := f) (p := (p + 2)) hR1 hF1 (by omega)) (fun v569 M570 q571 => ?_)
                    obtain ⟨rfl, rfl⟩ := q571
                    show pl _ _ _ (116, [(0, .ref m0), (1, .int (nI p)), (2, .int (nI (by2 f pF))), (3, .int (nI f0)), (4, .int (nI k)), (5, .int (nI (by2 f p)))], [.int (nI (by2 f (p + 2))), .ref m0, .ref m0], M1) _
                    have hu_113 := by2_lt f (p + 2)
                    refine pl_call (a := [.ref m0, .int (nI (by2 f (p + 2)))]) (rest := [.ref m0]) rfl rfl rfl (rd_symOf (n := n) (f := f) (tx := tx) (cN := cN) (A := A) (N := N) (mj := mj) (E := E) (k := (by2 f (p + 2))) hR1 hl51 hl52 hl53 hF1 hY1 hP1 (hEP) (hN) (hmj) (by omega)) (fun v572 M573 q574 => ?_)
                    obtain ⟨s575, q116_s, rfl, rfl⟩ := q574
                    show pl _ _ _ (119, [(0, .ref m0), (1, .int (nI p)), (2, .int (nI (by2 f pF))), (3, .int (nI f0)), (4, .int (nI k)), (5, .int (nI (by2 f p)))], [.int (nI s575), .ref m0], M1) _
                    have hsl_116 := q116_s.1
                    have htl_116 := hY1.1.2.2.1
                    refine ps_st (S' := (120, [(0, .ref m0), (1, .int (nI p)), (2, .int (nI (by2 f pF))), (3, .int (nI f0)), (4, .int (nI k)), (5, .int (nI (by2 f p)))], [.int 1, .int (nI s575), .ref m0], M1)) rfl rfl rfl ?_
                    refine pl_call (a := [.ref m0, .int (nI s575), .int 1]) (rest := []) rfl rfl rfl (rd_unq1 (tx := tx) (cN := cN) (A := A) (s := s575) (l := (tX f n E (by2 f (p + 2)))) hR1 hY1 (q116_s)) (fun v576 M577 q578 => ?_)
                    obtain ⟨rfl, rfl⟩ := q578
                    show pl _ _ _ (123, [(0, .ref m0), (1, .int (nI p)), (2, .int (nI (by2 f pF))), (3, .int (nI f0)), (4, .int (nI k)), (5, .int (nI (by2 f p)))], [.int (nI (unqN (tX f n E (by2 f (p + 2)))))], M1) _
                    refine ps_if (S1 := (136, [(0, .ref m0), (1, .int (nI p)), (2, .int (nI (by2 f pF))), (3, .int (nI f0)), (4, .int (nI k)), (5, .int (nI (by2 f p)))], [], M1)) (S2 := (126, [(0, .ref m0), (1, .int (nI p))], [], M1)) rfl rfl rfl (fun c_123 => ?_) (fun c_123 => ?_)
                    · have c_123 : ¬ (nI (unqN (tX f n E (by2 f (p + 2))))) = 0 := of_decide_eq_true c_123
                      have n_123 : ¬ (unqN (tX f n E (by2 f (p + 2))) = 0) := fun h9 => c_123 ((eq_nI (p := unqN (tX f n E (by2 f (p + 2)))) (n := 0) (Nat.lt_trans (le1_unq _) (by decide)) (by decide)).mpr h9)
                      refine ps_st (S' := (137, [(0, .ref m0), (1, .int (nI p)), (2, .int (nI (by2 f pF))), (3, .int (nI f0)), (4, .int (nI k)), (5, .int (nI (by2 f p)))], [.ref m0], M1)) rfl rfl rfl ?_
                      refine ps_st (S' := (138, [(0, .ref m0), (1, .int (nI p)), (2, .int (nI (by2 f pF))), (3, .int (nI f0)), (4, .int (nI k)), (5, .int (nI (by2 f p)))], [.ref m0, .ref m0], M1)) rfl rfl rfl ?_
                      refine ps_st (S' := (139, [(0, .ref m0), (1, .int (nI p)), (2, .int (nI (by2 f pF))), (3, .int (nI f0)), (4, .int (nI k)), (5, .int (nI (by2 f p)))], [.int (nI p), .ref m0, .ref m0], M1)) rfl rfl rfl ?_
                      refine ps_st (S' := (140, [(0, .ref m0), (1, .int (nI p)), (2, .int (nI (by2 f pF))), (3, .int (nI f0)), (4, .int (nI k)), (5, .int (nI (by2 f p)))], [.int 4, .int (nI p), .ref m0, .ref m0], M1)) rfl rfl rfl ?_
                      refine ps_st (S' := (141, [(0, .ref m0), (1, .int (nI p)), (2, .int (nI (by2 f pF))), (3, .int (nI f0)), (4, .int (nI k)), (5, .int (nI (by2 f p)))], [.int ((nI p) + 4), .ref m0, .ref m0], M1)) rfl rfl rfl ?_
                      rw [nI_add1 (p := p) (k := 4) (x := 4) rfl (by omega)]
                      show pl _ _ _ (_, [(0, .ref m0), (1, .int (nI p)), (2, .int (nI (by2 f pF))), (3, .int (nI f0)), (4, .int (nI k)), (5, .int (nI (by2 f p)))], [.int (nI (p + 4)), .ref m0, .ref m0], M1) _
                      refine pl_call (a := [.ref m0, .int (nI (p + 4))]) (rest := [.ref m0]) rfl rfl rfl (rd_u2 (n := n) (f := f) (p := (p + 4)) hR1 hF1 (by omega)) (fun v579 M580 q581 => ?_)
                      obtain ⟨rfl, rfl⟩ := q581
                      show pl _ _ _ (144, [(0, .ref m0), (1, .int (nI p)), (2, .int (nI (by2 f pF))), (3, .int (nI f0)), (4, .int (nI k)), (5, .int (nI (by2 f p)))], [.int (nI (by2 f (p + 4))), .ref m0], M1) _
                      have hu_141 := by2_lt f (p + 4)
                      refine pl_call (a := [.ref m0, .int (nI (by2 f (p + 4)))]) (rest := []) rfl rfl rfl (rd_tag (n := n) (f := f) (tx := tx) (cN := cN) (A := A) (N := N) (mj := mj) (E := E) (k := (by2 f (p + 4))) hR1 hl51 hl52 hl53 hF1 hY1 hP1 (hEP) (hN) (hmj) (by2_lt _ _)) (fun v582 M583 q584 => ?_)
                      obtain ⟨rfl, rfl⟩ := q584
                      show pl _ _ _ (147, [(0, .ref m0), (1, .int (nI p)), (2, .int (nI (by2 f pF))), (3, .int (nI f0)), (4, .int (nI k)), (5, .int (nI (by2 f p)))], [.int (nI (tg f E (by2 f (p + 4))))], M1) _
                      have htg_144 := tg_lt f E (by2 f (p + 4))
                      refine ps_st (S' := (148, [(0, .ref m0), (1, .int (nI p)), (2, .int (nI (by2 f pF))), (3, .int (nI f0)), (4, .int (nI k)), (5, .int (nI (by2 f p)))], [.int 1, .int (nI (tg f E (by2 f (p + 4))))], M1)) rfl rfl rfl ?_
                      refine ps_if2 (S1 := (169, [(0, .ref m0), (1, .int (nI p))], [], M1)) (S2 := (151, [(0, .ref m0), (1, .int (nI p)), (2, .int (nI (by2 f pF))), (3, .int (nI f0)), (4, .int (nI k)), (5, .int (nI (by2 f p)))], [], M1)) rfl rfl rfl (fun c_148 => ?_) (fun c_148 => ?_)
                      · have c_148 : ¬ (nI (tg f E (by2 f (p + 4)))) = 1 := of_decide_eq_true c_148
                        have n_148 : ¬ (tg f E (by2 f (p + 4)) = 1) := fun h9 => c_148 ((eq_nI (p := tg f E (by2 f (p + 4))) (n := 1) (Nat.lt_trans (tg_lt _ _ _) (by decide)) (by decide)).mpr h9)
                        refine ps_st (S' := (170, [(0, .ref m0), (1, .int (nI p))], [.ref m0], M1)) rfl rfl rfl ?_
                        refine ps_st (S' := (172, [(0, .ref m0), (1, .int (nI p))], [.int 21, .ref m0], M1)) rfl rfl rfl ?_
                        refine ps_st (S' := (173, [(0, .ref m0), (1, .int (nI p))], [.int (nI p), .int 21, .ref m0], M1)) rfl rfl rfl ?_
                        refine ps_st (S' := (174, [(0, .ref m0), (1, .int (nI p))], [.int 4, .int (nI p), .int 21, .ref m0], M1)) rfl rfl rfl ?_
                        refine ps_st (S' := (175, [(0, .ref m0), (1, .int (nI p))], [.int ((nI p) + 4), .int 21, .ref m0], M1)) rfl rfl rfl ?_
                        rw [nI_add1 (p := p) (k := 4) (x := 4) rfl (by omega)]
                        show pl _ _ _ (_, [(0, .ref m0), (1, .int (nI p))], [.int (nI (p + 4)), .int 21, .ref m0], M1) _
                        refine pl_call (a := [.ref m0, .int 21, .int (nI (p + 4))]) (rest := []) rfl rfl rfl (rd_wrong (x1 := 21) (x2 := (nI (p + 4))) hR1) (fun v585 M586 q587 => ?_)
                        obtain ⟨I588, R589, rfl, hR590, hI591, hX592, hi593, hi594⟩ := q587
                        have hi595 := (hI591 51 (by decide)).trans hl51
                        have hi596 := (hI591 52 (by decide)).trans hl52
                        have hi597 := (hI591 53 (by decide)).trans hl53
                        have hi598 := (hI591 58 (by decide)).trans hl58
                        have hi599 := (hI591 55 (by decide)).trans hl55
                        have hi600 := (hI591 25 (by decide)).trans hl25
                        have hF_601 := hF1.mono (cIx hI591 (by decide)) (cRx hX592 (by decide))
                        have hY_602 := hY1.mono (cIx hI591 (by decide)) (cRx hX592 (by decide))
                        have hP_603 := hP1.mono (cIx hI591 (by decide)) (cRx hX592 (by decide))
                        have hK_604 := hK1.mono (cIx hI591 (by decide)) (cRx hX592 (by decide))
                        have hN9_605 := hN91.mono (cIx hI591 (by decide)) (cRx hX592 (by decide))
                        have hEI606 := hEI1.tr hI591 (by decide)
                        have hER607 := hER1.tr hX592 (by decide)
                        show pl _ _ _ (178, [(0, .ref m0), (1, .int (nI p))], [.int 0], M586) _
                        exact ps_ret rfl rfl (Or.inr ⟨(21, p + 4), I588, R589, by
                            rw [← hs, flS_st (i := k) (by omega), ← hpk, fh_21 (by have e1 := ffl_0 cf (by2 f p); have e2 := sev_0 (by2 f p); have e3 := hall_80 (by2 f p); omega) (by omega) (by rw [tx_no (by omega)]; decide)], rfl, hR590, hEI606, hER607, hi593, hi594⟩)
                      · have c_148 : ¬ (¬ (nI (tg f E (by2 f (p + 4)))) = 1) := of_decide_eq_false c_148
                        have n_148 : tg f E (by2 f (p + 4)) = 1 := (eq_nI (p := tg f E (by2 f (p + 4))) (n := 1) (Nat.lt_trans (tg_lt _ _ _) (by decide)) (by decide)).mp (Decidable.not_not.mp c_148)
                        refine ps_st (S' := (152, [(0, .ref m0), (1, .int (nI p)), (2, .int (nI (by2 f pF))), (3, .int (nI f0)), (4, .int (nI k)), (5, .int (nI (by2 f p)))], [.ref m0], M1)) rfl rfl rfl ?_
                        refine ps_st (S' := (153, [(0, .ref m0), (1, .int (nI p)), (2, .int (nI (by2 f pF))), (3, .int (nI f0)), (4, .int (nI k)), (5, .int (nI (by2 f p)))], [.ref m0, .ref m0], M1)) rfl rfl rfl ?_
                        refine ps_st (S' := (154, [(0, .ref m0), (1, .int (nI p)), (2, .int (nI (by2 f pF))), (3, .int (nI f0)), (4, .int (nI k)), (5, .int (nI (by2 f p)))], [.ref m0, .ref m0, .ref m0], M1)) rfl rfl rfl ?_
                        refine ps_st (S' := (155, [(0, .ref m0), (1, .int (nI p)), (2, .int (nI (by2 f pF))), (3, .int (nI f0)), (4, .int (nI k)), (5, .int (nI (by2 f p)))], [.int (nI p), .ref m0, .ref m0, .ref m0], M1)) rfl rfl rfl ?_
                        refine ps_st (S' := (156, [(0, .ref m0), (1, .int (nI p)), (2, .int (nI (by2 f pF))), (3, .int (nI f0)), (4, .int (nI k)), (5, .int (nI (by2 f p)))], [.int 4, .int (nI p), .ref m0, .ref m0, .ref m0], M1)) rfl rfl rfl ?_
                        refine ps_st (S' := (157, [(0, .ref m0), (1, .int (nI p)), (2, .int (nI (by2 f pF))), (3, .int (nI f0)), (4, .int (nI k)), (5, .int (nI (by2 f p)))], [.int ((nI p) + 4), .ref m0, .ref m0, .ref m0], M1)) rfl rfl rfl ?_
                        rw [nI_add1 (p := p) (k := 4) (x := 4) rfl (by omega)]
                        show pl _ _ _ (_, [(0, .ref m0), (1, .int (nI p)), (2, .int (nI (by2 f pF))), (3, .int (nI f0)), (4, .int (nI k)), (5, .int (nI (by2 f p)))], [.int (nI (p + 4)), .ref m0, .ref m0, .ref m0], M1) _
                        refine pl_call (a := [.ref m0, .int (nI (p + 4))]) (rest := [.ref m0, .ref m0]) rfl rfl rfl (rd_u2 (n := n) (f := f) (p := (p + 4)) hR1 hF1 (by omega)) (fun v608 M609 q610 => ?_)
                        obtain ⟨rfl, rfl⟩ := q610
                        show pl _ _ _ (160, [(0, .ref m0), (1, .int (nI p)), (2, .int (nI (by2 f pF))), (3, .int (nI f0)), (4, .int (nI k)), (5, .int (nI (by2 f p)))], [.int (nI (by2 f (p + 4))), .ref m0, .ref m0], M1) _
                        have hu_157 := by2_lt f (p + 4)
                        refine pl_call (a := [.ref m0, .int (nI (by2 f (p + 4)))]) (rest := [.ref m0]) rfl rfl rfl (rd_symOf (n := n) (f := f) (tx := tx) (cN := cN) (A := A) (N := N) (mj := mj) (E := E) (k := (by2 f (p + 4))) hR1 hl51 hl52 hl53 hF1 hY1 hP1 (hEP) (hN) (hmj) (by omega)) (fun v611 M612 q613 => ?_)
                        obtain ⟨s614, q160_s, rfl, rfl⟩ := q613
                        show pl _ _ _ (163, [(0, .ref m0), (1, .int (nI p)), (2, .int (nI (by2 f pF))), (3, .int (nI f0)), (4, .int (nI k)), (5, .int (nI (by2 f p)))], [.int (nI s614), .ref m0], M1) _
                        have hsl_160 := q160_s.1
                        have htl_160 := hY1.1.2.2.1
                        refine pl_call (a := [.ref m0, .int (nI s614)]) (rest := []) rfl rfl rfl (rd_isField (tx := tx) (cN := cN) (A := A) (s := s614) (l := (tX f n E (by2 f (p + 4)))) hR1 hY1 (q160_s)) (fun v615 M616 q617 => ?_)
                        obtain ⟨rfl, rfl⟩ := q617
                        show pl _ _ _ (166, [(0, .ref m0), (1, .int (nI p)), (2, .int (nI (by2 f pF))), (3, .int (nI f0)), (4, .int (nI k)), (5, .int (nI (by2 f p)))], [.int (nI (fldN (tX f n E (by2 f (p + 4)))))], M1) _
                        refine ps_if (S1 := (179, [(0, .ref m0), (1, .int (nI p)), (2, .int (nI (by2 f pF))), (3, .int (nI f0)), (4, .int (nI k)), (5, .int (nI (by2 f p)))], [], M1)) (S2 := (169, [(0, .ref m0), (1, .int (nI p))], [], M1)) rfl rfl rfl (fun c_166 => ?_) (fun c_166 => ?_)
                        · have c_166 : ¬ (nI (fldN (tX f n E (by2 f (p + 4))))) = 0 := of_decide_eq_true c_166
                          have n_166 : ¬ (fldN (tX f n E (by2 f (p + 4))) = 0) := fun h9 => c_166 ((eq_nI (p := fldN (tX f n E (by2 f (p + 4)))) (n := 0) (Nat.lt_trans (le1_fld _) (by decide)) (by decide)).mpr h9)
                          refine ps_st (S' := (180, [(0, .ref m0), (1, .int (nI p)), (2, .int (nI (by2 f pF))), (3, .int (nI f0)), (4, .int (nI k)), (5, .int (nI (by2 f p)))], [.ref m0], M1)) rfl rfl rfl ?_
                          refine pr_int (j := 25) (S' := (183, [(0, .ref m0), (1, .int (nI p)), (2, .int (nI (by2 f pF))), (3, .int (nI f0)), (4, .int (nI k)), (5, .int (nI (by2 f p)))], [.int (nI (f0 + k))], M1)) rfl hR1 rfl hl25 rfl ?_
                          refine ps_st (S' := (185, [(6, .int (nI (f0 + k))), (0, .ref m0), (1, .int (nI p)), (2, .int (nI (by2 f pF))), (3, .int (nI f0)), (4, .int (nI k)), (5, .int (nI (by2 f p)))], [], M1)) rfl rfl rfl ?_
                          refine ps_st (S' := (186, [(6, .int (nI (f0 + k))), (0, .ref m0), (1, .int (nI p)), (2, .int (nI (by2 f pF))), (3, .int (nI f0)), (4, .int (nI k)), (5, .int (nI (by2 f p)))], [.ref m0], M1)) rfl rfl rfl ?_
                          refine pr_ref (j := 27) (S' := (189, [(6, .int (nI (f0 + k))), (0, .ref m0), (1, .int (nI p)), (2, .int (nI (by2 f pF))), (3, .int (nI f0)), (4, .int (nI k)), (5, .int (nI (by2 f p)))], [.ref (q 27)], M1)) rfl hR1 rfl rfl ?_
                          refine ps_st (S' := (191, [(6, .int (nI (f0 + k))), (0, .ref m0), (1, .int (nI p)), (2, .int (nI (by2 f pF))), (3, .int (nI f0)), (4, .int (nI k)), (5, .int (nI (by2 f p)))], [.int (nI (f0 + k)), .ref (q 27)], M1)) rfl rfl rfl ?_
                          refine ps_st (S' := (193, [(6, .int (nI (f0 + k))), (0, .ref m0), (1, .int (nI p)), (2, .int (nI (by2 f pF))), (3, .int (nI f0)), (4, .int (nI k)), (5, .int (nI (by2 f p)))], [.int (nI (by2 f p)), .int (nI (f0 + k)), .ref (q 27)], M1)) rfl rfl rfl ?_
                          refine pr_st (a := 27) (j := f0 + k) rfl hR1 rfl (by omega) (fun M618 R619 i1_193 hR620 hS621 => ?_)
                          have hF_622 := hF1.mono (fun _ _ => rfl) (rRx hS621 (by decide))
                          have hY_623 := hY1.mono (fun _ _ => rfl) (rRx hS621 (by decide))
                          have hP_624 := hP1.mono (fun _ _ => rfl) (rRx hS621 (by decide))
                          have hK_625 := hK1.mono (fun _ _ => rfl) (rRx hS621 (by decide))
                          have hN9_626 := hN91.mono (fun _ _ => rfl) (rRx hS621 (by decide))
                          have hER627 := hER1.st hS621 (by decide)
                          show pl _ _ _ (194, [(6, .int (nI (f0 + k))), (0, .ref m0), (1, .int (nI p)), (2, .int (nI (by2 f pF))), (3, .int (nI f0)), (4, .int (nI k)), (5, .int (nI (by2 f p)))], [], M618) _
                          have c27_628 : CE 27 (f0 + k) (nI (by2 f p)) I1 R619 := CE.st hS621
                          refine ps_st (S' := (195, [(6, .int (nI (f0 + k))), (0, .ref m0), (1, .int (nI p)), (2, .int (nI (by2 f pF))), (3, .int (nI f0)), (4, .int (nI k)), (5, .int (nI (by2 f p)))], [.ref m0], M618)) rfl rfl rfl ?_
                          refine pr_ref (j := 28) (S' := (198, [(6, .int (nI (f0 + k))), (0, .ref m0), (1, .int (nI p)), (2, .int (nI (by2 f pF))), (3, .int (nI f0)), (4, .int (nI k)), (5, .int (nI (by2 f p)))], [.ref (q 28)], M618)) rfl hR620 rfl rfl ?_
                          refine ps_st (S' := (200, [(6, .int (nI (f0 + k))), (0, .ref m0), (1, .int (nI p)), (2, .int (nI (by2 f pF))), (3, .int (nI f0)), (4, .int (nI k)), (5, .int (nI (by2 f p)))], [.int (nI (f0 + k)), .ref (q 28)], M618)) rfl rfl rfl ?_
                          refine ps_st (S' := (201, [(6, .int (nI (f0 + k))), (0, .ref m0), (1, .int (nI p)), (2, .int (nI (by2 f pF))), (3, .int (nI f0)), (4, .int (nI k)), (5, .int (nI (by2 f p)))], [.ref m0, .int (nI (f0 + k)), .ref (q 28)], M618)) rfl rfl rfl ?_
                          refine ps_st (S' := (202, [(6, .int (nI (f0 + k))), (0, .ref m0), (1, .int (nI p)), (2, .int (nI (by2 f pF))), (3, .int (nI f0)), (4, .int (nI k)), (5, .int (nI (by2 f p)))], [.ref m0, .ref m0, .int (nI (f0 + k)), .ref (q 28)], M618)) rfl rfl rfl ?_
                          refine ps_st (S' := (203, [(6, .int (nI (f0 + k))), (0, .ref m0), (1, .int (nI p)), (2, .int (nI (by2 f pF))), (3, .int (nI f0)), (4, .int (nI k)), (5, .int (nI (by2 f p)))], [.int (nI p), .ref m0, .ref m0, .int (nI (f0 + k)), .ref (q 28)], M618)) rfl rfl rfl ?_
                          refine ps_st (S' := (204, [(6, .int (nI (f0 + k))), (0, .ref m0), (1, .int (nI p)), (2, .int (nI (by2 f pF))), (3, .int (nI f0)), (4, .int (nI k)), (5, .int (nI (by2 f p)))], [.int 2, .int (nI p), .ref m0, .ref m0, .int (nI (f0 + k)), .ref (q 28)], M618)) rfl rfl rfl ?_
                          refine ps_st (S' := (205, [(6, .int (nI (f0 + k))), (0, .ref m0), (1, .int (nI p)), (2, .int (nI (by2 f pF))), (3, .int (nI f0)), (4, .int (nI k)), (5, .int (nI (by2 f p)))], [.int ((nI p) + 2), .ref m0, .ref m0, .int (nI (f0 + k)), .ref (q 28)], M618)) rfl rfl rfl ?_
                          rw [nI_add1 (p := p) (k := 2) (x := 2) rfl (by omega)]
                          show pl _ _ _ (_, [(6, .int (nI (f0 + k))), (0, .ref m0), (1, .int (nI p)), (2, .int (nI (by2 f pF))), (3, .int (nI f0)), (4, .int (nI k)), (5, .int (nI (by2 f p)))], [.int (nI (p + 2)), .ref m0, .ref m0, .int (nI (f0 + k)), .ref (q 28)], M618) _
                          refine pl_call (a := [.ref m0, .int (nI (p + 2))]) (rest := [.ref m0, .int (nI (f0 + k)), .ref (q 28)]) rfl rfl rfl (rd_u2 (n := n) (f := f) (p := (p + 2)) hR620 hF_622 (by omega)) (fun v629 M630 q631 => ?_)
                          obtain ⟨rfl, rfl⟩ := q631
                          show pl _ _ _ (208, [(6, .int (nI (f0 + k))), (0, .ref m0), (1, .int (nI p)), (2, .int (nI (by2 f pF))), (3, .int (nI f0)), (4, .int (nI k)), (5, .int (nI (by2 f p)))], [.int (nI (by2 f (p + 2))), .ref m0, .int (nI (f0 + k)), .ref (q 28)], M618) _
                          have hu_205 := by2_lt f (p + 2)
                          refine pl_call (a := [.ref m0, .int (nI (by2 f (p + 2)))]) (rest := [.int (nI (f0 + k)), .ref (q 28)]) rfl rfl rfl (rd_symOf (n := n) (f := f) (tx := tx) (cN := cN) (A := A) (N := N) (mj := mj) (E := E) (k := (by2 f (p + 2))) hR620 hl51 hl52 hl53 hF_622 hY_623 hP_624 (hEP) (hN) (hmj) (by omega)) (fun v632 M633 q634 => ?_)
                          obtain ⟨s635, q208_s, rfl, rfl⟩ := q634
                          show pl _ _ _ (211, [(6, .int (nI (f0 + k))), (0, .ref m0), (1, .int (nI p)), (2, .int (nI (by2 f pF))), (3, .int (nI f0)), (4, .int (nI k)), (5, .int (nI (by2 f p)))], [.int (nI s635), .int (nI (f0 + k)), .ref (q 28)], M618) _
                          have hsl_208 := q208_s.1
                          have htl_208 := hY_623.1.2.2.1
                          refine pr_st (a := 28) (j := f0 + k) rfl hR620 rfl (by omega) (fun M636 R637 i1_211 hR638 hS639 => ?_)
                          have hF_640 := hF_622.mono (fun _ _ => rfl) (rRx hS639 (by decide))
                          have hY_641 := hY_623.mono (fun _ _ => rfl) (rRx hS639 (by decide))
                          have hP_642 := hP_624.mono (fun _ _ => rfl) (rRx hS639 (by decide))
                          have hK_643 := hK_625.mono (fun _ _ => rfl) (rRx hS639 (by decide))
                          have c27_644 := c27_628.mono (fun _ _ => rfl) (rRx hS639 (by decide))
                          have hER645 := hER627.st hS639 (by decide)
                          show pl _ _ _ (212, [(6, .int (nI (f0 + k))), (0, .ref m0), (1, .int (nI p)), (2, .int (nI (by2 f pF))), (3, .int (nI f0)), (4, .int (nI k)), (5, .int (nI (by2 f p)))], [], M636) _
                          have c28_646 : CE 28 (f0 + k) (nI s635) I1 R637 := CE.st hS639
                          have hN9_647 := FN.st (I' := I1) hN9_626 hS639 rfl
                          refine ps_st (S' := (213, [(6, .int (nI (f0 + k))), (0, .ref m0), (1, .int (nI p)), (2, .int (nI (by2 f pF))), (3, .int (nI f0)), (4, .int (nI k)), (5, .int (nI (by2 f p)))], [.ref m0], M636)) rfl rfl rfl ?_
                          refine pr_ref (j := 29) (S' := (216, [(6, .int (nI (f0 + k))), (0, .ref m0), (1, .int (nI p)), (2, .int (nI (by2 f pF))), (3, .int (nI f0)), (4, .int (nI k)), (5, .int (nI (by2 f p)))], [.ref (q 29)], M636)) rfl hR638 rfl rfl ?_
                          refine ps_st (S' := (218, [(6, .int (nI (f0 + k))), (0, .ref m0), (1, .int (nI p)), (2, .int (nI (by2 f pF))), (3, .int (nI f0)), (4, .int (nI k)), (5, .int (nI (by2 f p)))], [.int (nI (f0 + k)), .ref (q 29)], M636)) rfl rfl rfl ?_
                          refine ps_st (S' := (219, [(6, .int (nI (f0 + k))), (0, .ref m0), (1, .int (nI p)), (2, .int (nI (by2 f pF))), (3, .int (nI f0)), (4, .int (nI k)), (5, .int (nI (by2 f p)))], [.ref m0, .int (nI (f0 + k)), .ref (q 29)], M636)) rfl rfl rfl ?_
                          refine ps_st (S' := (220, [(6, .int (nI (f0 + k))), (0, .ref m0), (1, .int (nI p)), (2, .int (nI (by2 f pF))), (3, .int (nI f0)), (4, .int (nI k)), (5, .int (nI (by2 f p)))], [.ref m0, .ref m0, .int (nI (f0 + k)), .ref (q 29)], M636)) rfl rfl rfl ?_
                          refine ps_st (S' := (221, [(6, .int (nI (f0 + k))), (0, .ref m0), (1, .int (nI p)), (2, .int (nI (by2 f pF))), (3, .int (nI f0)), (4, .int (nI k)), (5, .int (nI (by2 f p)))], [.int (nI p), .ref m0, .ref m0, .int (nI (f0 + k)), .ref (q 29)], M636)) rfl rfl rfl ?_
                          refine ps_st (S' := (222, [(6, .int (nI (f0 + k))), (0, .ref m0), (1, .int (nI p)), (2, .int (nI (by2 f pF))), (3, .int (nI f0)), (4, .int (nI k)), (5, .int (nI (by2 f p)))], [.int 4, .int (nI p), .ref m0, .ref m0, .int (nI (f0 + k)), .ref (q 29)], M636)) rfl rfl rfl ?_
                          refine ps_st (S' := (223, [(6, .int (nI (f0 + k))), (0, .ref m0), (1, .int (nI p)), (2, .int (nI (by2 f pF))), (3, .int (nI f0)), (4, .int (nI k)), (5, .int (nI (by2 f p)))], [.int ((nI p) + 4), .ref m0, .ref m0, .int (nI (f0 + k)), .ref (q 29)], M636)) rfl rfl rfl ?_
                          rw [nI_add1 (p := p) (k := 4) (x := 4) rfl (by omega)]
                          show pl _ _ _ (_, [(6, .int (nI (f0 + k))), (0, .ref m0), (1, .int (nI p)), (2, .int (nI (by2 f pF))), (3, .int (nI f0)), (4, .int (nI k)), (5, .int (nI (by2 f p)))], [.int (nI (p + 4)), .ref m0, .ref m0, .int (nI (f0 + k)), .ref (q 29)], M636) _
                          refine pl_call (a := [.ref m0, .int (nI (p + 4))]) (rest := [.ref m0, .int (nI (f0 + k)), .ref (q 29)]) rfl rfl rfl (rd_u2 (n := n) (f := f) (p := (p + 4)) hR638 hF_640 (by omega)) (fun v648 M649 q650 => ?_)
                          obtain ⟨rfl, rfl⟩ := q650
                          show pl _ _ _ (226, [(6, .int (nI (f0 + k))), (0, .ref m0), (1, .int (nI p)), (2, .int (nI (by2 f pF))), (3, .int (nI f0)), (4, .int (nI k)), (5, .int (nI (by2 f p)))], [.int (nI (by2 f (p + 4))), .ref m0, .int (nI (f0 + k)), .ref (q 29)], M636) _
                          have hu_223 := by2_lt f (p + 4)
                          refine pl_call (a := [.ref m0, .int (nI (by2 f (p + 4)))]) (rest := [.int (nI (f0 + k)), .ref (q 29)]) rfl rfl rfl (rd_symOf (n := n) (f := f) (tx := tx) (cN := cN) (A := A) (N := N) (mj := mj) (E := E) (k := (by2 f (p + 4))) hR638 hl51 hl52 hl53 hF_640 hY_641 hP_642 (hEP) (hN) (hmj) (by omega)) (fun v651 M652 q653 => ?_)
                          obtain ⟨s654, q226_s, rfl, rfl⟩ := q653
                          show pl _ _ _ (229, [(6, .int (nI (f0 + k))), (0, .ref m0), (1, .int (nI p)), (2, .int (nI (by2 f pF))), (3, .int (nI f0)), (4, .int (nI k)), (5, .int (nI (by2 f p)))], [.int (nI s654), .int (nI (f0 + k)), .ref (q 29)], M636) _
                          have hsl_226 := q226_s.1
                          have htl_226 := hY_641.1.2.2.1
                          refine pr_st (a := 29) (j := f0 + k) rfl hR638 rfl (by omega) (fun M655 R656 i1_229 hR657 hS658 => ?_)
                          have hF_659 := hF_640.mono (fun _ _ => rfl) (rRx hS658 (by decide))
                          have hY_660 := hY_641.mono (fun _ _ => rfl) (rRx hS658 (by decide))
                          have hP_661 := hP_642.mono (fun _ _ => rfl) (rRx hS658 (by decide))
                          have hK_662 := hK_643.mono (fun _ _ => rfl) (rRx hS658 (by decide))
                          have c27_663 := c27_644.mono (fun _ _ => rfl) (rRx hS658 (by decide))
                          have c28_664 := c28_646.mono (fun _ _ => rfl) (rRx hS658 (by decide))
                          have hER665 := hER645.st hS658 (by decide)
                          show pl _ _ _ (230, [(6, .int (nI (f0 + k))), (0, .ref m0), (1, .int (nI p)), (2, .int (nI (by2 f pF))), (3, .int (nI f0)), (4, .int (nI k)), (5, .int (nI (by2 f p)))], [], M655) _
                          have c29_666 : CE 29 (f0 + k) (nI s654) I1 R656 := CE.st hS658
                          have hN9_667 := FN.st (I' := I1) hN9_647 hS658 rfl
                          refine ps_st (S' := (231, [(6, .int (nI (f0 + k))), (0, .ref m0), (1, .int (nI p)), (2, .int (nI (by2 f pF))), (3, .int (nI f0)), (4, .int (nI k)), (5, .int (nI (by2 f p)))], [.ref m0], M655)) rfl rfl rfl ?_
                          refine pr_ref (j := 30) (S' := (234, [(6, .int (nI (f0 + k))), (0, .ref m0), (1, .int (nI p)), (2, .int (nI (by2 f pF))), (3, .int (nI f0)), (4, .int (nI k)), (5, .int (nI (by2 f p)))], [.ref (q 30)], M655)) rfl hR657 rfl rfl ?_
                          refine ps_st (S' := (236, [(6, .int (nI (f0 + k))), (0, .ref m0), (1, .int (nI p)), (2, .int (nI (by2 f pF))), (3, .int (nI f0)), (4, .int (nI k)), (5, .int (nI (by2 f p)))], [.int (nI (f0 + k)), .ref (q 30)], M655)) rfl rfl rfl ?_
                          refine ps_st (S' := (237, [(6, .int (nI (f0 + k))), (0, .ref m0), (1, .int (nI p)), (2, .int (nI (by2 f pF))), (3, .int (nI f0)), (4, .int (nI k)), (5, .int (nI (by2 f p)))], [.int 0, .int (nI (f0 + k)), .ref (q 30)], M655)) rfl rfl rfl ?_
                          refine pr_st (a := 30) (j := f0 + k) rfl hR657 rfl (by omega) (fun M668 R669 i1_237 hR670 hS671 => ?_)
                          have hF_672 := hF_659.mono (fun _ _ => rfl) (rRx hS671 (by decide))
                          have hY_673 := hY_660.mono (fun _ _ => rfl) (rRx hS671 (by decide))
                          have hP_674 := hP_661.mono (fun _ _ => rfl) (rRx hS671 (by decide))
                          have hK_675 := hK_662.mono (fun _ _ => rfl) (rRx hS671 (by decide))
                          have c27_676 := c27_663.mono (fun _ _ => rfl) (rRx hS671 (by decide))
                          have c28_677 := c28_664.mono (fun _ _ => rfl) (rRx hS671 (by decide))
                          have c29_678 := c29_666.mono (fun _ _ => rfl) (rRx hS671 (by decide))
                          have hN9_679 := hN9_667.mono (fun _ _ => rfl) (rRx hS671 (by decide))
                          have hER680 := hER665.st hS671 (by decide)
                          show pl _ _ _ (238, [(6, .int (nI (f0 + k))), (0, .ref m0), (1, .int (nI p)), (2, .int (nI (by2 f pF))), (3, .int (nI f0)), (4, .int (nI k)), (5, .int (nI (by2 f p)))], [], M668) _
                          refine ps_st (S' := (239, [(6, .int (nI (f0 + k))), (0, .ref m0), (1, .int (nI p)), (2, .int (nI (by2 f pF))), (3, .int (nI f0)), (4, .int (nI k)), (5, .int (nI (by2 f p)))], [.ref m0], M668)) rfl rfl rfl ?_
                          refine pr_ref (j := 31) (S' := (242, [(6, .int (nI (f0 + k))), (0, .ref m0), (1, .int (nI p)), (2, .int (nI (by2 f pF))), (3, .int (nI f0)), (4, .int (nI k)), (5, .int (nI (by2 f p)))], [.ref (q 31)], M668)) rfl hR670 rfl rfl ?_
                          refine ps_st (S' := (244, [(6, .int (nI (f0 + k))), (0, .ref m0), (1, .int (nI p)), (2, .int (nI (by2 f pF))), (3, .int (nI f0)), (4, .int (nI k)), (5, .int (nI (by2 f p)))], [.int (nI (f0 + k)), .ref (q 31)], M668)) rfl rfl rfl ?_
                          refine ps_st (S' := (245, [(6, .int (nI (f0 + k))), (0, .ref m0), (1, .int (nI p)), (2, .int (nI (by2 f pF))), (3, .int (nI f0)), (4, .int (nI k)), (5, .int (nI (by2 f p)))], [.int 0, .int (nI (f0 + k)), .ref (q 31)], M668)) rfl rfl rfl ?_
                          refine pr_st (a := 31) (j := f0 + k) rfl hR670 rfl (by omega) (fun M681 R682 i1_245 hR683 hS684 => ?_)
                          have hF_685 := hF_672.mono (fun _ _ => rfl) (rRx hS684 (by decide))
                          have hY_686 := hY_673.mono (fun _ _ => rfl) (rRx hS684 (by decide))
                          have hP_687 := hP_674.mono (fun _ _ => rfl) (rRx hS684 (by decide))
                          have hK_688 := hK_675.mono (fun _ _ => rfl) (rRx hS684 (by decide))
                          have c27_689 := c27_676.mono (fun _ _ => rfl) (rRx hS684 (by decide))
                          have c28_690 := c28_677.mono (fun _ _ => rfl) (rRx hS684 (by decide))
                          have c29_691 := c29_678.mono (fun _ _ => rfl) (rRx hS684 (by decide))
                          have hN9_692 := hN9_679.mono (fun _ _ => rfl) (rRx hS684 (by decide))
                          have hER693 := hER680.st hS684 (by decide)
                          show pl _ _ _ (246, [(6, .int (nI (f0 + k))), (0, .ref m0), (1, .int (nI p)), (2, .int (nI (by2 f pF))), (3, .int (nI f0)), (4, .int (nI k)), (5, .int (nI (by2 f p)))], [], M681) _
                          refine ps_st (S' := (247, [(6, .int (nI (f0 + k))), (0, .ref m0), (1, .int (nI p)), (2, .int (nI (by2 f pF))), (3, .int (nI f0)), (4, .int (nI k)), (5, .int (nI (by2 f p)))], [.ref m0], M681)) rfl rfl rfl ?_
                          refine pr_ref (j := 32) (S' := (250, [(6, .int (nI (f0 + k))), (0, .ref m0), (1, .int (nI p)), (2, .int (nI (by2 f pF))), (3, .int (nI f0)), (4, .int (nI k)), (5, .int (nI (by2 f p)))], [.ref (q 32)], M681)) rfl hR683 rfl rfl ?_
                          refine ps_st (S' := (252, [(6, .int (nI (f0 + k))), (0, .ref m0), (1, .int (nI p)), (2, .int (nI (by2 f pF))), (3, .int (nI f0)), (4, .int (nI k)), (5, .int (nI (by2 f p)))], [.int (nI (f0 + k)), .ref (q 32)], M681)) rfl rfl rfl ?_
                          refine ps_st (S' := (253, [(6, .int (nI (f0 + k))), (0, .ref m0), (1, .int (nI p)), (2, .int (nI (by2 f pF))), (3, .int (nI f0)), (4, .int (nI k)), (5, .int (nI (by2 f p)))], [.ref m0, .int (nI (f0 + k)), .ref (q 32)], M681)) rfl rfl rfl ?_
                          refine ps_st (S' := (254, [(6, .int (nI (f0 + k))), (0, .ref m0), (1, .int (nI p)), (2, .int (nI (by2 f pF))), (3, .int (nI f0)), (4, .int (nI k)), (5, .int (nI (by2 f p)))], [.int (nI p), .ref m0, .int (nI (f0 + k)), .ref (q 32)], M681)) rfl rfl rfl ?_
                          refine ps_st (S' := (255, [(6, .int (nI (f0 + k))), (0, .ref m0), (1, .int (nI p)), (2, .int (nI (by2 f pF))), (3, .int (nI f0)), (4, .int (nI k)), (5, .int (nI (by2 f p)))], [.int 2, .int (nI p), .ref m0, .int (nI (f0 + k)), .ref (q 32)], M681)) rfl rfl rfl ?_
                          refine ps_st (S' := (256, [(6, .int (nI (f0 + k))), (0, .ref m0), (1, .int (nI p)), (2, .int (nI (by2 f pF))), (3, .int (nI f0)), (4, .int (nI k)), (5, .int (nI (by2 f p)))], [.int ((nI p) + 2), .ref m0, .int (nI (f0 + k)), .ref (q 32)], M681)) rfl rfl rfl ?_
                          rw [nI_add1 (p := p) (k := 2) (x := 2) rfl (by omega)]
                          show pl _ _ _ (_, [(6, .int (nI (f0 + k))), (0, .ref m0), (1, .int (nI p)), (2, .int (nI (by2 f pF))), (3, .int (nI f0)), (4, .int (nI k)), (5, .int (nI (by2 f p)))], [.int (nI (p + 2)), .ref m0, .int (nI (f0 + k)), .ref (q 32)], M681) _
                          refine pl_call (a := [.ref m0, .int (nI (p + 2))]) (rest := [.int (nI (f0 + k)), .ref (q 32)]) rfl rfl rfl (rd_u2 (n := n) (f := f) (p := (p + 2)) hR683 hF_685 (by omega)) (fun v694 M695 q696 => ?_)
                          obtain ⟨rfl, rfl⟩ := q696
                          show pl _ _ _ (259, [(6, .int (nI (f0 + k))), (0, .ref m0), (1, .int (nI p)), (2, .int (nI (by2 f pF))), (3, .int (nI f0)), (4, .int (nI k)), (5, .int (nI (by2 f p)))], [.int (nI (by2 f (p + 2))), .int (nI (f0 + k)), .ref (q 32)], M681) _
                          have hu_256 := by2_lt f (p + 2)
                          refine pr_st (a := 32) (j := f0 + k) rfl hR683 rfl (by omega) (fun M697 R698 i1_259 hR699 hS700 => ?_)
                          have hF_701 := hF_685.mono (fun _ _ => rfl) (rRx hS700 (by decide))
                          have hY_702 := hY_686.mono (fun _ _ => rfl) (rRx hS700 (by decide))
                          have hP_703 := hP_687.mono (fun _ _ => rfl) (rRx hS700 (by decide))
                          have hK_704 := hK_688.mono (fun _ _ => rfl) (rRx hS700 (by decide))
                          have c27_705 := c27_689.mono (fun _ _ => rfl) (rRx hS700 (by decide))
                          have c28_706 := c28_690.mono (fun _ _ => rfl) (rRx hS700 (by decide))
                          have c29_707 := c29_691.mono (fun _ _ => rfl) (rRx hS700 (by decide))
                          have hN9_708 := hN9_692.mono (fun _ _ => rfl) (rRx hS700 (by decide))
                          have hER709 := hER693.st hS700 (by decide)
                          show pl _ _ _ (260, [(6, .int (nI (f0 + k))), (0, .ref m0), (1, .int (nI p)), (2, .int (nI (by2 f pF))), (3, .int (nI f0)), (4, .int (nI k)), (5, .int (nI (by2 f p)))], [], M697) _
                          refine ps_st (S' := (261, [(6, .int (nI (f0 + k))), (0, .ref m0), (1, .int (nI p)), (2, .int (nI (by2 f pF))), (3, .int (nI f0)), (4, .int (nI k)), (5, .int (nI (by2 f p)))], [.ref m0], M697)) rfl rfl rfl ?_
                          refine pr_ref (j := 33) (S' := (264, [(6, .int (nI (f0 + k))), (0, .ref m0), (1, .int (nI p)), (2, .int (nI (by2 f pF))), (3, .int (nI f0)), (4, .int (nI k)), (5, .int (nI (by2 f p)))], [.ref (q 33)], M697)) rfl hR699 rfl rfl ?_
                          refine ps_st (S' := (266, [(6, .int (nI (f0 + k))), (0, .ref m0), (1, .int (nI p)), (2, .int (nI (by2 f pF))), (3, .int (nI f0)), (4, .int (nI k)), (5, .int (nI (by2 f p)))], [.int (nI (f0 + k)), .ref (q 33)], M697)) rfl rfl rfl ?_
                          refine ps_st (S' := (267, [(6, .int (nI (f0 + k))), (0, .ref m0), (1, .int (nI p)), (2, .int (nI (by2 f pF))), (3, .int (nI f0)), (4, .int (nI k)), (5, .int (nI (by2 f p)))], [.ref m0, .int (nI (f0 + k)), .ref (q 33)], M697)) rfl rfl rfl ?_
                          refine ps_st (S' := (268, [(6, .int (nI (f0 + k))), (0, .ref m0), (1, .int (nI p)), (2, .int (nI (by2 f pF))), (3, .int (nI f0)), (4, .int (nI k)), (5, .int (nI (by2 f p)))], [.int (nI p), .ref m0, .int (nI (f0 + k)), .ref (q 33)], M697)) rfl rfl rfl ?_
                          refine ps_st (S' := (269, [(6, .int (nI (f0 + k))), (0, .ref m0), (1, .int (nI p)), (2, .int (nI (by2 f pF))), (3, .int (nI f0)), (4, .int (nI k)), (5, .int (nI (by2 f p)))], [.int 4, .int (nI p), .ref m0, .int (nI (f0 + k)), .ref (q 33)], M697)) rfl rfl rfl ?_
                          refine ps_st (S' := (270, [(6, .int (nI (f0 + k))), (0, .ref m0), (1, .int (nI p)), (2, .int (nI (by2 f pF))), (3, .int (nI f0)), (4, .int (nI k)), (5, .int (nI (by2 f p)))], [.int ((nI p) + 4), .ref m0, .int (nI (f0 + k)), .ref (q 33)], M697)) rfl rfl rfl ?_
                          rw [nI_add1 (p := p) (k := 4) (x := 4) rfl (by omega)]
                          show pl _ _ _ (_, [(6, .int (nI (f0 + k))), (0, .ref m0), (1, .int (nI p)), (2, .int (nI (by2 f pF))), (3, .int (nI f0)), (4, .int (nI k)), (5, .int (nI (by2 f p)))], [.int (nI (p + 4)), .ref m0, .int (nI (f0 + k)), .ref (q 33)], M697) _
                          refine pl_call (a := [.ref m0, .int (nI (p + 4))]) (rest := [.int (nI (f0 + k)), .ref (q 33)]) rfl rfl rfl (rd_u2 (n := n) (f := f) (p := (p + 4)) hR699 hF_701 (by omega)) (fun v710 M711 q712 => ?_)
                          obtain ⟨rfl, rfl⟩ := q712
                          show pl _ _ _ (273, [(6, .int (nI (f0 + k))), (0, .ref m0), (1, .int (nI p)), (2, .int (nI (by2 f pF))), (3, .int (nI f0)), (4, .int (nI k)), (5, .int (nI (by2 f p)))], [.int (nI (by2 f (p + 4))), .int (nI (f0 + k)), .ref (q 33)], M697) _
                          have hu_270 := by2_lt f (p + 4)
                          refine pr_st (a := 33) (j := f0 + k) rfl hR699 rfl (by omega) (fun M713 R714 i1_273 hR715 hS716 => ?_)
                          have hF_717 := hF_701.mono (fun _ _ => rfl) (rRx hS716 (by decide))
                          have hY_718 := hY_702.mono (fun _ _ => rfl) (rRx hS716 (by decide))
                          have hP_719 := hP_703.mono (fun _ _ => rfl) (rRx hS716 (by decide))
                          have hK_720 := hK_704.mono (fun _ _ => rfl) (rRx hS716 (by decide))
                          have c27_721 := c27_705.mono (fun _ _ => rfl) (rRx hS716 (by decide))
                          have c28_722 := c28_706.mono (fun _ _ => rfl) (rRx hS716 (by decide))
                          have c29_723 := c29_707.mono (fun _ _ => rfl) (rRx hS716 (by decide))
                          have hN9_724 := hN9_708.mono (fun _ _ => rfl) (rRx hS716 (by decide))
                          have hER725 := hER709.st hS716 (by decide)
                          show pl _ _ _ (274, [(6, .int (nI (f0 + k))), (0, .ref m0), (1, .int (nI p)), (2, .int (nI (by2 f pF))), (3, .int (nI f0)), (4, .int (nI k)), (5, .int (nI (by2 f p)))], [], M713) _
                          refine ps_st (S' := (275, [(6, .int (nI (f0 + k))), (0, .ref m0), (1, .int (nI p)), (2, .int (nI (by2 f pF))), (3, .int (nI f0)), (4, .int (nI k)), (5, .int (nI (by2 f p)))], [.int (nI f0)], M713)) rfl rfl rfl ?_
                          refine ps_st (S' := (277, [(0, .ref m0), (1, .int (nI p)), (2, .int (nI (by2 f pF))), (3, .int (nI f0)), (4, .int (nI k)), (6, .int (nI (f0 + k))), (7, .int (nI f0))], [], M713)) rfl rfl rfl ?_
                          have h19 : ¬ fflN cf (by2 f p) = 0 := by
                            have e1 := ffl_0 cf (by2 f p)
                            have e2 := sev_0 (by2 f p)
                            have e3 := hall_80 (by2 f p)
                            omega
                          exact ih.2 (k) (p) (0) (s635) (s654) M713 I1 R714 hR715 hEI1 hER725 hl51 hl52 hl53 hl58 hl55 hl25 hF_717 hY_718 hP_719 hK_720 hN9_724 c27_721 c28_722 c29_723 (by omega) (hpk) (by omega) (hs) (by omega) (by omega) (q208_s) (q226_s) (by omega) (by omega) (h19) (by omega) (by omega) (rfl)
                        · have c_166 : ¬ (¬ (nI (fldN (tX f n E (by2 f (p + 4))))) = 0) := of_decide_eq_false c_166
                          have n_166 : fldN (tX f n E (by2 f (p + 4))) = 0 := (eq_nI (p := fldN (tX f n E (by2 f (p + 4)))) (n := 0) (Nat.lt_trans (le1_fld _) (by decide)) (by decide)).mp (Decidable.not_not.mp c_166)
                          refine ps_st (S' := (170, [(0, .ref m0), (1, .int (nI p))], [.ref m0], M1)) rfl rfl rfl ?_
                          refine ps_st (S' := (172, [(0, .ref m0), (1, .int (nI p))], [.int 21, .ref m0], M1)) rfl rfl rfl ?_
                          refine ps_st (S' := (173, [(0, .ref m0), (1, .int (nI p))], [.int (nI p), .int 21, .ref m0], M1)) rfl rfl rfl ?_
                          refine ps_st (S' := (174, [(0, .ref m0), (1, .int (nI p))], [.int 4, .int (nI p), .int 21, .ref m0], M1)) rfl rfl rfl ?_
                          refine ps_st (S' := (175, [(0, .ref m0), (1, .int (nI p))], [.int ((nI p) + 4), .int 21, .ref m0], M1)) rfl rfl rfl ?_
                          rw [nI_add1 (p := p) (k := 4) (x := 4) rfl (by omega)]
                          show pl _ _ _ (_, [(0, .ref m0), (1, .int (nI p))], [.int (nI (p + 4)), .int 21, .ref m0], M1) _
                          refine pl_call (a := [.ref m0, .int 21, .int (nI (p + 4))]) (rest := []) rfl rfl rfl (rd_wrong (x1 := 21) (x2 := (nI (p + 4))) hR1) (fun v726 M727 q728 => ?_)
                          obtain ⟨I729, R730, rfl, hR731, hI732, hX733, hi734, hi735⟩ := q728
                          have hi736 := (hI732 51 (by decide)).trans hl51
                          have hi737 := (hI732 52 (by decide)).trans hl52
                          have hi738 := (hI732 53 (by decide)).trans hl53
                          have hi739 := (hI732 58 (by decide)).trans hl58
                          have hi740 := (hI732 55 (by decide)).trans hl55
                          have hi741 := (hI732 25 (by decide)).trans hl25
                          have hF_742 := hF1.mono (cIx hI732 (by decide)) (cRx hX733 (by decide))
                          have hY_743 := hY1.mono (cIx hI732 (by decide)) (cRx hX733 (by decide))
                          have hP_744 := hP1.mono (cIx hI732 (by decide)) (cRx hX733 (by decide))
                          have hK_745 := hK1.mono (cIx hI732 (by decide)) (cRx hX733 (by decide))
                          have hN9_746 := hN91.mono (cIx hI732 (by decide)) (cRx hX733 (by decide))
                          have hEI747 := hEI1.tr hI732 (by decide)
                          have hER748 := hER1.tr hX733 (by decide)
                          show pl _ _ _ (178, [(0, .ref m0), (1, .int (nI p))], [.int 0], M727) _
                          exact ps_ret rfl rfl (Or.inr ⟨(21, p + 4), I729, R730, by
                              rw [← hs, flS_st (i := k) (by omega), ← hpk, fh_21 (by have e1 := ffl_0 cf (by2 f p); have e2 := sev_0 (by2 f p); have e3 := hall_80 (by2 f p); omega) (by omega) (by omega)], rfl, hR731, hEI747, hER748, hi734, hi735⟩)
                    · have c_123 : ¬ (¬ (nI (unqN (tX f n E (by2 f (p + 2))))) = 0) := of_decide_eq_false c_123
                      have n_123 : unqN (tX f n E (by2 f (p + 2))) = 0 := (eq_nI (p := unqN (tX f n E (by2 f (p + 2)))) (n := 0) (Nat.lt_trans (le1_unq _) (by decide)) (by decide)).mp (Decidable.not_not.mp c_123)
                      refine ps_st (S' := (127, [(0, .ref m0), (1, .int (nI p))], [.ref m0], M1)) rfl rfl rfl ?_
                      refine ps_st (S' := (129, [(0, .ref m0), (1, .int (nI p))], [.int 20, .ref m0], M1)) rfl rfl rfl ?_
                      refine ps_st (S' := (130, [(0, .ref m0), (1, .int (nI p))], [.int (nI p), .int 20, .ref m0], M1)) rfl rfl rfl ?_
                      refine ps_st (S' := (131, [(0, .ref m0), (1, .int (nI p))], [.int 2, .int (nI p), .int 20, .ref m0], M1)) rfl rfl rfl ?_
                      refine ps_st (S' := (132, [(0, .ref m0), (1, .int (nI p))], [.int ((nI p) + 2), .int 20, .ref m0], M1)) rfl rfl rfl ?_
                      rw [nI_add1 (p := p) (k := 2) (x := 2) rfl (by omega)]
                      show pl _ _ _ (_, [(0, .ref m0), (1, .int (nI p))], [.int (nI (p + 2)), .int 20, .ref m0], M1) _
                      refine pl_call (a := [.ref m0, .int 20, .int (nI (p + 2))]) (rest := []) rfl rfl rfl (rd_wrong (x1 := 20) (x2 := (nI (p + 2))) hR1) (fun v749 M750 q751 => ?_)
                      obtain ⟨I752, R753, rfl, hR754, hI755, hX756, hi757, hi758⟩ := q751
                      have hi759 := (hI755 51 (by decide)).trans hl51
                      have hi760 := (hI755 52 (by decide)).trans hl52
                      have hi761 := (hI755 53 (by decide)).trans hl53
                      have hi762 := (hI755 58 (by decide)).trans hl58
                      have hi763 := (hI755 55 (by decide)).trans hl55
                      have hi764 := (hI755 25 (by decide)).trans hl25
                      have hF_765 := hF1.mono (cIx hI755 (by decide)) (cRx hX756 (by decide))
                      have hY_766 := hY1.mono (cIx hI755 (by decide)) (cRx hX756 (by decide))
                      have hP_767 := hP1.mono (cIx hI755 (by decide)) (cRx hX756 (by decide))
                      have hK_768 := hK1.mono (cIx hI755 (by decide)) (cRx hX756 (by decide))
                      have hN9_769 := hN91.mono (cIx hI755 (by decide)) (cRx hX756 (by decide))
                      have hEI770 := hEI1.tr hI755 (by decide)
                      have hER771 := hER1.tr hX756 (by decide)
                      show pl _ _ _ (135, [(0, .ref m0), (1, .int (nI p))], [.int 0], M750) _
                      exact ps_ret rfl rfl (Or.inr ⟨(20, p + 2), I752, R753, by
                          rw [← hs, flS_st (i := k) (by omega), ← hpk, fh_20 (by have e1 := ffl_0 cf (by2 f p); have e2 := sev_0 (by2 f p); have e3 := hall_80 (by2 f p); omega) (by omega)], rfl, hR754, hEI770, hER771, hi757, hi758⟩)
                · have c_70 : ¬ ((nI (aN cf 512)) = 0) := of_decide_eq_false c_70
                  have n_70 : ¬ (aN cf 512 = 0) := fun h9 => c_70 ((eq_nI (p := aN cf 512) (n := 0) (Nat.lt_of_le_of_lt (an_le _ _) (by decide)) (by decide)).mpr h9)
                  refine ps_st (S' := (75, [(0, .ref m0), (1, .int (nI p)), (2, .int (nI (by2 f pF))), (3, .int (nI f0)), (4, .int (nI k)), (5, .int (nI (by2 f p)))], [.int (nI (by2 f p))], M1)) rfl rfl rfl ?_
                  refine ps_st (S' := (78, [(0, .ref m0), (1, .int (nI p)), (2, .int (nI (by2 f pF))), (3, .int (nI f0)), (4, .int (nI k)), (5, .int (nI (by2 f p)))], [.int 16607, .int (nI (by2 f p))], M1)) rfl rfl rfl ?_
                  refine ps_st (S' := (79, [(0, .ref m0), (1, .int (nI p)), (2, .int (nI (by2 f pF))), (3, .int (nI f0)), (4, .int (nI k)), (5, .int (nI (by2 f p)))], [.int ((nI (by2 f p)) &&& 16607)], M1)) rfl rfl rfl ?_
                  rw [nI_an (p := by2 f p) (k := 16607) (x := 16607) rfl]
                  show pl _ _ _ (_, [(0, .ref m0), (1, .int (nI p)), (2, .int (nI (by2 f pF))), (3, .int (nI f0)), (4, .int (nI k)), (5, .int (nI (by2 f p)))], [.int (nI (aN (by2 f p) 16607))], M1) _
                  refine ps_st (S' := (81, [(0, .ref m0), (1, .int (nI p)), (2, .int (nI (by2 f pF))), (3, .int (nI f0)), (4, .int (nI k)), (5, .int (nI (by2 f p)))], [.int 25, .int (nI (aN (by2 f p) 16607))], M1)) rfl rfl rfl ?_
                  refine ps_if2 (S1 := (92, [(0, .ref m0), (1, .int (nI p)), (2, .int (nI (by2 f pF))), (3, .int (nI f0)), (4, .int (nI k)), (5, .int (nI (by2 f p)))], [], M1)) (S2 := (84, [(0, .ref m0), (1, .int (nI p))], [], M1)) rfl rfl rfl (fun c_81 => ?_) (fun c_81 => ?_)
                  · have c_81 : (nI (aN (by2 f p) 16607)) = 25 := of_decide_eq_true c_81
                    have n_81 : aN (by2 f p) 16607 = 25 := (eq_nI (p := aN (by2 f p) 16607) (n := 25) (Nat.lt_of_le_of_lt (an_le _ _) (by decide)) (by decide)).mp c_81
                    refine ps_st (S' := (93, [(0, .ref m0), (1, .int (nI p)), (2, .int (nI (by2 f pF))), (3, .int (nI f0)), (4, .int (nI k)), (5, .int (nI (by2 f p)))], [.ref m0], M1)) rfl rfl rfl ?_
                    refine ps_st (S' := (94, [(0, .ref m0), (1, .int (nI p)), (2, .int (nI (by2 f pF))), (3, .int (nI f0)), (4, .int (nI k)), (5, .int (nI (by2 f p)))], [.ref m0, .ref m0], M1)) rfl rfl rfl ?_
                    refine ps_st (S' := (95, [(0, .ref m0), (1, .int (nI p)), (2, .int (nI (by2 f pF))), (3, .int (nI f0)), (4, .int (nI k)), (5, .int (nI (by2 f p)))], [.int (nI p), .ref m0, .ref m0], M1)) rfl rfl rfl ?_
                    refine ps_st (S' := (96, [(0, .ref m0), (1, .int (nI p)), (2, .int (nI (by2 f pF))), (3, .int (nI f0)), (4, .int (nI k)), (5, .int (nI (by2 f p)))], [.int 2, .int (nI p), .ref m0, .ref m0], M1)) rfl rfl rfl ?_
                    refine ps_st (S' := (97, [(0, .ref m0), (1, .int (nI p)), (2, .int (nI (by2 f pF))), (3, .int (nI f0)), (4, .int (nI k)), (5, .int (nI (by2 f p)))], [.int ((nI p) + 2), .ref m0, .ref m0], M1)) rfl rfl rfl ?_
                    rw [nI_add1 (p := p) (k := 2) (x := 2) rfl (by omega)]
                    show pl _ _ _ (_, [(0, .ref m0), (1, .int (nI p)), (2, .int (nI (by2 f pF))), (3, .int (nI f0)), (4, .int (nI k)), (5, .int (nI (by2 f p)))], [.int (nI (p + 2)), .ref m0, .ref m0], M1) _
                    refine pl_call (a := [.ref m0, .int (nI (p + 2))]) (rest := [.ref m0]) rfl rfl rfl (rd_u2 (n := n) (f := f) (p := (p + 2)) hR1 hF1 (by omega)) (fun v772 M773 q774 => ?_)
                    obtain ⟨rfl, rfl⟩ := q774
                    show pl _ _ _ (100, [(0, .ref m0), (1, .int (nI p)), (2, .int (nI (by2 f pF))), (3, .int (nI f0)), (4, .int (nI k)), (5, .int (nI (by2 f p)))], [.int (nI (by2 f (p + 2))), .ref m0], M1) _
                    have hu_97 := by2_lt f (p + 2)
                    refine pl_call (a := [.ref m0, .int (nI (by2 f (p + 2)))]) (rest := []) rfl rfl rfl (rd_tag (n := n) (f := f) (tx := tx) (cN := cN) (A := A) (N := N) (mj := mj) (E := E) (k := (by2 f (p + 2))) hR1 hl51 hl52 hl53 hF1 hY1 hP1 (hEP) (hN) (hmj) (by2_lt _ _)) (fun v775 M776 q777 => ?_)
                    obtain ⟨rfl, rfl⟩ := q777
                    show pl _ _ _ (103, [(0, .ref m0), (1, .int (nI p)), (2, .int (nI (by2 f pF))), (3, .int (nI f0)), (4, .int (nI k)), (5, .int (nI (by2 f p)))], [.int (nI (tg f E (by2 f (p + 2))))], M1) _
                    have htg_100 := tg_lt f E (by2 f (p + 2))
                    refine ps_st (S' := (104, [(0, .ref m0), (1, .int (nI p)), (2, .int (nI (by2 f pF))), (3, .int (nI f0)), (4, .int (nI k)), (5, .int (nI (by2 f p)))], [.int 1, .int (nI (tg f E (by2 f (p + 2))))], M1)) rfl rfl rfl ?_
                    refine ps_if2 (S1 := (126, [(0, .ref m0), (1, .int (nI p))], [], M1)) (S2 := (107, [(0, .ref m0), (1, .int (nI p)), (2, .int (nI (by2 f pF))), (3, .int (nI f0)), (4, .int (nI k)), (5, .int (nI (by2 f p)))], [], M1)) rfl rfl rfl (fun c_104 => ?_) (fun c_104 => ?_)
                    · have c_104 : ¬ (nI (tg f E (by2 f (p + 2)))) = 1 := of_decide_eq_true c_104
                      have n_104 : ¬ (tg f E (by2 f (p + 2)) = 1) := fun h9 => c_104 ((eq_nI (p := tg f E (by2 f (p + 2))) (n := 1) (Nat.lt_trans (tg_lt _ _ _) (by decide)) (by decide)).mpr h9)
                      refine ps_st (S' := (127, [(0, .ref m0), (1, .int (nI p))], [.ref m0], M1)) rfl rfl rfl ?_
                      refine ps_st (S' := (129, [(0, .ref m0), (1, .int (nI p))], [.int 20, .ref m0], M1)) rfl rfl rfl ?_
                      refine ps_st (S' := (130, [(0, .ref m0), (1, .int (nI p))], [.int (nI p), .int 20, .ref m0], M1)) rfl rfl rfl ?_
                      refine ps_st (S' := (131, [(0, .ref m0), (1, .int (nI p))], [.int 2, .int (nI p), .int 20, .ref m0], M1)) rfl rfl rfl ?_
                      refine ps_st (S' := (132, [(0, .ref m0), (1, .int (nI p))], [.int ((nI p) + 2), .int 20, .ref m0], M1)) rfl rfl rfl ?_
                      rw [nI_add1 (p := p) (k := 2) (x := 2) rfl (by omega)]
                      show pl _ _ _ (_, [(0, .ref m0), (1, .int (nI p))], [.int (nI (p + 2)), .int 20, .ref m0], M1) _
                      refine pl_call (a := [.ref m0, .int 20, .int (nI (p + 2))]) (rest := []) rfl rfl rfl (rd_wrong (x1 := 20) (x2 := (nI (p + 2))) hR1) (fun v778 M779 q780 => ?_)
                      obtain ⟨I781, R782, rfl, hR783, hI784, hX785, hi786, hi787⟩ := q780
                      have hi788 := (hI784 51 (by decide)).trans hl51
                      have hi789 := (hI784 52 (by decide)).trans hl52
                      have hi790 := (hI784 53 (by decide)).trans hl53
                      have hi791 := (hI784 58 (by decide)).trans hl58
                      have hi792 := (hI784 55 (by decide)).trans hl55
                      have hi793 := (hI784 25 (by decide)).trans hl25
                      have hF_794 := hF1.mono (cIx hI784 (by decide)) (cRx hX785 (by decide))
                      have hY_795 := hY1.mono (cIx hI784 (by decide)) (cRx hX785 (by decide))
                      have hP_796 := hP1.mono (cIx hI784 (by decide)) (cRx hX785 (by decide))
                      have hK_797 := hK1.mono (cIx hI784 (by decide)) (cRx hX785 (by decide))
                      have hN9_798 := hN91.mono (cIx hI784 (by decide)) (cRx hX785 (by decide))
                      have hEI799 := hEI1.tr hI784 (by decide)
                      have hER800 := hER1.tr hX785 (by decide)
                      show pl _ _ _ (135, [(0, .ref m0), (1, .int (nI p))], [.int 0], M779) _
                      exact ps_ret rfl rfl (Or.inr ⟨(20, p + 2), I781, R782, by
                          rw [← hs, flS_st (i := k) (by omega), ← hpk, fh_20 (by have e1 := ffl_0 cf (by2 f p); have e2 := sev_0 (by2 f p); have e3 := hall_80 (by2 f p); omega) (by rw [tx_no (by omega)]; decide)], rfl, hR783, hEI799, hER800, hi786, hi787⟩)
                    · have c_104 : ¬ (¬ (nI (tg f E (by2 f (p + 2)))) = 1) := of_decide_eq_false c_104
                      have n_104 : tg f E (by2 f (p + 2)) = 1 := (eq_nI (p := tg f E (by2 f (p + 2))) (n := 1) (Nat.lt_trans (tg_lt _ _ _) (by decide)) (by decide)).mp (Decidable.not_not.mp c_104)
                      refine ps_st (S' := (108, [(0, .ref m0), (1, .int (nI p)), (2, .int (nI (by2 f pF))), (3, .int (nI f0)), (4, .int (nI k)), (5, .int (nI (by2 f p)))], [.ref m0], M1)) rfl rfl rfl ?_
                      refine ps_st (S' := (109, [(0, .ref m0), (1, .int (nI p)), (2, .int (nI (by2 f pF))), (3, .int (nI f0)), (4, .int (nI k)), (5, .int (nI (by2 f p)))], [.ref m0, .ref m0], M1)) rfl rfl rfl ?_
                      refine ps_st (S' := (110, [(0, .ref m0), (1, .int (nI p)), (2, .int (nI (by2 f pF))), (3, .int (nI f0)), (4, .int (nI k)), (5, .int (nI (by2 f p)))], [.ref m0, .ref m0, .ref m0], M1)) rfl rfl rfl ?_
                      refine ps_st (S' := (111, [(0, .ref m0), (1, .int (nI p)), (2, .int (nI (by2 f pF))), (3, .int (nI f0)), (4, .int (nI k)), (5, .int (nI (by2 f p)))], [.int (nI p), .ref m0, .ref m0, .ref m0], M1)) rfl rfl rfl ?_
                      refine ps_st (S' := (112, [(0, .ref m0), (1, .int (nI p)), (2, .int (nI (by2 f pF))), (3, .int (nI f0)), (4, .int (nI k)), (5, .int (nI (by2 f p)))], [.int 2, .int (nI p), .ref m0, .ref m0, .ref m0], M1)) rfl rfl rfl ?_
                      refine ps_st (S' := (113, [(0, .ref m0), (1, .int (nI p)), (2, .int (nI (by2 f pF))), (3, .int (nI f0)), (4, .int (nI k)), (5, .int (nI (by2 f p)))], [.int ((nI p) + 2), .ref m0, .ref m0, .ref m0], M1)) rfl rfl rfl ?_
                      rw [nI_add1 (p := p) (k := 2) (x := 2) rfl (by omega)]
                      show pl _ _ _ (_, [(0, .ref m0), (1, .int (nI p)), (2, .int (nI (by2 f pF))), (3, .int (nI f0)), (4, .int (nI k)), (5, .int (nI (by2 f p)))], [.int (nI (p + 2)), .ref m0, .ref m0, .ref m0], M1) _
                      refine pl_call (a := [.ref m0, .int (nI (p + 2))]) (rest := [.ref m0, .ref m0]) rfl rfl rfl (rd_u2 (n := n) (f := f) (p := (p + 2)) hR1 hF1 (by omega)) (fun v801 M802 q803 => ?_)
                      obtain ⟨rfl, rfl⟩ := q803
                      show pl _ _ _ (116, [(0, .ref m0), (1, .int (nI p)), (2, .int (nI (by2 f pF))), (3, .int (nI f0)), (4, .int (nI k)), (5, .int (nI (by2 f p)))], [.int (nI (by2 f (p + 2))), .ref m0, .ref m0], M1) _
                      have hu_113 := by2_lt f (p + 2)
                      refine pl_call (a := [.ref m0, .int (nI (by2 f (p + 2)))]) (rest := [.ref m0]) rfl rfl rfl (rd_symOf (n := n) (f := f) (tx := tx) (cN := cN) (A := A) (N := N) (mj := mj) (E := E) (k := (by2 f (p + 2))) hR1 hl51 hl52 hl53 hF1 hY1 hP1 (hEP) (hN) (hmj) (by omega)) (fun v804 M805 q806 => ?_)
                      obtain ⟨s807, q116_s, rfl, rfl⟩ := q806
                      show pl _ _ _ (119, [(0, .ref m0), (1, .int (nI p)), (2, .int (nI (by2 f pF))), (3, .int (nI f0)), (4, .int (nI k)), (5, .int (nI (by2 f p)))], [.int (nI s807), .ref m0], M1) _
                      have hsl_116 := q116_s.1
                      have htl_116 := hY1.1.2.2.1
                      refine ps_st (S' := (120, [(0, .ref m0), (1, .int (nI p)), (2, .int (nI (by2 f pF))), (3, .int (nI f0)), (4, .int (nI k)), (5, .int (nI (by2 f p)))], [.int 1, .int (nI s807), .ref m0], M1)) rfl rfl rfl ?_
                      refine pl_call (a := [.ref m0, .int (nI s807), .int 1]) (rest := []) rfl rfl rfl (rd_unq1 (tx := tx) (cN := cN) (A := A) (s := s807) (l := (tX f n E (by2 f (p + 2)))) hR1 hY1 (q116_s)) (fun v808 M809 q810 => ?_)
                      obtain ⟨rfl, rfl⟩ := q810
                      show pl _ _ _ (123, [(0, .ref m0), (1, .int (nI p)), (2, .int (nI (by2 f pF))), (3, .int (nI f0)), (4, .int (nI k)), (5, .int (nI (by2 f p)))], [.int (nI (unqN (tX f n E (by2 f (p + 2)))))], M1) _
                      refine ps_if (S1 := (136, [(0, .ref m0), (1, .int (nI p)), (2, .int (nI (by2 f pF))), (3, .int (nI f0)), (4, .int (nI k)), (5, .int (nI (by2 f p)))], [], M1)) (S2 := (126, [(0, .ref m0), (1, .int (nI p))], [], M1)) rfl rfl rfl (fun c_123 => ?_) (fun c_123 => ?_)
                      · have c_123 : ¬ (nI (unqN (tX f n E (by2 f (p + 2))))) = 0 := of_decide_eq_true c_123
                        have n_123 : ¬ (unqN (tX f n E (by2 f (p + 2))) = 0) := fun h9 => c_123 ((eq_nI (p := unqN (tX f n E (by2 f (p + 2)))) (n := 0) (Nat.lt_trans (le1_unq _) (by decide)) (by decide)).mpr h9)
                        refine ps_st (S' := (137, [(0, .ref m0), (1, .int (nI p)), (2, .int (nI (by2 f pF))), (3, .int (nI f0)), (4, .int (nI k)), (5, .int (nI (by2 f p)))], [.ref m0], M1)) rfl rfl rfl ?_
                        refine ps_st (S' := (138, [(0, .ref m0), (1, .int (nI p)), (2, .int (nI (by2 f pF))), (3, .int (nI f0)), (4, .int (nI k)), (5, .int (nI (by2 f p)))], [.ref m0, .ref m0], M1)) rfl rfl rfl ?_
                        refine ps_st (S' := (139, [(0, .ref m0), (1, .int (nI p)), (2, .int (nI (by2 f pF))), (3, .int (nI f0)), (4, .int (nI k)), (5, .int (nI (by2 f p)))], [.int (nI p), .ref m0, .ref m0], M1)) rfl rfl rfl ?_
                        refine ps_st (S' := (140, [(0, .ref m0), (1, .int (nI p)), (2, .int (nI (by2 f pF))), (3, .int (nI f0)), (4, .int (nI k)), (5, .int (nI (by2 f p)))], [.int 4, .int (nI p), .ref m0, .ref m0], M1)) rfl rfl rfl ?_
                        refine ps_st (S' := (141, [(0, .ref m0), (1, .int (nI p)), (2, .int (nI (by2 f pF))), (3, .int (nI f0)), (4, .int (nI k)), (5, .int (nI (by2 f p)))], [.int ((nI p) + 4), .ref m0, .ref m0], M1)) rfl rfl rfl ?_
                        rw [nI_add1 (p := p) (k := 4) (x := 4) rfl (by omega)]
                        show pl _ _ _ (_, [(0, .ref m0), (1, .int (nI p)), (2, .int (nI (by2 f pF))), (3, .int (nI f0)), (4, .int (nI k)), (5, .int (nI (by2 f p)))], [.int (nI (p + 4)), .ref m0, .ref m0], M1) _
                        refine pl_call (a := [.ref m0, .int (nI (p + 4))]) (rest := [.ref m0]) rfl rfl rfl (rd_u2 (n := n) (f := f) (p := (p + 4)) hR1 hF1 (by omega)) (fun v811 M812 q813 => ?_)
                        obtain ⟨rfl, rfl⟩ := q813
                        show pl _ _ _ (144, [(0, .ref m0), (1, .int (nI p)), (2, .int (nI (by2 f pF))), (3, .int (nI f0)), (4, .int (nI k)), (5, .int (nI (by2 f p)))], [.int (nI (by2 f (p + 4))), .ref m0], M1) _
                        have hu_141 := by2_lt f (p + 4)
                        refine pl_call (a := [.ref m0, .int (nI (by2 f (p + 4)))]) (rest := []) rfl rfl rfl (rd_tag (n := n) (f := f) (tx := tx) (cN := cN) (A := A) (N := N) (mj := mj) (E := E) (k := (by2 f (p + 4))) hR1 hl51 hl52 hl53 hF1 hY1 hP1 (hEP) (hN) (hmj) (by2_lt _ _)) (fun v814 M815 q816 => ?_)
                        obtain ⟨rfl, rfl⟩ := q816
                        show pl _ _ _ (147, [(0, .ref m0), (1, .int (nI p)), (2, .int (nI (by2 f pF))), (3, .int (nI f0)), (4, .int (nI k)), (5, .int (nI (by2 f p)))], [.int (nI (tg f E (by2 f (p + 4))))], M1) _
                        have htg_144 := tg_lt f E (by2 f (p + 4))
                        refine ps_st (S' := (148, [(0, .ref m0), (1, .int (nI p)), (2, .int (nI (by2 f pF))), (3, .int (nI f0)), (4, .int (nI k)), (5, .int (nI (by2 f p)))], [.int 1, .int (nI (tg f E (by2 f (p + 4))))], M1)) rfl rfl rfl ?_
                        refine ps_if2 (S1 := (169, [(0, .ref m0), (1, .int (nI p))], [], M1)) (S2 := (151, [(0, .ref m0), (1, .int (nI p)), (2, .int (nI (by2 f pF))), (3, .int (nI f0)), (4, .int (nI k)), (5, .int (nI (by2 f p)))], [], M1)) rfl rfl rfl (fun c_148 => ?_) (fun c_148 => ?_)
                        · have c_148 : ¬ (nI (tg f E (by2 f (p + 4)))) = 1 := of_decide_eq_true c_148
                          have n_148 : ¬ (tg f E (by2 f (p + 4)) = 1) := fun h9 => c_148 ((eq_nI (p := tg f E (by2 f (p + 4))) (n := 1) (Nat.lt_trans (tg_lt _ _ _) (by decide)) (by decide)).mpr h9)
                          refine ps_st (S' := (170, [(0, .ref m0), (1, .int (nI p))], [.ref m0], M1)) rfl rfl rfl ?_
                          refine ps_st (S' := (172, [(0, .ref m0), (1, .int (nI p))], [.int 21, .ref m0], M1)) rfl rfl rfl ?_
                          refine ps_st (S' := (173, [(0, .ref m0), (1, .int (nI p))], [.int (nI p), .int 21, .ref m0], M1)) rfl rfl rfl ?_
                          refine ps_st (S' := (174, [(0, .ref m0), (1, .int (nI p))], [.int 4, .int (nI p), .int 21, .ref m0], M1)) rfl rfl rfl ?_
                          refine ps_st (S' := (175, [(0, .ref m0), (1, .int (nI p))], [.int ((nI p) + 4), .int 21, .ref m0], M1)) rfl rfl rfl ?_
                          rw [nI_add1 (p := p) (k := 4) (x := 4) rfl (by omega)]
                          show pl _ _ _ (_, [(0, .ref m0), (1, .int (nI p))], [.int (nI (p + 4)), .int 21, .ref m0], M1) _
                          refine pl_call (a := [.ref m0, .int 21, .int (nI (p + 4))]) (rest := []) rfl rfl rfl (rd_wrong (x1 := 21) (x2 := (nI (p + 4))) hR1) (fun v817 M818 q819 => ?_)
                          obtain ⟨I820, R821, rfl, hR822, hI823, hX824, hi825, hi826⟩ := q819
                          have hi827 := (hI823 51 (by decide)).trans hl51
                          have hi828 := (hI823 52 (by decide)).trans hl52
                          have hi829 := (hI823 53 (by decide)).trans hl53
                          have hi830 := (hI823 58 (by decide)).trans hl58
                          have hi831 := (hI823 55 (by decide)).trans hl55
                          have hi832 := (hI823 25 (by decide)).trans hl25
                          have hF_833 := hF1.mono (cIx hI823 (by decide)) (cRx hX824 (by decide))
                          have hY_834 := hY1.mono (cIx hI823 (by decide)) (cRx hX824 (by decide))
                          have hP_835 := hP1.mono (cIx hI823 (by decide)) (cRx hX824 (by decide))
                          have hK_836 := hK1.mono (cIx hI823 (by decide)) (cRx hX824 (by decide))
                          have hN9_837 := hN91.mono (cIx hI823 (by decide)) (cRx hX824 (by decide))
                          have hEI838 := hEI1.tr hI823 (by decide)
                          have hER839 := hER1.tr hX824 (by decide)
                          show pl _ _ _ (178, [(0, .ref m0), (1, .int (nI p))], [.int 0], M818) _
                          exact ps_ret rfl rfl (Or.inr ⟨(21, p + 4), I820, R821, by
                              rw [← hs, flS_st (i := k) (by omega), ← hpk, fh_21 (by have e1 := ffl_0 cf (by2 f p); have e2 := sev_0 (by2 f p); have e3 := hall_80 (by2 f p); omega) (by omega) (by rw [tx_no (by omega)]; decide)], rfl, hR822, hEI838, hER839, hi825, hi826⟩)
                        · have c_148 : ¬ (¬ (nI (tg f E (by2 f (p + 4)))) = 1) := of_decide_eq_false c_148
                          have n_148 : tg f E (by2 f (p + 4)) = 1 := (eq_nI (p := tg f E (by2 f (p + 4))) (n := 1) (Nat.lt_trans (tg_lt _ _ _) (by decide)) (by decide)).mp (Decidable.not_not.mp c_148)
                          refine ps_st (S' := (152, [(0, .ref m0), (1, .int (nI p)), (2, .int (nI (by2 f pF))), (3, .int (nI f0)), (4, .int (nI k)), (5, .int (nI (by2 f p)))], [.ref m0], M1)) rfl rfl rfl ?_
                          refine ps_st (S' := (153, [(0, .ref m0), (1, .int (nI p)), (2, .int (nI (by2 f pF))), (3, .int (nI f0)), (4, .int (nI k)), (5, .int (nI (by2 f p)))], [.ref m0, .ref m0], M1)) rfl rfl rfl ?_
                          refine ps_st (S' := (154, [(0, .ref m0), (1, .int (nI p)), (2, .int (nI (by2 f pF))), (3, .int (nI f0)), (4, .int (nI k)), (5, .int (nI (by2 f p)))], [.ref m0, .ref m0, .ref m0], M1)) rfl rfl rfl ?_
                          refine ps_st (S' := (155, [(0, .ref m0), (1, .int (nI p)), (2, .int (nI (by2 f pF))), (3, .int (nI f0)), (4, .int (nI k)), (5, .int (nI (by2 f p)))], [.int (nI p), .ref m0, .ref m0, .ref m0], M1)) rfl rfl rfl ?_
                          refine ps_st (S' := (156, [(0, .ref m0), (1, .int (nI p)), (2, .int (nI (by2 f pF))), (3, .int (nI f0)), (4, .int (nI k)), (5, .int (nI (by2 f p)))], [.int 4, .int (nI p), .ref m0, .ref m0, .ref m0], M1)) rfl rfl rfl ?_
                          refine ps_st (S' := (157, [(0, .ref m0), (1, .int (nI p)), (2, .int (nI (by2 f pF))), (3, .int (nI f0)), (4, .int (nI k)), (5, .int (nI (by2 f p)))], [.int ((nI p) + 4), .ref m0, .ref m0, .ref m0], M1)) rfl rfl rfl ?_
                          rw [nI_add1 (p := p) (k := 4) (x := 4) rfl (by omega)]
                          show pl _ _ _ (_, [(0, .ref m0), (1, .int (nI p)), (2, .int (nI (by2 f pF))), (3, .int (nI f0)), (4, .int (nI k)), (5, .int (nI (by2 f p)))], [.int (nI (p + 4)), .ref m0, .ref m0, .ref m0], M1) _
                          refine pl_call (a := [.ref m0, .int (nI (p + 4))]) (rest := [.ref m0, .ref m0]) rfl rfl rfl (rd_u2 (n := n) (f := f) (p := (p + 4)) hR1 hF1 (by omega)) (fun v840 M841 q842 => ?_)
                          obtain ⟨rfl, rfl⟩ := q842
                          show pl _ _ _ (160, [(0, .ref m0), (1, .int (nI p)), (2, .int (nI (by2 f pF))), (3, .int (nI f0)), (4, .int (nI k)), (5, .int (nI (by2 f p)))], [.int (nI (by2 f (p + 4))), .ref m0, .ref m0], M1) _
                          have hu_157 := by2_lt f (p + 4)
                          refine pl_call (a := [.ref m0, .int (nI (by2 f (p + 4)))]) (rest := [.ref m0]) rfl rfl rfl (rd_symOf (n := n) (f := f) (tx := tx) (cN := cN) (A := A) (N := N) (mj := mj) (E := E) (k := (by2 f (p + 4))) hR1 hl51 hl52 hl53 hF1 hY1 hP1 (hEP) (hN) (hmj) (by omega)) (fun v843 M844 q845 => ?_)
                          obtain ⟨s846, q160_s, rfl, rfl⟩ := q845
                          show pl _ _ _ (163, [(0, .ref m0), (1, .int (nI p)), (2, .int (nI (by2 f pF))), (3, .int (nI f0)), (4, .int (nI k)), (5, .int (nI (by2 f p)))], [.int (nI s846), .ref m0], M1) _
                          have hsl_160 := q160_s.1
                          have htl_160 := hY1.1.2.2.1
                          refine pl_call (a := [.ref m0, .int (nI s846)]) (rest := []) rfl rfl rfl (rd_isField (tx := tx) (cN := cN) (A := A) (s := s846) (l := (tX f n E (by2 f (p + 4)))) hR1 hY1 (q160_s)) (fun v847 M848 q849 => ?_)
                          obtain ⟨rfl, rfl⟩ := q849
                          show pl _ _ _ (166, [(0, .ref m0), (1, .int (nI p)), (2, .int (nI (by2 f pF))), (3, .int (nI f0)), (4, .int (nI k)), (5, .int (nI (by2 f p)))], [.int (nI (fldN (tX f n E (by2 f (p + 4)))))], M1) _
                          refine ps_if (S1 := (179, [(0, .ref m0), (1, .int (nI p)), (2, .int (nI (by2 f pF))), (3, .int (nI f0)), (4, .int (nI k)), (5, .int (nI (by2 f p)))], [], M1)) (S2 := (169, [(0, .ref m0), (1, .int (nI p))], [], M1)) rfl rfl rfl (fun c_166 => ?_) (fun c_166 => ?_)
                          · have c_166 : ¬ (nI (fldN (tX f n E (by2 f (p + 4))))) = 0 := of_decide_eq_true c_166
                            have n_166 : ¬ (fldN (tX f n E (by2 f (p + 4))) = 0) := fun h9 => c_166 ((eq_nI (p := fldN (tX f n E (by2 f (p + 4)))) (n := 0) (Nat.lt_trans (le1_fld _) (by decide)) (by decide)).mpr h9)
                            refine ps_st (S' := (180, [(0, .ref m0), (1, .int (nI p)), (2, .int (nI (by2 f pF))), (3, .int (nI f0)), (4, .int (nI k)), (5, .int (nI (by2 f p)))], [.ref m0], M1)) rfl rfl rfl ?_
                            refine pr_int (j := 25) (S' := (183, [(0, .ref m0), (1, .int (nI p)), (2, .int (nI (by2 f pF))), (3, .int (nI f0)), (4, .int (nI k)), (5, .int (nI (by2 f p)))], [.int (nI (f0 + k))], M1)) rfl hR1 rfl hl25 rfl ?_
                            refine ps_st (S' := (185, [(6, .int (nI (f0 + k))), (0, .ref m0), (1, .int (nI p)), (2, .int (nI (by2 f pF))), (3, .int (nI f0)), (4, .int (nI k)), (5, .int (nI (by2 f p)))], [], M1)) rfl rfl rfl ?_
                            refine ps_st (S' := (186, [(6, .int (nI (f0 + k))), (0, .ref m0), (1, .int (nI p)), (2, .int (nI (by2 f pF))), (3, .int (nI f0)), (4, .int (nI k)), (5, .int (nI (by2 f p)))], [.ref m0], M1)) rfl rfl rfl ?_
                            refine pr_ref (j := 27) (S' := (189, [(6, .int (nI (f0 + k))), (0, .ref m0), (1, .int (nI p)), (2, .int (nI (by2 f pF))), (3, .int (nI f0)), (4, .int (nI k)), (5, .int (nI (by2 f p)))], [.ref (q 27)], M1)) rfl hR1 rfl rfl ?_
                            refine ps_st (S' := (191, [(6, .int (nI (f0 + k))), (0, .ref m0), (1, .int (nI p)), (2, .int (nI (by2 f pF))), (3, .int (nI f0)), (4, .int (nI k)), (5, .int (nI (by2 f p)))], [.int (nI (f0 + k)), .ref (q 27)], M1)) rfl rfl rfl ?_
                            refine ps_st (S' := (193, [(6, .int (nI (f0 + k))), (0, .ref m0), (1, .int (nI p)), (2, .int (nI (by2 f pF))), (3, .int (nI f0)), (4, .int (nI k)), (5, .int (nI (by2 f p)))], [.int (nI (by2 f p)), .int (nI (f0 + k)), .ref (q 27)], M1)) rfl rfl rfl ?_
                            refine pr_st (a := 27) (j := f0 + k) rfl hR1 rfl (by omega) (fun M850 R851 i1_193 hR852 hS853 => ?_)
                            have hF_854 := hF1.mono (fun _ _ => rfl) (rRx hS853 (by decide))
                            have hY_855 := hY1.mono (fun _ _ => rfl) (rRx hS853 (by decide))
                            have hP_856 := hP1.mono (fun _ _ => rfl) (rRx hS853 (by decide))
                            have hK_857 := hK1.mono (fun _ _ => rfl) (rRx hS853 (by decide))
                            have hN9_858 := hN91.mono (fun _ _ => rfl) (rRx hS853 (by decide))
                            have hER859 := hER1.st hS853 (by decide)
                            show pl _ _ _ (194, [(6, .int (nI (f0 + k))), (0, .ref m0), (1, .int (nI p)), (2, .int (nI (by2 f pF))), (3, .int (nI f0)), (4, .int (nI k)), (5, .int (nI (by2 f p)))], [], M850) _
                            have c27_860 : CE 27 (f0 + k) (nI (by2 f p)) I1 R851 := CE.st hS853
                            refine ps_st (S' := (195, [(6, .int (nI (f0 + k))), (0, .ref m0), (1, .int (nI p)), (2, .int (nI (by2 f pF))), (3, .int (nI f0)), (4, .int (nI k)), (5, .int (nI (by2 f p)))], [.ref m0], M850)) rfl rfl rfl ?_
                            refine pr_ref (j := 28) (S' := (198, [(6, .int (nI (f0 + k))), (0, .ref m0), (1, .int (nI p)), (2, .int (nI (by2 f pF))), (3, .int (nI f0)), (4, .int (nI k)), (5, .int (nI (by2 f p)))], [.ref (q 28)], M850)) rfl hR852 rfl rfl ?_
                            refine ps_st (S' := (200, [(6, .int (nI (f0 + k))), (0, .ref m0), (1, .int (nI p)), (2, .int (nI (by2 f pF))), (3, .int (nI f0)), (4, .int (nI k)), (5, .int (nI (by2 f p)))], [.int (nI (f0 + k)), .ref (q 28)], M850)) rfl rfl rfl ?_
                            refine ps_st (S' := (201, [(6, .int (nI (f0 + k))), (0, .ref m0), (1, .int (nI p)), (2, .int (nI (by2 f pF))), (3, .int (nI f0)), (4, .int (nI k)), (5, .int (nI (by2 f p)))], [.ref m0, .int (nI (f0 + k)), .ref (q 28)], M850)) rfl rfl rfl ?_
                            refine ps_st (S' := (202, [(6, .int (nI (f0 + k))), (0, .ref m0), (1, .int (nI p)), (2, .int (nI (by2 f pF))), (3, .int (nI f0)), (4, .int (nI k)), (5, .int (nI (by2 f p)))], [.ref m0, .ref m0, .int (nI (f0 + k)), .ref (q 28)], M850)) rfl rfl rfl ?_
                            refine ps_st (S' := (203, [(6, .int (nI (f0 + k))), (0, .ref m0), (1, .int (nI p)), (2, .int (nI (by2 f pF))), (3, .int (nI f0)), (4, .int (nI k)), (5, .int (nI (by2 f p)))], [.int (nI p), .ref m0, .ref m0, .int (nI (f0 + k)), .ref (q 28)], M850)) rfl rfl rfl ?_
                            refine ps_st (S' := (204, [(6, .int (nI (f0 + k))), (0, .ref m0), (1, .int (nI p)), (2, .int (nI (by2 f pF))), (3, .int (nI f0)), (4, .int (nI k)), (5, .int (nI (by2 f p)))], [.int 2, .int (nI p), .ref m0, .ref m0, .int (nI (f0 + k)), .ref (q 28)], M850)) rfl rfl rfl ?_
                            refine ps_st (S' := (205, [(6, .int (nI (f0 + k))), (0, .ref m0), (1, .int (nI p)), (2, .int (nI (by2 f pF))), (3, .int (nI f0)), (4, .int (nI k)), (5, .int (nI (by2 f p)))], [.int ((nI p) + 2), .ref m0, .ref m0, .int (nI (f0 + k)), .ref (q 28)], M850)) rfl rfl rfl ?_
                            rw [nI_add1 (p := p) (k := 2) (x := 2) rfl (by omega)]
                            show pl _ _ _ (_, [(6, .int (nI (f0 + k))), (0, .ref m0), (1, .int (nI p)), (2, .int (nI (by2 f pF))), (3, .int (nI f0)), (4, .int (nI k)), (5, .int (nI (by2 f p)))], [.int (nI (p + 2)), .ref m0, .ref m0, .int (nI (f0 + k)), .ref (q 28)], M850) _
                            refine pl_call (a := [.ref m0, .int (nI (p + 2))]) (rest := [.ref m0, .int (nI (f0 + k)), .ref (q 28)]) rfl rfl rfl (rd_u2 (n := n) (f := f) (p := (p + 2)) hR852 hF_854 (by omega)) (fun v861 M862 q863 => ?_)
                            obtain ⟨rfl, rfl⟩ := q863
                            show pl _ _ _ (208, [(6, .int (nI (f0 + k))), (0, .ref m0), (1, .int (nI p)), (2, .int (nI (by2 f pF))), (3, .int (nI f0)), (4, .int (nI k)), (5, .int (nI (by2 f p)))], [.int (nI (by2 f (p + 2))), .ref m0, .int (nI (f0 + k)), .ref (q 28)], M850) _
                            have hu_205 := by2_lt f (p + 2)
                            refine pl_call (a := [.ref m0, .int (nI (by2 f (p + 2)))]) (rest := [.int (nI (f0 + k)), .ref (q 28)]) rfl rfl rfl (rd_symOf (n := n) (f := f) (tx := tx) (cN := cN) (A := A) (N := N) (mj := mj) (E := E) (k := (by2 f (p + 2))) hR852 hl51 hl52 hl53 hF_854 hY_855 hP_856 (hEP) (hN) (hmj) (by omega)) (fun v864 M865 q866 => ?_)
                            obtain ⟨s867, q208_s, rfl, rfl⟩ := q866
                            show pl _ _ _ (211, [(6, .int (nI (f0 + k))), (0, .ref m0), (1, .int (nI p)), (2, .int (nI (by2 f pF))), (3, .int (nI f0)), (4, .int (nI k)), (5, .int (nI (by2 f p)))], [.int (nI s867), .int (nI (f0 + k)), .ref (q 28)], M850) _
                            have hsl_208 := q208_s.1
                            have htl_208 := hY_855.1.2.2.1
                            refine pr_st (a := 28) (j := f0 + k) rfl hR852 rfl (by omega) (fun M868 R869 i1_211 hR870 hS871 => ?_)
                            have hF_872 := hF_854.mono (fun _ _ => rfl) (rRx hS871 (by decide))
                            have hY_873 := hY_855.mono (fun _ _ => rfl) (rRx hS871 (by decide))
                            have hP_874 := hP_856.mono (fun _ _ => rfl) (rRx hS871 (by decide))
                            have hK_875 := hK_857.mono (fun _ _ => rfl) (rRx hS871 (by decide))
                            have c27_876 := c27_860.mono (fun _ _ => rfl) (rRx hS871 (by decide))
                            have hER877 := hER859.st hS871 (by decide)
                            show pl _ _ _ (212, [(6, .int (nI (f0 + k))), (0, .ref m0), (1, .int (nI p)), (2, .int (nI (by2 f pF))), (3, .int (nI f0)), (4, .int (nI k)), (5, .int (nI (by2 f p)))], [], M868) _
                            have c28_878 : CE 28 (f0 + k) (nI s867) I1 R869 := CE.st hS871
                            have hN9_879 := FN.st (I' := I1) hN9_858 hS871 rfl
                            refine ps_st (S' := (213, [(6, .int (nI (f0 + k))), (0, .ref m0), (1, .int (nI p)), (2, .int (nI (by2 f pF))), (3, .int (nI f0)), (4, .int (nI k)), (5, .int (nI (by2 f p)))], [.ref m0], M868)) rfl rfl rfl ?_
                            refine pr_ref (j := 29) (S' := (216, [(6, .int (nI (f0 + k))), (0, .ref m0), (1, .int (nI p)), (2, .int (nI (by2 f pF))), (3, .int (nI f0)), (4, .int (nI k)), (5, .int (nI (by2 f p)))], [.ref (q 29)], M868)) rfl hR870 rfl rfl ?_
                            refine ps_st (S' := (218, [(6, .int (nI (f0 + k))), (0, .ref m0), (1, .int (nI p)), (2, .int (nI (by2 f pF))), (3, .int (nI f0)), (4, .int (nI k)), (5, .int (nI (by2 f p)))], [.int (nI (f0 + k)), .ref (q 29)], M868)) rfl rfl rfl ?_
                            refine ps_st (S' := (219, [(6, .int (nI (f0 + k))), (0, .ref m0), (1, .int (nI p)), (2, .int (nI (by2 f pF))), (3, .int (nI f0)), (4, .int (nI k)), (5, .int (nI (by2 f p)))], [.ref m0, .int (nI (f0 + k)), .ref (q 29)], M868)) rfl rfl rfl ?_
                            refine ps_st (S' := (220, [(6, .int (nI (f0 + k))), (0, .ref m0), (1, .int (nI p)), (2, .int (nI (by2 f pF))), (3, .int (nI f0)), (4, .int (nI k)), (5, .int (nI (by2 f p)))], [.ref m0, .ref m0, .int (nI (f0 + k)), .ref (q 29)], M868)) rfl rfl rfl ?_
                            refine ps_st (S' := (221, [(6, .int (nI (f0 + k))), (0, .ref m0), (1, .int (nI p)), (2, .int (nI (by2 f pF))), (3, .int (nI f0)), (4, .int (nI k)), (5, .int (nI (by2 f p)))], [.int (nI p), .ref m0, .ref m0, .int (nI (f0 + k)), .ref (q 29)], M868)) rfl rfl rfl ?_
                            refine ps_st (S' := (222, [(6, .int (nI (f0 + k))), (0, .ref m0), (1, .int (nI p)), (2, .int (nI (by2 f pF))), (3, .int (nI f0)), (4, .int (nI k)), (5, .int (nI (by2 f p)))], [.int 4, .int (nI p), .ref m0, .ref m0, .int (nI (f0 + k)), .ref (q 29)], M868)) rfl rfl rfl ?_
                            refine ps_st (S' := (223, [(6, .int (nI (f0 + k))), (0, .ref m0), (1, .int (nI p)), (2, .int (nI (by2 f pF))), (3, .int (nI f0)), (4, .int (nI k)), (5, .int (nI (by2 f p)))], [.int ((nI p) + 4), .ref m0, .ref m0, .int (nI (f0 + k)), .ref (q 29)], M868)) rfl rfl rfl ?_
                            rw [nI_add1 (p := p) (k := 4) (x := 4) rfl (by omega)]
                            show pl _ _ _ (_, [(6, .int (nI (f0 + k))), (0, .ref m0), (1, .int (nI p)), (2, .int (nI (by2 f pF))), (3, .int (nI f0)), (4, .int (nI k)), (5, .int (nI (by2 f p)))], [.int (nI (p + 4)), .ref m0, .ref m0, .int (nI (f0 + k)), .ref (q 29)], M868) _
                            refine pl_call (a := [.ref m0, .int (nI (p + 4))]) (rest := [.ref m0, .int (nI (f0 + k)), .ref (q 29)]) rfl rfl rfl (rd_u2 (n := n) (f := f) (p := (p + 4)) hR870 hF_872 (by omega)) (fun v880 M881 q882 => ?_)
                            obtain ⟨rfl, rfl⟩ := q882
                            show pl _ _ _ (226, [(6, .int (nI (f0 + k))), (0, .ref m0), (1, .int (nI p)), (2, .int (nI (by2 f pF))), (3, .int (nI f0)), (4, .int (nI k)), (5, .int (nI (by2 f p)))], [.int (nI (by2 f (p + 4))), .ref m0, .int (nI (f0 + k)), .ref (q 29)], M868) _
                            have hu_223 := by2_lt f (p + 4)
                            refine pl_call (a := [.ref m0, .int (nI (by2 f (p + 4)))]) (rest := [.int (nI (f0 + k)), .ref (q 29)]) rfl rfl rfl (rd_symOf (n := n) (f := f) (tx := tx) (cN := cN) (A := A) (N := N) (mj := mj) (E := E) (k := (by2 f (p + 4))) hR870 hl51 hl52 hl53 hF_872 hY_873 hP_874 (hEP) (hN) (hmj) (by omega)) (fun v883 M884 q885 => ?_)
                            obtain ⟨s886, q226_s, rfl, rfl⟩ := q885
                            show pl _ _ _ (229, [(6, .int (nI (f0 + k))), (0, .ref m0), (1, .int (nI p)), (2, .int (nI (by2 f pF))), (3, .int (nI f0)), (4, .int (nI k)), (5, .int (nI (by2 f p)))], [.int (nI s886), .int (nI (f0 + k)), .ref (q 29)], M868) _
                            have hsl_226 := q226_s.1
                            have htl_226 := hY_873.1.2.2.1
                            refine pr_st (a := 29) (j := f0 + k) rfl hR870 rfl (by omega) (fun M887 R888 i1_229 hR889 hS890 => ?_)
                            have hF_891 := hF_872.mono (fun _ _ => rfl) (rRx hS890 (by decide))
                            have hY_892 := hY_873.mono (fun _ _ => rfl) (rRx hS890 (by decide))
                            have hP_893 := hP_874.mono (fun _ _ => rfl) (rRx hS890 (by decide))
                            have hK_894 := hK_875.mono (fun _ _ => rfl) (rRx hS890 (by decide))
                            have c27_895 := c27_876.mono (fun _ _ => rfl) (rRx hS890 (by decide))
                            have c28_896 := c28_878.mono (fun _ _ => rfl) (rRx hS890 (by decide))
                            have hER897 := hER877.st hS890 (by decide)
                            show pl _ _ _ (230, [(6, .int (nI (f0 + k))), (0, .ref m0), (1, .int (nI p)), (2, .int (nI (by2 f pF))), (3, .int (nI f0)), (4, .int (nI k)), (5, .int (nI (by2 f p)))], [], M887) _
                            have c29_898 : CE 29 (f0 + k) (nI s886) I1 R888 := CE.st hS890
                            have hN9_899 := FN.st (I' := I1) hN9_879 hS890 rfl
                            refine ps_st (S' := (231, [(6, .int (nI (f0 + k))), (0, .ref m0), (1, .int (nI p)), (2, .int (nI (by2 f pF))), (3, .int (nI f0)), (4, .int (nI k)), (5, .int (nI (by2 f p)))], [.ref m0], M887)) rfl rfl rfl ?_
                            refine pr_ref (j := 30) (S' := (234, [(6, .int (nI (f0 + k))), (0, .ref m0), (1, .int (nI p)), (2, .int (nI (by2 f pF))), (3, .int (nI f0)), (4, .int (nI k)), (5, .int (nI (by2 f p)))], [.ref (q 30)], M887)) rfl hR889 rfl rfl ?_
                            refine ps_st (S' := (236, [(6, .int (nI (f0 + k))), (0, .ref m0), (1, .int (nI p)), (2, .int (nI (by2 f pF))), (3, .int (nI f0)), (4, .int (nI k)), (5, .int (nI (by2 f p)))], [.int (nI (f0 + k)), .ref (q 30)], M887)) rfl rfl rfl ?_
                            refine ps_st (S' := (237, [(6, .int (nI (f0 + k))), (0, .ref m0), (1, .int (nI p)), (2, .int (nI (by2 f pF))), (3, .int (nI f0)), (4, .int (nI k)), (5, .int (nI (by2 f p)))], [.int 0, .int (nI (f0 + k)), .ref (q 30)], M887)) rfl rfl rfl ?_
                            refine pr_st (a := 30) (j := f0 + k) rfl hR889 rfl (by omega) (fun M900 R901 i1_237 hR902 hS903 => ?_)
                            have hF_904 := hF_891.mono (fun _ _ => rfl) (rRx hS903 (by decide))
                            have hY_905 := hY_892.mono (fun _ _ => rfl) (rRx hS903 (by decide))
                            have hP_906 := hP_893.mono (fun _ _ => rfl) (rRx hS903 (by decide))
                            have hK_907 := hK_894.mono (fun _ _ => rfl) (rRx hS903 (by decide))
                            have c27_908 := c27_895.mono (fun _ _ => rfl) (rRx hS903 (by decide))
                            have c28_909 := c28_896.mono (fun _ _ => rfl) (rRx hS903 (by decide))
                            have c29_910 := c29_898.mono (fun _ _ => rfl) (rRx hS903 (by decide))
                            have hN9_911 := hN9_899.mono (fun _ _ => rfl) (rRx hS903 (by decide))
                            have hER912 := hER897.st hS903 (by decide)
                            show pl _ _ _ (238, [(6, .int (nI (f0 + k))), (0, .ref m0), (1, .int (nI p)), (2, .int (nI (by2 f pF))), (3, .int (nI f0)), (4, .int (nI k)), (5, .int (nI (by2 f p)))], [], M900) _
                            refine ps_st (S' := (239, [(6, .int (nI (f0 + k))), (0, .ref m0), (1, .int (nI p)), (2, .int (nI (by2 f pF))), (3, .int (nI f0)), (4, .int (nI k)), (5, .int (nI (by2 f p)))], [.ref m0], M900)) rfl rfl rfl ?_
                            refine pr_ref (j := 31) (S' := (242, [(6, .int (nI (f0 + k))), (0, .ref m0), (1, .int (nI p)), (2, .int (nI (by2 f pF))), (3, .int (nI f0)), (4, .int (nI k)), (5, .int (nI (by2 f p)))], [.ref (q 31)], M900)) rfl hR902 rfl rfl ?_
                            refine ps_st (S' := (244, [(6, .int (nI (f0 + k))), (0, .ref m0), (1, .int (nI p)), (2, .int (nI (by2 f pF))), (3, .int (nI f0)), (4, .int (nI k)), (5, .int (nI (by2 f p)))], [.int (nI (f0 + k)), .ref (q 31)], M900)) rfl rfl rfl ?_
                            refine ps_st (S' := (245, [(6, .int (nI (f0 + k))), (0, .ref m0), (1, .int (nI p)), (2, .int (nI (by2 f pF))), (3, .int (nI f0)), (4, .int (nI k)), (5, .int (nI (by2 f p)))], [.int 0, .int (nI (f0 + k)), .ref (q 31)], M900)) rfl rfl rfl ?_
                            refine pr_st (a := 31) (j := f0 + k) rfl hR902 rfl (by omega) (fun M913 R914 i1_245 hR915 hS916 => ?_)
                            have hF_917 := hF_904.mono (fun _ _ => rfl) (rRx hS916 (by decide))
                            have hY_918 := hY_905.mono (fun _ _ => rfl) (rRx hS916 (by decide))
                            have hP_919 := hP_906.mono (fun _ _ => rfl) (rRx hS916 (by decide))
                            have hK_920 := hK_907.mono (fun _ _ => rfl) (rRx hS916 (by decide))
                            have c27_921 := c27_908.mono (fun _ _ => rfl) (rRx hS916 (by decide))
                            have c28_922 := c28_909.mono (fun _ _ => rfl) (rRx hS916 (by decide))
                            have c29_923 := c29_910.mono (fun _ _ => rfl) (rRx hS916 (by decide))
                            have hN9_924 := hN9_911.mono (fun _ _ => rfl) (rRx hS916 (by decide))
                            have hER925 := hER912.st hS916 (by decide)
                            show pl _ _ _ (246, [(6, .int (nI (f0 + k))), (0, .ref m0), (1, .int (nI p)), (2, .int (nI (by2 f pF))), (3, .int (nI f0)), (4, .int (nI k)), (5, .int (nI (by2 f p)))], [], M913) _
                            refine ps_st (S' := (247, [(6, .int (nI (f0 + k))), (0, .ref m0), (1, .int (nI p)), (2, .int (nI (by2 f pF))), (3, .int (nI f0)), (4, .int (nI k)), (5, .int (nI (by2 f p)))], [.ref m0], M913)) rfl rfl rfl ?_
                            refine pr_ref (j := 32) (S' := (250, [(6, .int (nI (f0 + k))), (0, .ref m0), (1, .int (nI p)), (2, .int (nI (by2 f pF))), (3, .int (nI f0)), (4, .int (nI k)), (5, .int (nI (by2 f p)))], [.ref (q 32)], M913)) rfl hR915 rfl rfl ?_
                            refine ps_st (S' := (252, [(6, .int (nI (f0 + k))), (0, .ref m0), (1, .int (nI p)), (2, .int (nI (by2 f pF))), (3, .int (nI f0)), (4, .int (nI k)), (5, .int (nI (by2 f p)))], [.int (nI (f0 + k)), .ref (q 32)], M913)) rfl rfl rfl ?_
                            refine ps_st (S' := (253, [(6, .int (nI (f0 + k))), (0, .ref m0), (1, .int (nI p)), (2, .int (nI (by2 f pF))), (3, .int (nI f0)), (4, .int (nI k)), (5, .int (nI (by2 f p)))], [.ref m0, .int (nI (f0 + k)), .ref (q 32)], M913)) rfl rfl rfl ?_
                            refine ps_st (S' := (254, [(6, .int (nI (f0 + k))), (0, .ref m0), (1, .int (nI p)), (2, .int (nI (by2 f pF))), (3, .int (nI f0)), (4, .int (nI k)), (5, .int (nI (by2 f p)))], [.int (nI p), .ref m0, .int (nI (f0 + k)), .ref (q 32)], M913)) rfl rfl rfl ?_
                            refine ps_st (S' := (255, [(6, .int (nI (f0 + k))), (0, .ref m0), (1, .int (nI p)), (2, .int (nI (by2 f pF))), (3, .int (nI f0)), (4, .int (nI k)), (5, .int (nI (by2 f p)))], [.int 2, .int (nI p), .ref m0, .int (nI (f0 + k)), .ref (q 32)], M913)) rfl rfl rfl ?_
                            refine ps_st (S' := (256, [(6, .int (nI (f0 + k))), (0, .ref m0), (1, .int (nI p)), (2, .int (nI (by2 f pF))), (3, .int (nI f0)), (4, .int (nI k)), (5, .int (nI (by2 f p)))], [.int ((nI p) + 2), .ref m0, .int (nI (f0 + k)), .ref (q 32)], M913)) rfl rfl rfl ?_
                            rw [nI_add1 (p := p) (k := 2) (x := 2) rfl (by omega)]
                            show pl _ _ _ (_, [(6, .int (nI (f0 + k))), (0, .ref m0), (1, .int (nI p)), (2, .int (nI (by2 f pF))), (3, .int (nI f0)), (4, .int (nI k)), (5, .int (nI (by2 f p)))], [.int (nI (p + 2)), .ref m0, .int (nI (f0 + k)), .ref (q 32)], M913) _
                            refine pl_call (a := [.ref m0, .int (nI (p + 2))]) (rest := [.int (nI (f0 + k)), .ref (q 32)]) rfl rfl rfl (rd_u2 (n := n) (f := f) (p := (p + 2)) hR915 hF_917 (by omega)) (fun v926 M927 q928 => ?_)
                            obtain ⟨rfl, rfl⟩ := q928
                            show pl _ _ _ (259, [(6, .int (nI (f0 + k))), (0, .ref m0), (1, .int (nI p)), (2, .int (nI (by2 f pF))), (3, .int (nI f0)), (4, .int (nI k)), (5, .int (nI (by2 f p)))], [.int (nI (by2 f (p + 2))), .int (nI (f0 + k)), .ref (q 32)], M913) _
                            have hu_256 := by2_lt f (p + 2)
                            refine pr_st (a := 32) (j := f0 + k) rfl hR915 rfl (by omega) (fun M929 R930 i1_259 hR931 hS932 => ?_)
                            have hF_933 := hF_917.mono (fun _ _ => rfl) (rRx hS932 (by decide))
                            have hY_934 := hY_918.mono (fun _ _ => rfl) (rRx hS932 (by decide))
                            have hP_935 := hP_919.mono (fun _ _ => rfl) (rRx hS932 (by decide))
                            have hK_936 := hK_920.mono (fun _ _ => rfl) (rRx hS932 (by decide))
                            have c27_937 := c27_921.mono (fun _ _ => rfl) (rRx hS932 (by decide))
                            have c28_938 := c28_922.mono (fun _ _ => rfl) (rRx hS932 (by decide))
                            have c29_939 := c29_923.mono (fun _ _ => rfl) (rRx hS932 (by decide))
                            have hN9_940 := hN9_924.mono (fun _ _ => rfl) (rRx hS932 (by decide))
                            have hER941 := hER925.st hS932 (by decide)
                            show pl _ _ _ (260, [(6, .int (nI (f0 + k))), (0, .ref m0), (1, .int (nI p)), (2, .int (nI (by2 f pF))), (3, .int (nI f0)), (4, .int (nI k)), (5, .int (nI (by2 f p)))], [], M929) _
                            refine ps_st (S' := (261, [(6, .int (nI (f0 + k))), (0, .ref m0), (1, .int (nI p)), (2, .int (nI (by2 f pF))), (3, .int (nI f0)), (4, .int (nI k)), (5, .int (nI (by2 f p)))], [.ref m0], M929)) rfl rfl rfl ?_
                            refine pr_ref (j := 33) (S' := (264, [(6, .int (nI (f0 + k))), (0, .ref m0), (1, .int (nI p)), (2, .int (nI (by2 f pF))), (3, .int (nI f0)), (4, .int (nI k)), (5, .int (nI (by2 f p)))], [.ref (q 33)], M929)) rfl hR931 rfl rfl ?_
                            refine ps_st (S' := (266, [(6, .int (nI (f0 + k))), (0, .ref m0), (1, .int (nI p)), (2, .int (nI (by2 f pF))), (3, .int (nI f0)), (4, .int (nI k)), (5, .int (nI (by2 f p)))], [.int (nI (f0 + k)), .ref (q 33)], M929)) rfl rfl rfl ?_
                            refine ps_st (S' := (267, [(6, .int (nI (f0 + k))), (0, .ref m0), (1, .int (nI p)), (2, .int (nI (by2 f pF))), (3, .int (nI f0)), (4, .int (nI k)), (5, .int (nI (by2 f p)))], [.ref m0, .int (nI (f0 + k)), .ref (q 33)], M929)) rfl rfl rfl ?_
                            refine ps_st (S' := (268, [(6, .int (nI (f0 + k))), (0, .ref m0), (1, .int (nI p)), (2, .int (nI (by2 f pF))), (3, .int (nI f0)), (4, .int (nI k)), (5, .int (nI (by2 f p)))], [.int (nI p), .ref m0, .int (nI (f0 + k)), .ref (q 33)], M929)) rfl rfl rfl ?_
                            refine ps_st (S' := (269, [(6, .int (nI (f0 + k))), (0, .ref m0), (1, .int (nI p)), (2, .int (nI (by2 f pF))), (3, .int (nI f0)), (4, .int (nI k)), (5, .int (nI (by2 f p)))], [.int 4, .int (nI p), .ref m0, .int (nI (f0 + k)), .ref (q 33)], M929)) rfl rfl rfl ?_
                            refine ps_st (S' := (270, [(6, .int (nI (f0 + k))), (0, .ref m0), (1, .int (nI p)), (2, .int (nI (by2 f pF))), (3, .int (nI f0)), (4, .int (nI k)), (5, .int (nI (by2 f p)))], [.int ((nI p) + 4), .ref m0, .int (nI (f0 + k)), .ref (q 33)], M929)) rfl rfl rfl ?_
                            rw [nI_add1 (p := p) (k := 4) (x := 4) rfl (by omega)]
                            show pl _ _ _ (_, [(6, .int (nI (f0 + k))), (0, .ref m0), (1, .int (nI p)), (2, .int (nI (by2 f pF))), (3, .int (nI f0)), (4, .int (nI k)), (5, .int (nI (by2 f p)))], [.int (nI (p + 4)), .ref m0, .int (nI (f0 + k)), .ref (q 33)], M929) _
                            refine pl_call (a := [.ref m0, .int (nI (p + 4))]) (rest := [.int (nI (f0 + k)), .ref (q 33)]) rfl rfl rfl (rd_u2 (n := n) (f := f) (p := (p + 4)) hR931 hF_933 (by omega)) (fun v942 M943 q944 => ?_)
                            obtain ⟨rfl, rfl⟩ := q944
                            show pl _ _ _ (273, [(6, .int (nI (f0 + k))), (0, .ref m0), (1, .int (nI p)), (2, .int (nI (by2 f pF))), (3, .int (nI f0)), (4, .int (nI k)), (5, .int (nI (by2 f p)))], [.int (nI (by2 f (p + 4))), .int (nI (f0 + k)), .ref (q 33)], M929) _
                            have hu_270 := by2_lt f (p + 4)
                            refine pr_st (a := 33) (j := f0 + k) rfl hR931 rfl (by omega) (fun M945 R946 i1_273 hR947 hS948 => ?_)
                            have hF_949 := hF_933.mono (fun _ _ => rfl) (rRx hS948 (by decide))
                            have hY_950 := hY_934.mono (fun _ _ => rfl) (rRx hS948 (by decide))
                            have hP_951 := hP_935.mono (fun _ _ => rfl) (rRx hS948 (by decide))
                            have hK_952 := hK_936.mono (fun _ _ => rfl) (rRx hS948 (by decide))
                            have c27_953 := c27_937.mono (fun _ _ => rfl) (rRx hS948 (by decide))
                            have c28_954 := c28_938.mono (fun _ _ => rfl) (rRx hS948 (by decide))
                            have c29_955 := c29_939.mono (fun _ _ => rfl) (rRx hS948 (by decide))
                            have hN9_956 := hN9_940.mono (fun _ _ => rfl) (rRx hS948 (by decide))
                            have hER957 := hER941.st hS948 (by decide)
                            show pl _ _ _ (274, [(6, .int (nI (f0 + k))), (0, .ref m0), (1, .int (nI p)), (2, .int (nI (by2 f pF))), (3, .int (nI f0)), (4, .int (nI k)), (5, .int (nI (by2 f p)))], [], M945) _
                            refine ps_st (S' := (275, [(6, .int (nI (f0 + k))), (0, .ref m0), (1, .int (nI p)), (2, .int (nI (by2 f pF))), (3, .int (nI f0)), (4, .int (nI k)), (5, .int (nI (by2 f p)))], [.int (nI f0)], M945)) rfl rfl rfl ?_
                            refine ps_st (S' := (277, [(0, .ref m0), (1, .int (nI p)), (2, .int (nI (by2 f pF))), (3, .int (nI f0)), (4, .int (nI k)), (6, .int (nI (f0 + k))), (7, .int (nI f0))], [], M945)) rfl rfl rfl ?_
                            have h19 : ¬ fflN cf (by2 f p) = 0 := by
                              have e1 := ffl_0 cf (by2 f p)
                              have e2 := sev_0 (by2 f p)
                              have e3 := hall_80 (by2 f p)
                              omega
                            exact ih.2 (k) (p) (0) (s867) (s886) M945 I1 R946 hR947 hEI1 hER957 hl51 hl52 hl53 hl58 hl55 hl25 hF_949 hY_950 hP_951 hK_952 hN9_956 c27_953 c28_954 c29_955 (by omega) (hpk) (by omega) (hs) (by omega) (by omega) (q208_s) (q226_s) (by omega) (by omega) (h19) (by omega) (by omega) (rfl)
                          · have c_166 : ¬ (¬ (nI (fldN (tX f n E (by2 f (p + 4))))) = 0) := of_decide_eq_false c_166
                            have n_166 : fldN (tX f n E (by2 f (p + 4))) = 0 := (eq_nI (p := fldN (tX f n E (by2 f (p + 4)))) (n := 0) (Nat.lt_trans (le1_fld _) (by decide)) (by decide)).mp (Decidable.not_not.mp c_166)
                            refine ps_st (S' := (170, [(0, .ref m0), (1, .int (nI p))], [.ref m0], M1)) rfl rfl rfl ?_
                            refine ps_st (S' := (172, [(0, .ref m0), (1, .int (nI p))], [.int 21, .ref m0], M1)) rfl rfl rfl ?_
                            refine ps_st (S' := (173, [(0, .ref m0), (1, .int (nI p))], [.int (nI p), .int 21, .ref m0], M1)) rfl rfl rfl ?_
                            refine ps_st (S' := (174, [(0, .ref m0), (1, .int (nI p))], [.int 4, .int (nI p), .int 21, .ref m0], M1)) rfl rfl rfl ?_
                            refine ps_st (S' := (175, [(0, .ref m0), (1, .int (nI p))], [.int ((nI p) + 4), .int 21, .ref m0], M1)) rfl rfl rfl ?_
                            rw [nI_add1 (p := p) (k := 4) (x := 4) rfl (by omega)]
                            show pl _ _ _ (_, [(0, .ref m0), (1, .int (nI p))], [.int (nI (p + 4)), .int 21, .ref m0], M1) _
                            refine pl_call (a := [.ref m0, .int 21, .int (nI (p + 4))]) (rest := []) rfl rfl rfl (rd_wrong (x1 := 21) (x2 := (nI (p + 4))) hR1) (fun v958 M959 q960 => ?_)
                            obtain ⟨I961, R962, rfl, hR963, hI964, hX965, hi966, hi967⟩ := q960
                            have hi968 := (hI964 51 (by decide)).trans hl51
                            have hi969 := (hI964 52 (by decide)).trans hl52
                            have hi970 := (hI964 53 (by decide)).trans hl53
                            have hi971 := (hI964 58 (by decide)).trans hl58
                            have hi972 := (hI964 55 (by decide)).trans hl55
                            have hi973 := (hI964 25 (by decide)).trans hl25
                            have hF_974 := hF1.mono (cIx hI964 (by decide)) (cRx hX965 (by decide))
                            have hY_975 := hY1.mono (cIx hI964 (by decide)) (cRx hX965 (by decide))
                            have hP_976 := hP1.mono (cIx hI964 (by decide)) (cRx hX965 (by decide))
                            have hK_977 := hK1.mono (cIx hI964 (by decide)) (cRx hX965 (by decide))
                            have hN9_978 := hN91.mono (cIx hI964 (by decide)) (cRx hX965 (by decide))
                            have hEI979 := hEI1.tr hI964 (by decide)
                            have hER980 := hER1.tr hX965 (by decide)
                            show pl _ _ _ (178, [(0, .ref m0), (1, .int (nI p))], [.int 0], M959) _
                            exact ps_ret rfl rfl (Or.inr ⟨(21, p + 4), I961, R962, by
                                rw [← hs, flS_st (i := k) (by omega), ← hpk, fh_21 (by have e1 := ffl_0 cf (by2 f p); have e2 := sev_0 (by2 f p); have e3 := hall_80 (by2 f p); omega) (by omega) (by omega)], rfl, hR963, hEI979, hER980, hi966, hi967⟩)
                      · have c_123 : ¬ (¬ (nI (unqN (tX f n E (by2 f (p + 2))))) = 0) := of_decide_eq_false c_123
                        have n_123 : unqN (tX f n E (by2 f (p + 2))) = 0 := (eq_nI (p := unqN (tX f n E (by2 f (p + 2)))) (n := 0) (Nat.lt_trans (le1_unq _) (by decide)) (by decide)).mp (Decidable.not_not.mp c_123)
                        refine ps_st (S' := (127, [(0, .ref m0), (1, .int (nI p))], [.ref m0], M1)) rfl rfl rfl ?_
                        refine ps_st (S' := (129, [(0, .ref m0), (1, .int (nI p))], [.int 20, .ref m0], M1)) rfl rfl rfl ?_
                        refine ps_st (S' := (130, [(0, .ref m0), (1, .int (nI p))], [.int (nI p), .int 20, .ref m0], M1)) rfl rfl rfl ?_
                        refine ps_st (S' := (131, [(0, .ref m0), (1, .int (nI p))], [.int 2, .int (nI p), .int 20, .ref m0], M1)) rfl rfl rfl ?_
                        refine ps_st (S' := (132, [(0, .ref m0), (1, .int (nI p))], [.int ((nI p) + 2), .int 20, .ref m0], M1)) rfl rfl rfl ?_
                        rw [nI_add1 (p := p) (k := 2) (x := 2) rfl (by omega)]
                        show pl _ _ _ (_, [(0, .ref m0), (1, .int (nI p))], [.int (nI (p + 2)), .int 20, .ref m0], M1) _
                        refine pl_call (a := [.ref m0, .int 20, .int (nI (p + 2))]) (rest := []) rfl rfl rfl (rd_wrong (x1 := 20) (x2 := (nI (p + 2))) hR1) (fun v981 M982 q983 => ?_)
                        obtain ⟨I984, R985, rfl, hR986, hI987, hX988, hi989, hi990⟩ := q983
                        have hi991 := (hI987 51 (by decide)).trans hl51
                        have hi992 := (hI987 52 (by decide)).trans hl52
                        have hi993 := (hI987 53 (by decide)).trans hl53
                        have hi994 := (hI987 58 (by decide)).trans hl58
                        have hi995 := (hI987 55 (by decide)).trans hl55
                        have hi996 := (hI987 25 (by decide)).trans hl25
                        have hF_997 := hF1.mono (cIx hI987 (by decide)) (cRx hX988 (by decide))
                        have hY_998 := hY1.mono (cIx hI987 (by decide)) (cRx hX988 (by decide))
                        have hP_999 := hP1.mono (cIx hI987 (by decide)) (cRx hX988 (by decide))
                        have hK_1000 := hK1.mono (cIx hI987 (by decide)) (cRx hX988 (by decide))
                        have hN9_1001 := hN91.mono (cIx hI987 (by decide)) (cRx hX988 (by decide))
                        have hEI1002 := hEI1.tr hI987 (by decide)
                        have hER1003 := hER1.tr hX988 (by decide)
                        show pl _ _ _ (135, [(0, .ref m0), (1, .int (nI p))], [.int 0], M982) _
                        exact ps_ret rfl rfl (Or.inr ⟨(20, p + 2), I984, R985, by
                            rw [← hs, flS_st (i := k) (by omega), ← hpk, fh_20 (by have e1 := ffl_0 cf (by2 f p); have e2 := sev_0 (by2 f p); have e3 := hall_80 (by2 f p); omega) (by omega)], rfl, hR986, hEI1002, hER1003, hi989, hi990⟩)
                  · have c_81 : ¬ ((nI (aN (by2 f p) 16607)) = 25) := of_decide_eq_false c_81
                    have n_81 : ¬ (aN (by2 f p) 16607 = 25) := fun h9 => c_81 ((eq_nI (p := aN (by2 f p) 16607) (n := 25) (Nat.lt_of_le_of_lt (an_le _ _) (by decide)) (by decide)).mpr h9)
                    refine ps_st (S' := (85, [(0, .ref m0), (1, .int (nI p))], [.ref m0], M1)) rfl rfl rfl ?_
                    refine ps_st (S' := (87, [(0, .ref m0), (1, .int (nI p))], [.int 19, .ref m0], M1)) rfl rfl rfl ?_
                    refine ps_st (S' := (88, [(0, .ref m0), (1, .int (nI p))], [.int (nI p), .int 19, .ref m0], M1)) rfl rfl rfl ?_
                    refine pl_call (a := [.ref m0, .int 19, .int (nI p)]) (rest := []) rfl rfl rfl (rd_wrong (x1 := 19) (x2 := (nI p)) hR1) (fun v1004 M1005 q1006 => ?_)
                    obtain ⟨I1007, R1008, rfl, hR1009, hI1010, hX1011, hi1012, hi1013⟩ := q1006
                    have hi1014 := (hI1010 51 (by decide)).trans hl51
                    have hi1015 := (hI1010 52 (by decide)).trans hl52
                    have hi1016 := (hI1010 53 (by decide)).trans hl53
                    have hi1017 := (hI1010 58 (by decide)).trans hl58
                    have hi1018 := (hI1010 55 (by decide)).trans hl55
                    have hi1019 := (hI1010 25 (by decide)).trans hl25
                    have hF_1020 := hF1.mono (cIx hI1010 (by decide)) (cRx hX1011 (by decide))
                    have hY_1021 := hY1.mono (cIx hI1010 (by decide)) (cRx hX1011 (by decide))
                    have hP_1022 := hP1.mono (cIx hI1010 (by decide)) (cRx hX1011 (by decide))
                    have hK_1023 := hK1.mono (cIx hI1010 (by decide)) (cRx hX1011 (by decide))
                    have hN9_1024 := hN91.mono (cIx hI1010 (by decide)) (cRx hX1011 (by decide))
                    have hEI1025 := hEI1.tr hI1010 (by decide)
                    have hER1026 := hER1.tr hX1011 (by decide)
                    show pl _ _ _ (91, [(0, .ref m0), (1, .int (nI p))], [.int 0], M1005) _
                    exact ps_ret rfl rfl (Or.inr ⟨(19, p), I1007, R1008, by
                        rw [← hs, flS_st (i := k) (by omega), ← hpk, fh_19 (by have e1 := ffl_0 cf (by2 f p); have e2 := sev_0 (by2 f p); have e3 := hall_80 (by2 f p); omega)], rfl, hR1009, hEI1025, hER1026, hi1012, hi1013⟩)
      · skip
        intro k p j a d M1 I1 R1 hR1 hEI1 hER1 hl51 hl52 hl53 hl58 hl55 hl25 hF1 hY1 hP1 hK1 hN91 c271 c281 c291 hk0 hpk hpe hs hj hx hsa hsd ht1 ht2 h19 h20 h21 hd9
        have hn := hF1.1
        have hu9 := by2_lt f pF
        have htl := hY1.1.2.2.1
        have hBl := hMB.1
        refine ps_st1 (S' := (279, [(0, .ref m0), (1, .int (nI p)), (2, .int (nI (by2 f pF))), (3, .int (nI f0)), (4, .int (nI k)), (6, .int (nI (f0 + k))), (7, .int (nI (f0 + j)))], [.int (nI (f0 + j))], M1)) rfl rfl rfl ?_
        refine ps_st (S' := (281, [(0, .ref m0), (1, .int (nI p)), (2, .int (nI (by2 f pF))), (3, .int (nI f0)), (4, .int (nI k)), (6, .int (nI (f0 + k))), (7, .int (nI (f0 + j)))], [.int (nI (f0 + k)), .int (nI (f0 + j))], M1)) rfl rfl rfl ?_
        refine ps_if2 (S1 := (332, [(0, .ref m0), (1, .int (nI p)), (2, .int (nI (by2 f pF))), (3, .int (nI f0)), (4, .int (nI k)), (6, .int (nI (f0 + k))), (7, .int (nI (f0 + j)))], [], M1)) (S2 := (284, [(0, .ref m0), (1, .int (nI p)), (2, .int (nI (by2 f pF))), (3, .int (nI f0)), (4, .int (nI k)), (6, .int (nI (f0 + k))), (7, .int (nI (f0 + j)))], [], M1)) rfl rfl rfl (fun c_281 => ?_) (fun c_281 => ?_)
        · have c_281 : (nI (f0 + k)) ≤ (nI (f0 + j)) := of_decide_eq_true c_281
          have n_281 : f0 + k ≤ f0 + j := (le_nI (p := f0 + k) (n := f0 + j) (by omega) (by omega)).mp c_281
          refine ps_st (S' := (333, [(0, .ref m0), (1, .int (nI p)), (2, .int (nI (by2 f pF))), (3, .int (nI f0)), (4, .int (nI k)), (6, .int (nI (f0 + k))), (7, .int (nI (f0 + j)))], [.ref m0], M1)) rfl rfl rfl ?_
          refine ps_st (S' := (334, [(0, .ref m0), (1, .int (nI p)), (2, .int (nI (by2 f pF))), (3, .int (nI f0)), (4, .int (nI k)), (6, .int (nI (f0 + k))), (7, .int (nI (f0 + j)))], [.ref m0, .ref m0], M1)) rfl rfl rfl ?_
          refine pr_int (j := 25) (S' := (337, [(0, .ref m0), (1, .int (nI p)), (2, .int (nI (by2 f pF))), (3, .int (nI f0)), (4, .int (nI k)), (6, .int (nI (f0 + k))), (7, .int (nI (f0 + j)))], [.int (nI (f0 + k)), .ref m0], M1)) rfl hR1 rfl hl25 rfl ?_
          refine ps_st (S' := (338, [(0, .ref m0), (1, .int (nI p)), (2, .int (nI (by2 f pF))), (3, .int (nI f0)), (4, .int (nI k)), (6, .int (nI (f0 + k))), (7, .int (nI (f0 + j)))], [.int 1, .int (nI (f0 + k)), .ref m0], M1)) rfl rfl rfl ?_
          refine ps_st (S' := (339, [(0, .ref m0), (1, .int (nI p)), (2, .int (nI (by2 f pF))), (3, .int (nI f0)), (4, .int (nI k)), (6, .int (nI (f0 + k))), (7, .int (nI (f0 + j)))], [.int ((nI (f0 + k)) + 1), .ref m0], M1)) rfl rfl rfl ?_
          rw [nI_add1 (p := f0 + k) (k := 1) (x := 1) rfl (by omega)]
          show pl _ _ _ (_, [(0, .ref m0), (1, .int (nI p)), (2, .int (nI (by2 f pF))), (3, .int (nI f0)), (4, .int (nI k)), (6, .int (nI (f0 + k))), (7, .int (nI (f0 + j)))], [.int (nI (f0 + k + 1)), .ref m0], M1) _
          refine pr_put (j := 25) rfl hR1 rfl (fun M1027 I1028 hR1029 hi1030 hI1031 => ?_)
          have hi1032 := (hI1031 51 (by decide)).trans hl51
          have hi1033 := (hI1031 52 (by decide)).trans hl52
          have hi1034 := (hI1031 53 (by decide)).trans hl53
          have hi1035 := (hI1031 58 (by decide)).trans hl58
          have hi1036 := (hI1031 55 (by decide)).trans hl55
          have hF_1037 := hF1.mono (pIx hI1031 (by decide)) (fun _ _ => rfl)
          have hY_1038 := hY1.mono (pIx hI1031 (by decide)) (fun _ _ => rfl)
          have hP_1039 := hP1.mono (pIx hI1031 (by decide)) (fun _ _ => rfl)
          have hK_1040 := hK1.mono (pIx hI1031 (by decide)) (fun _ _ => rfl)
          have hN9_1041 := hN91.mono (pIx hI1031 (by decide)) (fun _ _ => rfl)
          have c27_1042 := c271.mono (pIx hI1031 (by decide)) (fun _ _ => rfl)
          have c28_1043 := c281.mono (pIx hI1031 (by decide)) (fun _ _ => rfl)
          have c29_1044 := c291.mono (pIx hI1031 (by decide)) (fun _ _ => rfl)
          have hEI1045 := hEI1.put hI1031 (by decide)
          show pl _ _ _ (342, [(0, .ref m0), (1, .int (nI p)), (2, .int (nI (by2 f pF))), (3, .int (nI f0)), (4, .int (nI k)), (6, .int (nI (f0 + k))), (7, .int (nI (f0 + j)))], [], M1027) _
          refine ps_st (S' := (343, [(0, .ref m0), (1, .int (nI p)), (2, .int (nI (by2 f pF))), (3, .int (nI f0)), (4, .int (nI k)), (6, .int (nI (f0 + k))), (7, .int (nI (f0 + j)))], [.ref m0], M1027)) rfl rfl rfl ?_
          refine ps_st (S' := (344, [(0, .ref m0), (1, .int (nI p)), (2, .int (nI (by2 f pF))), (3, .int (nI f0)), (4, .int (nI k)), (6, .int (nI (f0 + k))), (7, .int (nI (f0 + j)))], [.int (nI p), .ref m0], M1027)) rfl rfl rfl ?_
          refine ps_st (S' := (346, [(0, .ref m0), (1, .int (nI p)), (2, .int (nI (by2 f pF))), (3, .int (nI f0)), (4, .int (nI k)), (6, .int (nI (f0 + k))), (7, .int (nI (f0 + j)))], [.int 6, .int (nI p), .ref m0], M1027)) rfl rfl rfl ?_
          refine ps_st (S' := (347, [(0, .ref m0), (1, .int (nI p)), (2, .int (nI (by2 f pF))), (3, .int (nI f0)), (4, .int (nI k)), (6, .int (nI (f0 + k))), (7, .int (nI (f0 + j)))], [.int ((nI p) + 6), .ref m0], M1027)) rfl rfl rfl ?_
          rw [nI_add1 (p := p) (k := 6) (x := 6) rfl (by omega)]
          show pl _ _ _ (_, [(0, .ref m0), (1, .int (nI p)), (2, .int (nI (by2 f pF))), (3, .int (nI f0)), (4, .int (nI k)), (6, .int (nI (f0 + k))), (7, .int (nI (f0 + j)))], [.int (nI (p + 6)), .ref m0], M1027) _
          refine ps_st (S' := (348, [(0, .ref m0), (1, .int (nI p)), (2, .int (nI (by2 f pF))), (3, .int (nI f0)), (4, .int (nI k)), (6, .int (nI (f0 + k))), (7, .int (nI (f0 + j)))], [.int 1, .int (nI (p + 6)), .ref m0], M1027)) rfl rfl rfl ?_
          refine ps_st (S' := (350, [(0, .ref m0), (1, .int (nI p)), (2, .int (nI (by2 f pF))), (3, .int (nI f0)), (4, .int (nI k)), (6, .int (nI (f0 + k))), (7, .int (nI (f0 + j)))], [.int (nI (f0 + k)), .int 1, .int (nI (p + 6)), .ref m0], M1027)) rfl rfl rfl ?_
          have hm9 := hMB.2.2.2 k (by omega)
          rw [← hpk] at hm9
          have hX9 : FX (by2 f p) d (f0 + k) I1028 R1 := ⟨c27_1042, c29_1044⟩
          have hu8 := by2_lt f p
          refine pl_call (a := [.ref m0, .int (nI (p + 6)), .int 1, .int (nI (f0 + k))]) (rest := []) rfl rfl rfl (rd_checkAttributes1 (n := n) (f := f) (tx := tx) (cN := cN) (A := A) (N := N) (mj := mj) (E := E) (p1 := (p + 6)) (e := (E1 k)) (x := (f0 + k)) (fl := (by2 f p)) (ds := d) (l := (tX f n E (by2 f (p + 4)))) hR1029 hi1032 hi1033 hi1034 hF_1037 hY_1038 hP_1039 hK_1040 hX9 (hEP) (hN) (hmj) (⟨by omega, by omega⟩) (hm9.2.2.1) (hx) (hsd) (h21) (hu8)) (fun v1046 M1047 q1048 => ?_)
          rcases q1048 with q1048 | q1048
          · skip
            obtain ⟨e91049, I1050, R1051, q350_s, rfl, hR1052, hI1053, hX1054, hi1055, hi1056⟩ := q1048
            have hi1057 := (hI1053 51 (by decide)).trans hi1032
            have hi1058 := (hI1053 52 (by decide)).trans hi1033
            have hi1059 := (hI1053 53 (by decide)).trans hi1034
            have hi1060 := (hI1053 58 (by decide)).trans hi1035
            have hi1061 := (hI1053 55 (by decide)).trans hi1036
            have hi1062 := (hI1053 25 (by decide)).trans hi1030
            have hF_1063 := hF_1037.mono (cIx hI1053 (by decide)) (cRx hX1054 (by decide))
            have hY_1064 := hY_1038.mono (cIx hI1053 (by decide)) (cRx hX1054 (by decide))
            have hP_1065 := hP_1039.mono (cIx hI1053 (by decide)) (cRx hX1054 (by decide))
            have hK_1066 := hK_1040.mono (cIx hI1053 (by decide)) (cRx hX1054 (by decide))
            have hN9_1067 := hN9_1041.mono (cIx hI1053 (by decide)) (cRx hX1054 (by decide))
            have c27_1068 := c27_1042.mono (cIx hI1053 (by decide)) (cRx hX1054 (by decide))
            have c28_1069 := c28_1043.mono (cIx hI1053 (by decide)) (cRx hX1054 (by decide))
            have c29_1070 := c29_1044.mono (cIx hI1053 (by decide)) (cRx hX1054 (by decide))
            have hX_1071 := hX9.mono (cIx hI1053 (by decide)) (cRx hX1054 (by decide))
            have hEI1072 := hEI1045.tr hI1053 (by decide)
            have hER1073 := hER1.tr hX1054 (by decide)
            show pl _ _ _ (353, [(0, .ref m0), (1, .int (nI p)), (2, .int (nI (by2 f pF))), (3, .int (nI f0)), (4, .int (nI k)), (6, .int (nI (f0 + k))), (7, .int (nI (f0 + j)))], [.int (-1)], M1047) _
            refine ps_st (S' := (354, [(1, .int (-1)), (0, .ref m0), (2, .int (nI (by2 f pF))), (3, .int (nI f0)), (4, .int (nI k)), (6, .int (nI (f0 + k))), (7, .int (nI (f0 + j)))], [], M1047)) rfl rfl rfl ?_
            refine ps_st (S' := (355, [(1, .int (-1)), (0, .ref m0), (2, .int (nI (by2 f pF))), (3, .int (nI f0)), (4, .int (nI k)), (6, .int (nI (f0 + k))), (7, .int (nI (f0 + j)))], [.int (-1)], M1047)) rfl rfl rfl ?_
            refine ps_if (S1 := (360, [(1, .int (-1)), (0, .ref m0), (2, .int (nI (by2 f pF))), (3, .int (nI f0)), (4, .int (nI k)), (6, .int (nI (f0 + k))), (7, .int (nI (f0 + j)))], [], M1047)) (S2 := (358, [(1, .int (-1)), (0, .ref m0), (2, .int (nI (by2 f pF))), (3, .int (nI f0)), (4, .int (nI k)), (6, .int (nI (f0 + k))), (7, .int (nI (f0 + j)))], [], M1047)) rfl rfl rfl (fun c_355 => ?_) (fun c_355 => ?_)
            · exact absurd (of_decide_eq_true c_355) (by decide)
            refine ps_st (S' := (359, [(1, .int (-1)), (0, .ref m0), (2, .int (nI (by2 f pF))), (3, .int (nI f0)), (4, .int (nI k)), (6, .int (nI (f0 + k))), (7, .int (nI (f0 + j)))], [.int 0], M1047)) rfl rfl rfl ?_
            exact ps_ret rfl rfl (Or.inr ⟨e91049, I1050, R1051, by
                rw [← hs, flS_st (i := k) (by omega), ← hpk, fh_n hpk h19 h20 h21 (by rw [← hd9, show k - j = 0 by omega]; rfl), q350_s], rfl, hR1052, hEI1072, hER1073, hi1055, hi1056⟩)
          · skip
            obtain ⟨I1074, R1075, q350_s, rfl, hR1076, hI1077, hX1078⟩ := q1048
            have hi1079 := (hI1077 51 (by decide)).trans hi1032
            have hi1080 := (hI1077 52 (by decide)).trans hi1033
            have hi1081 := (hI1077 53 (by decide)).trans hi1034
            have hi1082 := (hI1077 58 (by decide)).trans hi1035
            have hi1083 := (hI1077 55 (by decide)).trans hi1036
            have hi1084 := (hI1077 25 (by decide)).trans hi1030
            have hF_1085 := hF_1037.mono (cIx hI1077 (by decide)) (cRx hX1078 (by decide))
            have hY_1086 := hY_1038.mono (cIx hI1077 (by decide)) (cRx hX1078 (by decide))
            have hP_1087 := hP_1039.mono (cIx hI1077 (by decide)) (cRx hX1078 (by decide))
            have hK_1088 := hK_1040.mono (cIx hI1077 (by decide)) (cRx hX1078 (by decide))
            have hN9_1089 := hN9_1041.mono (cIx hI1077 (by decide)) (cRx hX1078 (by decide))
            have c27_1090 := c27_1042.mono (cIx hI1077 (by decide)) (cRx hX1078 (by decide))
            have c28_1091 := c28_1043.mono (cIx hI1077 (by decide)) (cRx hX1078 (by decide))
            have c29_1092 := c29_1044.mono (cIx hI1077 (by decide)) (cRx hX1078 (by decide))
            have hX_1093 := hX9.mono (cIx hI1077 (by decide)) (cRx hX1078 (by decide))
            have hEI1094 := hEI1045.tr hI1077 (by decide)
            have hER1095 := hER1.tr hX1078 (by decide)
            show pl _ _ _ (353, [(0, .ref m0), (1, .int (nI p)), (2, .int (nI (by2 f pF))), (3, .int (nI f0)), (4, .int (nI k)), (6, .int (nI (f0 + k))), (7, .int (nI (f0 + j)))], [.int (nI (E1 k))], M1047) _
            refine ps_st (S' := (354, [(1, .int (nI (E1 k))), (0, .ref m0), (2, .int (nI (by2 f pF))), (3, .int (nI f0)), (4, .int (nI k)), (6, .int (nI (f0 + k))), (7, .int (nI (f0 + j)))], [], M1047)) rfl rfl rfl ?_
            refine ps_st (S' := (355, [(1, .int (nI (E1 k))), (0, .ref m0), (2, .int (nI (by2 f pF))), (3, .int (nI f0)), (4, .int (nI k)), (6, .int (nI (f0 + k))), (7, .int (nI (f0 + j)))], [.int (nI (E1 k))], M1047)) rfl rfl rfl ?_
            refine ps_if (S1 := (360, [(1, .int (nI (E1 k))), (0, .ref m0), (2, .int (nI (by2 f pF))), (3, .int (nI f0)), (4, .int (nI k)), (6, .int (nI (f0 + k))), (7, .int (nI (f0 + j)))], [], M1047)) (S2 := (358, [(1, .int (nI (E1 k))), (0, .ref m0), (2, .int (nI (by2 f pF))), (3, .int (nI f0)), (4, .int (nI k)), (6, .int (nI (f0 + k))), (7, .int (nI (f0 + j)))], [], M1047)) rfl rfl rfl (fun c_355 => ?_) (fun c_355 => ?_)
            rotate_left
            · exact absurd ((le_nI (p := 0) (n := E1 k) (by decide) (by omega)).mpr (by omega)) (of_decide_eq_false c_355)
            refine ps_st (S' := (363, [(4, .int ((nI k) + 1)), (1, .int (nI (E1 k))), (0, .ref m0), (2, .int (nI (by2 f pF))), (3, .int (nI f0)), (6, .int (nI (f0 + k))), (7, .int (nI (f0 + j)))], [], M1047)) rfl rfl rfl ?_
            rw [nI_add1 (p := k) (k := 1) (x := 1) rfl (by omega)]
            show pl _ _ _ (_, [(4, .int (nI (k + 1))), (1, .int (nI (E1 k))), (0, .ref m0), (2, .int (nI (by2 f pF))), (3, .int (nI f0)), (6, .int (nI (f0 + k))), (7, .int (nI (f0 + j)))], [], M1047) _
            refine ps_st (S' := (22, [(0, .ref m0), (1, .int (nI (E1 k))), (2, .int (nI (by2 f pF))), (3, .int (nI f0)), (4, .int (nI (k + 1)))], [], M1047)) rfl rfl rfl ?_
            have hN8 := FN.more hN9_1089 hpk c28_1091 c29_1092 hsa hsd ht1 ht2
            exact ih.1 (k + 1) (E1 k) M1047 I1074 R1075 hR1076 hEI1094 hER1095 hi1079 hi1080 hi1081 hi1082 hi1083 hi1084 hF_1085 hY_1086 hP_1087 hK_1088 hN8 (by omega) (fun h9 => (hm9.2.2.2 (by omega)).symm) (hm9.2.1) (by
                rw [← hs, flS_st (i := k) (by omega), ← hpk, fh_n hpk h19 h20 h21 (by rw [← hd9, show k - j = 0 by omega]; rfl), q350_s])
        · have c_281 : ¬ ((nI (f0 + k)) ≤ (nI (f0 + j))) := of_decide_eq_false c_281
          have n_281 : ¬ (f0 + k ≤ f0 + j) := fun h9 => c_281 ((le_nI (p := f0 + k) (n := f0 + j) (by omega) (by omega)).mpr h9)
          obtain ⟨a9, d9, g1, g2, g3, g4, g5, g6⟩ := hN91 j (by omega)
          have g7 := g3.1
          have g8 := g4.1
          have g0 := hsa.1
          have g9 := hsd.1
          have sm1 := sm_sym (k := by2 f (B.getD j 0 + 2)) (m := by2 f (p + 2)) hY1 g3 hsa g5 ht1
          have sm2 := sm_sym (k := by2 f (B.getD j 0 + 4)) (m := by2 f (p + 4)) hY1 g4 hsd g6 ht2
          refine ps_st (S' := (285, [(0, .ref m0), (1, .int (nI p)), (2, .int (nI (by2 f pF))), (3, .int (nI f0)), (4, .int (nI k)), (6, .int (nI (f0 + k))), (7, .int (nI (f0 + j)))], [.ref m0], M1)) rfl rfl rfl ?_
          refine pr_ref (j := 28) (S' := (288, [(0, .ref m0), (1, .int (nI p)), (2, .int (nI (by2 f pF))), (3, .int (nI f0)), (4, .int (nI k)), (6, .int (nI (f0 + k))), (7, .int (nI (f0 + j)))], [.ref (q 28)], M1)) rfl hR1 rfl rfl ?_
          refine ps_st (S' := (290, [(0, .ref m0), (1, .int (nI p)), (2, .int (nI (by2 f pF))), (3, .int (nI f0)), (4, .int (nI k)), (6, .int (nI (f0 + k))), (7, .int (nI (f0 + j)))], [.int (nI (f0 + j)), .ref (q 28)], M1)) rfl rfl rfl ?_
          refine pr_ld (a := 28) (j := f0 + j) (y := (nI a9)) (S' := (291, [(0, .ref m0), (1, .int (nI p)), (2, .int (nI (by2 f pF))), (3, .int (nI f0)), (4, .int (nI k)), (6, .int (nI (f0 + k))), (7, .int (nI (f0 + j)))], [.int (nI a9)], M1)) rfl hR1 rfl (by omega) (fun _ => g1) rfl (fun i1_290 => ?_)
          refine ps_st (S' := (292, [(0, .ref m0), (1, .int (nI p)), (2, .int (nI (by2 f pF))), (3, .int (nI f0)), (4, .int (nI k)), (6, .int (nI (f0 + k))), (7, .int (nI (f0 + j)))], [.ref m0, .int (nI a9)], M1)) rfl rfl rfl ?_
          refine pr_ref (j := 28) (S' := (295, [(0, .ref m0), (1, .int (nI p)), (2, .int (nI (by2 f pF))), (3, .int (nI f0)), (4, .int (nI k)), (6, .int (nI (f0 + k))), (7, .int (nI (f0 + j)))], [.ref (q 28), .int (nI a9)], M1)) rfl hR1 rfl rfl ?_
          refine ps_st (S' := (297, [(0, .ref m0), (1, .int (nI p)), (2, .int (nI (by2 f pF))), (3, .int (nI f0)), (4, .int (nI k)), (6, .int (nI (f0 + k))), (7, .int (nI (f0 + j)))], [.int (nI (f0 + k)), .ref (q 28), .int (nI a9)], M1)) rfl rfl rfl ?_
          refine pr_ld (a := 28) (j := f0 + k) (y := (nI a)) (S' := (298, [(0, .ref m0), (1, .int (nI p)), (2, .int (nI (by2 f pF))), (3, .int (nI f0)), (4, .int (nI k)), (6, .int (nI (f0 + k))), (7, .int (nI (f0 + j)))], [.int (nI a), .int (nI a9)], M1)) rfl hR1 rfl (by omega) (fun _ => c281) rfl (fun i1_297 => ?_)
          refine ps_if2 (S1 := (326, [(0, .ref m0), (1, .int (nI p)), (2, .int (nI (by2 f pF))), (3, .int (nI f0)), (4, .int (nI k)), (6, .int (nI (f0 + k))), (7, .int (nI (f0 + j)))], [], M1)) (S2 := (301, [(0, .ref m0), (1, .int (nI p)), (2, .int (nI (by2 f pF))), (3, .int (nI f0)), (4, .int (nI k)), (6, .int (nI (f0 + k))), (7, .int (nI (f0 + j)))], [], M1)) rfl rfl rfl (fun c_298 => ?_) (fun c_298 => ?_)
          · have c_298 : ¬ (nI a9) = (nI a) := of_decide_eq_true c_298
            have n_298 : ¬ (a9 = a) := fun h9 => c_298 ((eq_nI (p := a9) (n := a) (by omega) (by omega)).mpr h9)
            refine ps_st (S' := (329, [(7, .int ((nI (f0 + j)) + 1)), (0, .ref m0), (1, .int (nI p)), (2, .int (nI (by2 f pF))), (3, .int (nI f0)), (4, .int (nI k)), (6, .int (nI (f0 + k)))], [], M1)) rfl rfl rfl ?_
            rw [nI_add1 (p := f0 + j) (k := 1) (x := 1) rfl (by omega)]
            show pl _ _ _ (_, [(7, .int (nI (f0 + j + 1))), (0, .ref m0), (1, .int (nI p)), (2, .int (nI (by2 f pF))), (3, .int (nI f0)), (4, .int (nI k)), (6, .int (nI (f0 + k)))], [], M1) _
            refine ps_st (S' := (277, [(0, .ref m0), (1, .int (nI p)), (2, .int (nI (by2 f pF))), (3, .int (nI f0)), (4, .int (nI k)), (6, .int (nI (f0 + k))), (7, .int (nI (f0 + j + 1)))], [], M1)) rfl rfl rfl ?_
            exact ih.2 (k) (p) (j + 1) (a) (d) M1 I1 R1 hR1 hEI1 hER1 hl51 hl52 hl53 hl58 hl55 hl25 hF1 hY1 hP1 hK1 hN91 c271 c281 c291 (hk0) (hpk) (hpe) (hs) (by omega) (hx) (hsa) (hsd) (ht1) (ht2) (h19) (h20) (h21) (by
                rw [← hd9, smeS_st (i := j) (by omega), if_neg (by omega)])
          · have c_298 : ¬ (¬ (nI a9) = (nI a)) := of_decide_eq_false c_298
            have n_298 : a9 = a := (eq_nI (p := a9) (n := a) (by omega) (by omega)).mp (Decidable.not_not.mp c_298)
            refine ps_st (S' := (302, [(0, .ref m0), (1, .int (nI p)), (2, .int (nI (by2 f pF))), (3, .int (nI f0)), (4, .int (nI k)), (6, .int (nI (f0 + k))), (7, .int (nI (f0 + j)))], [.ref m0], M1)) rfl rfl rfl ?_
            refine pr_ref (j := 29) (S' := (305, [(0, .ref m0), (1, .int (nI p)), (2, .int (nI (by2 f pF))), (3, .int (nI f0)), (4, .int (nI k)), (6, .int (nI (f0 + k))), (7, .int (nI (f0 + j)))], [.ref (q 29)], M1)) rfl hR1 rfl rfl ?_
            refine ps_st (S' := (307, [(0, .ref m0), (1, .int (nI p)), (2, .int (nI (by2 f pF))), (3, .int (nI f0)), (4, .int (nI k)), (6, .int (nI (f0 + k))), (7, .int (nI (f0 + j)))], [.int (nI (f0 + j)), .ref (q 29)], M1)) rfl rfl rfl ?_
            refine pr_ld (a := 29) (j := f0 + j) (y := (nI d9)) (S' := (308, [(0, .ref m0), (1, .int (nI p)), (2, .int (nI (by2 f pF))), (3, .int (nI f0)), (4, .int (nI k)), (6, .int (nI (f0 + k))), (7, .int (nI (f0 + j)))], [.int (nI d9)], M1)) rfl hR1 rfl (by omega) (fun _ => g2) rfl (fun i1_307 => ?_)
            refine ps_st (S' := (309, [(0, .ref m0), (1, .int (nI p)), (2, .int (nI (by2 f pF))), (3, .int (nI f0)), (4, .int (nI k)), (6, .int (nI (f0 + k))), (7, .int (nI (f0 + j)))], [.ref m0, .int (nI d9)], M1)) rfl rfl rfl ?_
            refine pr_ref (j := 29) (S' := (312, [(0, .ref m0), (1, .int (nI p)), (2, .int (nI (by2 f pF))), (3, .int (nI f0)), (4, .int (nI k)), (6, .int (nI (f0 + k))), (7, .int (nI (f0 + j)))], [.ref (q 29), .int (nI d9)], M1)) rfl hR1 rfl rfl ?_
            refine ps_st (S' := (314, [(0, .ref m0), (1, .int (nI p)), (2, .int (nI (by2 f pF))), (3, .int (nI f0)), (4, .int (nI k)), (6, .int (nI (f0 + k))), (7, .int (nI (f0 + j)))], [.int (nI (f0 + k)), .ref (q 29), .int (nI d9)], M1)) rfl rfl rfl ?_
            refine pr_ld (a := 29) (j := f0 + k) (y := (nI d)) (S' := (315, [(0, .ref m0), (1, .int (nI p)), (2, .int (nI (by2 f pF))), (3, .int (nI f0)), (4, .int (nI k)), (6, .int (nI (f0 + k))), (7, .int (nI (f0 + j)))], [.int (nI d), .int (nI d9)], M1)) rfl hR1 rfl (by omega) (fun _ => c291) rfl (fun i1_314 => ?_)
            refine ps_if2 (S1 := (326, [(0, .ref m0), (1, .int (nI p)), (2, .int (nI (by2 f pF))), (3, .int (nI f0)), (4, .int (nI k)), (6, .int (nI (f0 + k))), (7, .int (nI (f0 + j)))], [], M1)) (S2 := (318, [(0, .ref m0), (1, .int (nI p)), (2, .int (nI (by2 f pF))), (3, .int (nI f0)), (4, .int (nI k)), (6, .int (nI (f0 + k))), (7, .int (nI (f0 + j)))], [], M1)) rfl rfl rfl (fun c_315 => ?_) (fun c_315 => ?_)
            · have c_315 : ¬ (nI d9) = (nI d) := of_decide_eq_true c_315
              have n_315 : ¬ (d9 = d) := fun h9 => c_315 ((eq_nI (p := d9) (n := d) (by omega) (by omega)).mpr h9)
              refine ps_st (S' := (329, [(7, .int ((nI (f0 + j)) + 1)), (0, .ref m0), (1, .int (nI p)), (2, .int (nI (by2 f pF))), (3, .int (nI f0)), (4, .int (nI k)), (6, .int (nI (f0 + k)))], [], M1)) rfl rfl rfl ?_
              rw [nI_add1 (p := f0 + j) (k := 1) (x := 1) rfl (by omega)]
              show pl _ _ _ (_, [(7, .int (nI (f0 + j + 1))), (0, .ref m0), (1, .int (nI p)), (2, .int (nI (by2 f pF))), (3, .int (nI f0)), (4, .int (nI k)), (6, .int (nI (f0 + k)))], [], M1) _
              refine ps_st (S' := (277, [(0, .ref m0), (1, .int (nI p)), (2, .int (nI (by2 f pF))), (3, .int (nI f0)), (4, .int (nI k)), (6, .int (nI (f0 + k))), (7, .int (nI (f0 + j + 1)))], [], M1)) rfl rfl rfl ?_
              exact ih.2 (k) (p) (j + 1) (a) (d) M1 I1 R1 hR1 hEI1 hER1 hl51 hl52 hl53 hl58 hl55 hl25 hF1 hY1 hP1 hK1 hN91 c271 c281 c291 (hk0) (hpk) (hpe) (hs) (by omega) (hx) (hsa) (hsd) (ht1) (ht2) (h19) (h20) (h21) (by
                  rw [← hd9, smeS_st (i := j) (by omega), if_neg (by omega)])
            · have c_315 : ¬ (¬ (nI d9) = (nI d)) := of_decide_eq_false c_315
              have n_315 : d9 = d := (eq_nI (p := d9) (n := d) (by omega) (by omega)).mp (Decidable.not_not.mp c_315)
              refine ps_st (S' := (319, [(0, .ref m0), (1, .int (nI p)), (2, .int (nI (by2 f pF))), (3, .int (nI f0)), (4, .int (nI k)), (6, .int (nI (f0 + k))), (7, .int (nI (f0 + j)))], [.ref m0], M1)) rfl rfl rfl ?_
              refine ps_st (S' := (321, [(0, .ref m0), (1, .int (nI p)), (2, .int (nI (by2 f pF))), (3, .int (nI f0)), (4, .int (nI k)), (6, .int (nI (f0 + k))), (7, .int (nI (f0 + j)))], [.int 22, .ref m0], M1)) rfl rfl rfl ?_
              refine ps_st (S' := (322, [(0, .ref m0), (1, .int (nI p)), (2, .int (nI (by2 f pF))), (3, .int (nI f0)), (4, .int (nI k)), (6, .int (nI (f0 + k))), (7, .int (nI (f0 + j)))], [.int (nI p), .int 22, .ref m0], M1)) rfl rfl rfl ?_
              refine pl_call (a := [.ref m0, .int 22, .int (nI p)]) (rest := []) rfl rfl rfl (rd_wrong (x1 := 22) (x2 := (nI p)) hR1) (fun v1096 M1097 q1098 => ?_)
              obtain ⟨I1099, R1100, rfl, hR1101, hI1102, hX1103, hi1104, hi1105⟩ := q1098
              have hi1106 := (hI1102 51 (by decide)).trans hl51
              have hi1107 := (hI1102 52 (by decide)).trans hl52
              have hi1108 := (hI1102 53 (by decide)).trans hl53
              have hi1109 := (hI1102 58 (by decide)).trans hl58
              have hi1110 := (hI1102 55 (by decide)).trans hl55
              have hi1111 := (hI1102 25 (by decide)).trans hl25
              have hF_1112 := hF1.mono (cIx hI1102 (by decide)) (cRx hX1103 (by decide))
              have hY_1113 := hY1.mono (cIx hI1102 (by decide)) (cRx hX1103 (by decide))
              have hP_1114 := hP1.mono (cIx hI1102 (by decide)) (cRx hX1103 (by decide))
              have hK_1115 := hK1.mono (cIx hI1102 (by decide)) (cRx hX1103 (by decide))
              have hN9_1116 := hN91.mono (cIx hI1102 (by decide)) (cRx hX1103 (by decide))
              have c27_1117 := c271.mono (cIx hI1102 (by decide)) (cRx hX1103 (by decide))
              have c28_1118 := c281.mono (cIx hI1102 (by decide)) (cRx hX1103 (by decide))
              have c29_1119 := c291.mono (cIx hI1102 (by decide)) (cRx hX1103 (by decide))
              have hEI1120 := hEI1.tr hI1102 (by decide)
              have hER1121 := hER1.tr hX1103 (by decide)
              show pl _ _ _ (325, [(0, .ref m0), (1, .int (nI p)), (2, .int (nI (by2 f pF))), (3, .int (nI f0)), (4, .int (nI k)), (6, .int (nI (f0 + k))), (7, .int (nI (f0 + j)))], [.int 0], M1097) _
              exact ps_ret rfl rfl (Or.inr ⟨(22, p), I1099, R1100, by
                  rw [← hs, flS_st (i := k) (by omega), ← hpk, fh_22 hpk h19 h20 h21 (by rw [← hd9, smeS_st (i := j) (by omega), if_pos (by omega)]; exact fun h9 => by cases h9)], rfl, hR1101, hEI1120, hER1121, hi1104, hi1105⟩)
  refine ps_st (S' := (1, [(0, .ref m0)], [.ref m0], M)) rfl rfl rfl ?_
  refine pr_int (j := 55) (S' := (4, [(0, .ref m0)], [.int (nI pF)], M)) rfl hR rfl hi55 rfl ?_
  refine ps_st (S' := (5, [(1, .int (nI pF)), (0, .ref m0)], [], M)) rfl rfl rfl ?_
  refine ps_st (S' := (6, [(1, .int (nI pF)), (0, .ref m0)], [.ref m0], M)) rfl rfl rfl ?_
  refine ps_st (S' := (7, [(1, .int (nI pF)), (0, .ref m0)], [.int (nI pF), .ref m0], M)) rfl rfl rfl ?_
  refine pl_call (a := [.ref m0, .int (nI pF)]) (rest := []) rfl rfl rfl (rd_u2 (n := n) (f := f) (p := pF) hR hF (by omega)) (fun v1122 M1123 q1124 => ?_)
  obtain ⟨rfl, rfl⟩ := q1124
  show pl _ _ _ (10, [(1, .int (nI pF)), (0, .ref m0)], [.int (nI (by2 f pF))], M) _
  have hu_7 := by2_lt f pF
  refine ps_st (S' := (11, [(2, .int (nI (by2 f pF))), (1, .int (nI pF)), (0, .ref m0)], [], M)) rfl rfl rfl ?_
  refine ps_st (S' := (14, [(1, .int ((nI pF) + 2)), (2, .int (nI (by2 f pF))), (0, .ref m0)], [], M)) rfl rfl rfl ?_
  rw [nI_add1 (p := pF) (k := 2) (x := 2) rfl (by omega)]
  show pl _ _ _ (_, [(1, .int (nI (pF + 2))), (2, .int (nI (by2 f pF))), (0, .ref m0)], [], M) _
  refine ps_st (S' := (15, [(1, .int (nI (pF + 2))), (2, .int (nI (by2 f pF))), (0, .ref m0)], [.ref m0], M)) rfl rfl rfl ?_
  refine pr_int (j := 25) (S' := (18, [(1, .int (nI (pF + 2))), (2, .int (nI (by2 f pF))), (0, .ref m0)], [.int (nI f0)], M)) rfl hR rfl hi25 rfl ?_
  refine ps_st (S' := (19, [(3, .int (nI f0)), (1, .int (nI (pF + 2))), (2, .int (nI (by2 f pF))), (0, .ref m0)], [], M)) rfl rfl rfl ?_
  refine ps_st (S' := (20, [(3, .int (nI f0)), (1, .int (nI (pF + 2))), (2, .int (nI (by2 f pF))), (0, .ref m0)], [.int 0], M)) rfl rfl rfl ?_
  refine ps_st (S' := (22, [(0, .ref m0), (1, .int (nI (pF + 2))), (2, .int (nI (by2 f pF))), (3, .int (nI f0)), (4, .int 0)], [], M)) rfl rfl rfl ?_
  exact (LL kf).1 (0) (pF + 2) M I R hR hEI hER hi51 hi52 hi53 hi58 hi55 hi25 hF hY hP hK hFN0 (by omega) (fun h9 => (hMB.2.2.1 (by omega)).symm) (by omega) (rfl)
set_option maxHeartbeats 8000000 in
theorem rd_checkMethods2 {g : xe_G} {m0 : Nat} {q : Nat → Nat} {z : Nat × Nat} {I : rI} {R : rR} {M : mi_H} {n : Nat} {f : Nat → Int32} {tx : List (List Nat)} {cN : Nat} {A : Nat → Nat} {N mj : Nat} {E : List (Nat × Nat)} {pM f0 cf si sc : Nat} {B : List Nat} {E1 : Nat → Nat} (hR : RS g m0 q z I R M) (hi51 : I 51 = some 0) (hi52 : I 52 = some (nI N)) (hi53 : I 53 = some (nI mj)) (hi58 : I 58 = some (nI cf)) (hi56 : I 56 = some (nI pM)) (hi26 : I 26 = some (nI f0)) (hi9 : I 9 = some (nI si)) (hi10 : I 10 = some (nI sc)) (hF : FK n f I R) (hY : SYT tx cN A I R) (hP : RPV f n E tx N I R) (hK : KX I R) (hEP : EP f n E) (hN : N < 65536) (hmj : mj < 65536) (hMB : MBS f n B pM E1) (hf0 : f0 ≤ 8300) (hcf : cf < 65536) (hsi : si < tx.length ∧ tx.getD si [] = ltx 12) (hsc : sc < tx.length ∧ tx.getD sc [] = ltx 13) : pt (mT g) 191 [.ref m0] M (fun v M' => (∃  (I' : rI) (R' : rR), (mtS f n E cf mj B B.length 0 = none) ∧ v = some (.int 1) ∧ RS g m0 q z I' R' M' ∧ eqI [26, 47, 48] I I' ∧ eqR [34, 35, 36, 37, 38, 39, 40, 41, 42, 43, 44, 45, 46] R R' ∧ I' 26 = some (nI (f0 + B.length)) ∧ FN 35 36 f n E tx B f0 B.length I' R') ∨ (∃ (e9 : Nat × Nat) (I' : rI) (R' : rR), (mtS f n E cf mj B B.length 0 = some e9) ∧ v = some (.int 0) ∧ RS g m0 q z I' R' M' ∧ eqI [26, 47, 48] I I' ∧ eqR [34, 35, 36, 37, 38, 39, 40, 41, 42, 43, 44, 45, 46] R R' ∧ I' 47 = some (nI e9.1) ∧ I' 48 = some (nI e9.2))) := by
  refine pt_in (b := mb_191 g) rfl (fun kf => ?_)
  show pl (mT g) kf (mb_191 g).2 (0, [(0, .ref m0)], [], M) _
  have hEI : eqI [26, 47, 48] I I := eqI.rf
  have hER : eqR [34, 35, 36, 37, 38, 39, 40, 41, 42, 43, 44, 45, 46] R R := eqR.rf
  have hn := hF.1
  have hBl := hMB.1
  have hp2 := hMB.2.1
  have hFN0 : FN 35 36 f n E tx B f0 0 I R := fun j hj => absurd hj (Nat.not_lt_zero _)
  have LL : ∀ (kf : Nat), (∀ (k p ib : Nat) (M1 : mi_H) (I1 : rI) (R1 : rR), (RS g m0 q z I1 R1 M1) → (eqI [26, 47, 48] I I1) → (eqR [34, 35, 36, 37, 38, 39, 40, 41, 42, 43, 44, 45, 46] R R1) → (I1 51 = some 0) → (I1 52 = some (nI N)) → (I1 53 = some (nI mj)) → (I1 58 = some (nI cf)) → (I1 56 = some (nI pM)) → (I1 26 = some (nI (f0 + k))) → (I1 9 = some (nI si)) → (I1 10 = some (nI sc)) → (FK n f I1 R1) → (SYT tx cN A I1 R1) → (RPV f n E tx N I1 R1) → (KX I1 R1) → (FN 35 36 f n E tx B f0 k I1 R1) → (k ≤ by2 f pM) → (k < by2 f pM → p = B.getD k 0) → (p ≤ n) → (mtS f n E cf mj B (B.length - k) k = mtS f n E cf mj B B.length 0) → ((ib = 0 ∧ aN cf 512 = 0) ∨ (ib = 1 ∧ ¬ aN cf 512 = 0)) →  pl (mT g) kf (mb_191 g).2 (40, [(0, .ref m0), (1, .int (nI p)), (2, .int (nI (by2 f pM))), (3, .int (nI f0)), (4, .int (nI ib)), (5, .int (nI k))], [], M1) (fun v M' => (∃  (I' : rI) (R' : rR), (mtS f n E cf mj B B.length 0 = none) ∧ v = some (.int 1) ∧ RS g m0 q z I' R' M' ∧ eqI [26, 47, 48] I I' ∧ eqR [34, 35, 36, 37, 38, 39, 40, 41, 42, 43, 44, 45, 46] R R' ∧ I' 26 = some (nI (f0 + B.length)) ∧ FN 35 36 f n E tx B f0 B.length I' R') ∨ (∃ (e9 : Nat × Nat) (I' : rI) (R' : rR), (mtS f n E cf mj B B.length 0 = some e9) ∧ v = some (.int 0) ∧ RS g m0 q z I' R' M' ∧ eqI [26, 47, 48] I I' ∧ eqR [34, 35, 36, 37, 38, 39, 40, 41, 42, 43, 44, 45, 46] R R' ∧ I' 47 = some (nI e9.1) ∧ I' 48 = some (nI e9.2)))) ∧ (∀ (k p ib a i9 i8 : Nat) (M1 : mi_H) (I1 : rI) (R1 : rR), (RS g m0 q z I1 R1 M1) → (eqI [26, 47, 48] I I1) → (eqR [34, 35, 36, 37, 38, 39, 40, 41, 42, 43, 44, 45, 46] R R1) → (I1 51 = some 0) → (I1 52 = some (nI N)) → (I1 53 = some (nI mj)) → (I1 58 = some (nI cf)) → (I1 56 = some (nI pM)) → (I1 26 = some (nI (f0 + k))) → (I1 9 = some (nI si)) → (I1 10 = some (nI sc)) → (FK n f I1 R1) → (SYT tx cN A I1 R1) → (RPV f n E tx N I1 R1) → (KX I1 R1) → (FN 35 36 f n E tx B f0 k I1 R1) → (k < by2 f pM) → (p = B.getD k 0) → (p + 8 ≤ n) → (mtS f n E cf mj B (B.length - k) k = mtS f n E cf mj B B.length 0) → ((ib = 0 ∧ aN cf 512 = 0) ∨ (ib = 1 ∧ ¬ aN cf 512 = 0)) → (a < tx.length ∧ tx.getD a [] = tX f n E (by2 f (p + 2))) → (tg f E (by2 f (p + 2)) = 1) → (¬ mnmN f n E cf (by2 f (p + 2)) = 0) → (¬ mflN f n E cf mj (by2 f p) (by2 f (p + 2)) = 0) → ((i9 = 1 ∧ ¬ eqN (tX f n E (by2 f (p + 2))) (ltx 13) = 0) ∨ (i9 = 0 ∧ eqN (tX f n E (by2 f (p + 2))) (ltx 13) = 0)) → ((i8 = 1 ∧ ¬ eqN (tX f n E (by2 f (p + 2))) (ltx 12) = 0) ∨ (i8 = 0 ∧ eqN (tX f n E (by2 f (p + 2))) (ltx 12) = 0)) →  pl (mT g) kf (mb_191 g).2 (183, [(0, .ref m0), (1, .int (nI p)), (2, .int (nI (by2 f pM))), (3, .int (nI f0)), (4, .int (nI ib)), (5, .int (nI k)), (6, .int (nI (by2 f p))), (7, .int (nI a)), (8, .int (nI i8)), (9, .int (nI i9))], [], M1) (fun v M' => (∃  (I' : rI) (R' : rR), (mtS f n E cf mj B B.length 0 = none) ∧ v = some (.int 1) ∧ RS g m0 q z I' R' M' ∧ eqI [26, 47, 48] I I' ∧ eqR [34, 35, 36, 37, 38, 39, 40, 41, 42, 43, 44, 45, 46] R R' ∧ I' 26 = some (nI (f0 + B.length)) ∧ FN 35 36 f n E tx B f0 B.length I' R') ∨ (∃ (e9 : Nat × Nat) (I' : rI) (R' : rR), (mtS f n E cf mj B B.length 0 = some e9) ∧ v = some (.int 0) ∧ RS g m0 q z I' R' M' ∧ eqI [26, 47, 48] I I' ∧ eqR [34, 35, 36, 37, 38, 39, 40, 41, 42, 43, 44, 45, 46] R R' ∧ I' 47 = some (nI e9.1) ∧ I' 48 = some (nI e9.2)))) ∧ (∀ (k p ib a i9 d : Nat) (M1 : mi_H) (I1 : rI) (R1 : rR), (RS g m0 q z I1 R1 M1) → (eqI [26, 47, 48] I I1) → (eqR [34, 35, 36, 37, 38, 39, 40, 41, 42, 43, 44, 45, 46] R R1) → (I1 51 = some 0) → (I1 52 = some (nI N)) → (I1 53 = some (nI mj)) → (I1 58 = some (nI cf)) → (I1 56 = some (nI pM)) → (I1 26 = some (nI (f0 + k))) → (I1 9 = some (nI si)) → (I1 10 = some (nI sc)) → (FK n f I1 R1) → (SYT tx cN A I1 R1) → (RPV f n E tx N I1 R1) → (KX I1 R1) → (FN 35 36 f n E tx B f0 k I1 R1) → (k < by2 f pM) → (p = B.getD k 0) → (p + 8 ≤ n) → (mtS f n E cf mj B (B.length - k) k = mtS f n E cf mj B B.length 0) → ((ib = 0 ∧ aN cf 512 = 0) ∨ (ib = 1 ∧ ¬ aN cf 512 = 0)) → (a < tx.length ∧ tx.getD a [] = tX f n E (by2 f (p + 2))) → (tg f E (by2 f (p + 2)) = 1) → (¬ mnmN f n E cf (by2 f (p + 2)) = 0) → (¬ mflN f n E cf mj (by2 f p) (by2 f (p + 2)) = 0) → ((i9 = 1 ∧ ¬ eqN (tX f n E (by2 f (p + 2))) (ltx 13) = 0) ∨ (i9 = 0 ∧ eqN (tX f n E (by2 f (p + 2))) (ltx 13) = 0)) → (d < tx.length ∧ tx.getD d [] = tX f n E (by2 f (p + 4))) → (tg f E (by2 f (p + 4)) = 1) → (¬ mthN (tX f n E (by2 f (p + 4))) = 0) → (¬ mdsN f n E (by2 f (p + 2)) (by2 f (p + 4)) (apN f n E p) = 0) →  pl (mT g) kf (mb_191 g).2 (279, [(0, .ref m0), (1, .int (nI p)), (2, .int (nI (by2 f pM))), (3, .int (nI f0)), (4, .int (nI ib)), (5, .int (nI k)), (6, .int (nI (by2 f p))), (7, .int (nI a)), (9, .int (nI i9)), (10, .int (nI d))], [], M1) (fun v M' => (∃  (I' : rI) (R' : rR), (mtS f n E cf mj B B.length 0 = none) ∧ v = some (.int 1) ∧ RS g m0 q z I' R' M' ∧ eqI [26, 47, 48] I I' ∧ eqR [34, 35, 36, 37, 38, 39, 40, 41, 42, 43, 44, 45, 46] R R' ∧ I' 26 = some (nI (f0 + B.length)) ∧ FN 35 36 f n E tx B f0 B.length I' R') ∨ (∃ (e9 : Nat × Nat) (I' : rI) (R' : rR), (mtS f n E cf mj B B.length 0 = some e9) ∧ v = some (.int 0) ∧ RS g m0 q z I' R' M' ∧ eqI [26, 47, 48] I I' ∧ eqR [34, 35, 36, 37, 38, 39, 40, 41, 42, 43, 44, 45, 46] R R' ∧ I' 47 = some (nI e9.1) ∧ I' 48 = some (nI e9.2)))) ∧ (∀ (k p ib a i9 d j : Nat) (M1 : mi_H) (I1 : rI) (R1 : rR), (RS g m0 q z I1 R1 M1) → (eqI [26, 47, 48] I I1) → (eqR [34, 35, 36, 37, 38, 39, 40, 41, 42, 43, 44, 45, 46] R R1) → (I1 51 = some 0) → (I1 52 = some (nI N)) → (I1 53 = some (nI mj)) → (I1 58 = some (nI cf)) → (I1 56 = some (nI pM)) → (I1 26 = some (nI (f0 + k))) → (I1 9 = some (nI si)) → (I1 10 = some (nI sc)) → (FK n f I1 R1) → (SYT tx cN A I1 R1) → (RPV f n E tx N I1 R1) → (KX I1 R1) → (FN 35 36 f n E tx B f0 k I1 R1) → (CE 34 (f0 + k) (nI (by2 f p)) I1 R1) → (CE 35 (f0 + k) (nI a) I1 R1) → (CE 36 (f0 + k) (nI d) I1 R1) → (CX 0 (f0 + k) I1 R1) → (k < by2 f pM) → (p = B.getD k 0) → (p + 8 ≤ n) → (mtS f n E cf mj B (B.length - k) k = mtS f n E cf mj B B.length 0) → ((ib = 0 ∧ aN cf 512 = 0) ∨ (ib = 1 ∧ ¬ aN cf 512 = 0)) → (a < tx.length ∧ tx.getD a [] = tX f n E (by2 f (p + 2))) → (tg f E (by2 f (p + 2)) = 1) → (¬ mnmN f n E cf (by2 f (p + 2)) = 0) → (¬ mflN f n E cf mj (by2 f p) (by2 f (p + 2)) = 0) → ((i9 = 1 ∧ ¬ eqN (tX f n E (by2 f (p + 2))) (ltx 13) = 0) ∨ (i9 = 0 ∧ eqN (tX f n E (by2 f (p + 2))) (ltx 13) = 0)) → (d < tx.length ∧ tx.getD d [] = tX f n E (by2 f (p + 4))) → (tg f E (by2 f (p + 4)) = 1) → (¬ mthN (tX f n E (by2 f (p + 4))) = 0) → (¬ mdsN f n E (by2 f (p + 2)) (by2 f (p + 4)) (apN f n E p) = 0) → (j ≤ k) → (f0 + k < 8300) → (smeS f n E B (by2 f (p + 2)) (by2 f (p + 4)) (k - j) j = smeS f n E B (by2 f (p + 2)) (by2 f (p + 4)) k 0) →  pl (mT g) kf (mb_191 g).2 (399, [(0, .ref m0), (1, .int (nI p)), (2, .int (nI (by2 f pM))), (3, .int (nI f0)), (4, .int (nI ib)), (5, .int (nI k)), (6, .int (nI (by2 f p))), (7, .int (nI a)), (9, .int (nI i9)), (10, .int (nI d)), (11, .int (nI (f0 + k))), (12, .int (nI (f0 + j)))], [], M1) (fun v M' => (∃  (I' : rI) (R' : rR), (mtS f n E cf mj B B.length 0 = none) ∧ v = some (.int 1) ∧ RS g m0 q z I' R' M' ∧ eqI [26, 47, 48] I I' ∧ eqR [34, 35, 36, 37, 38, 39, 40, 41, 42, 43, 44, 45, 46] R R' ∧ I' 26 = some (nI (f0 + B.length)) ∧ FN 35 36 f n E tx B f0 B.length I' R') ∨ (∃ (e9 : Nat × Nat) (I' : rI) (R' : rR), (mtS f n E cf mj B B.length 0 = some e9) ∧ v = some (.int 0) ∧ RS g m0 q z I' R' M' ∧ eqI [26, 47, 48] I I' ∧ eqR [34, 35, 36, 37, 38, 39, 40, 41, 42, 43, 44, 45, 46] R R' ∧ I' 47 = some (nI e9.1) ∧ I' 48 = some (nI e9.2)))) := by
    intro kf
    induction kf with
    | zero => exact ⟨by intros; exact pl_0, by intros; exact pl_0, by intros; exact pl_0, by intros; exact pl_0⟩
    | succ kf ih =>
      refine ⟨?_, ?_, ?_, ?_⟩
      · skip
        intro k p ib M1 I1 R1 hR1 hEI1 hER1 hl51 hl52 hl53 hl58 hl56 hl26 hl9 hl10 hF1 hY1 hP1 hK1 hN91 hk hp hpn hs hib
        have hn := hF1.1
        have hu9 := by2_lt f pM
        have htl := hY1.1.2.2.1
        have hBl := hMB.1
        have hi7 := hsi.1
        have hc7 := hsc.1
        refine ps_st1 (S' := (42, [(0, .ref m0), (1, .int (nI p)), (2, .int (nI (by2 f pM))), (3, .int (nI f0)), (4, .int (nI ib)), (5, .int (nI k))], [.int (nI k)], M1)) rfl rfl rfl ?_
        refine ps_st (S' := (43, [(0, .ref m0), (1, .int (nI p)), (2, .int (nI (by2 f pM))), (3, .int (nI f0)), (4, .int (nI ib)), (5, .int (nI k))], [.int (nI (by2 f pM)), .int (nI k)], M1)) rfl rfl rfl ?_
        refine ps_if2 (S1 := (532, [(0, .ref m0), (1, .int (nI p)), (2, .int (nI (by2 f pM))), (3, .int (nI f0)), (4, .int (nI ib)), (5, .int (nI k))], [], M1)) (S2 := (46, [(0, .ref m0), (1, .int (nI p)), (2, .int (nI (by2 f pM))), (3, .int (nI f0)), (4, .int (nI ib)), (5, .int (nI k))], [], M1)) rfl rfl rfl (fun c_43 => ?_) (fun c_43 => ?_)
        · have c_43 : (nI (by2 f pM)) ≤ (nI k) := of_decide_eq_true c_43
          have n_43 : by2 f pM ≤ k := (le_nI (p := by2 f pM) (n := k) (Nat.lt_trans (by2_lt _ _) (by decide)) (by omega)).mp c_43
          refine ps_st (S' := (533, [(0, .ref m0), (1, .int (nI p)), (2, .int (nI (by2 f pM))), (3, .int (nI f0)), (4, .int (nI ib)), (5, .int (nI k))], [.int 1], M1)) rfl rfl rfl ?_
          exact ps_ret rfl rfl (Or.inl ⟨I1, R1, by
              rw [← hs, show B.length - k = 0 by omega]
              rfl, rfl, hR1, hEI1, hER1, by rw [show B.length = k by omega]; exact hl26, by rw [show B.length = k by omega]; exact hN91⟩)
        · have c_43 : ¬ ((nI (by2 f pM)) ≤ (nI k)) := of_decide_eq_false c_43
          have n_43 : ¬ (by2 f pM ≤ k) := fun h9 => c_43 ((le_nI (p := by2 f pM) (n := k) (Nat.lt_trans (by2_lt _ _) (by decide)) (by omega)).mpr h9)
          have hpk := hp (by omega)
          have hm8 := (hMB.2.2.2 k (by omega)).1
          have hm7 := (hMB.2.2.2 k (by omega)).2.1
          rw [← hpk] at hm8
          have hpe : p + 8 ≤ n := by omega
          have hu8 := by2_lt f p
          refine ps_st (S' := (47, [(0, .ref m0), (1, .int (nI p)), (2, .int (nI (by2 f pM))), (3, .int (nI f0)), (4, .int (nI ib)), (5, .int (nI k))], [.ref m0], M1)) rfl rfl rfl ?_
          refine ps_st (S' := (48, [(0, .ref m0), (1, .int (nI p)), (2, .int (nI (by2 f pM))), (3, .int (nI f0)), (4, .int (nI ib)), (5, .int (nI k))], [.int (nI p), .ref m0], M1)) rfl rfl rfl ?_
          refine pl_call (a := [.ref m0, .int (nI p)]) (rest := []) rfl rfl rfl (rd_u2 (n := n) (f := f) (p := p) hR1 hF1 (by omega)) (fun v1 M2 q3 => ?_)
          obtain ⟨rfl, rfl⟩ := q3
          show pl _ _ _ (51, [(0, .ref m0), (1, .int (nI p)), (2, .int (nI (by2 f pM))), (3, .int (nI f0)), (4, .int (nI ib)), (5, .int (nI k))], [.int (nI (by2 f p))], M1) _
          have hu_48 := by2_lt f p
          refine ps_st (S' := (53, [(6, .int (nI (by2 f p))), (0, .ref m0), (1, .int (nI p)), (2, .int (nI (by2 f pM))), (3, .int (nI f0)), (4, .int (nI ib)), (5, .int (nI k))], [], M1)) rfl rfl rfl ?_
          refine ps_st (S' := (54, [(6, .int (nI (by2 f p))), (0, .ref m0), (1, .int (nI p)), (2, .int (nI (by2 f pM))), (3, .int (nI f0)), (4, .int (nI ib)), (5, .int (nI k))], [.ref m0], M1)) rfl rfl rfl ?_
          refine ps_st (S' := (55, [(6, .int (nI (by2 f p))), (0, .ref m0), (1, .int (nI p)), (2, .int (nI (by2 f pM))), (3, .int (nI f0)), (4, .int (nI ib)), (5, .int (nI k))], [.ref m0, .ref m0], M1)) rfl rfl rfl ?_
          refine ps_st (S' := (56, [(6, .int (nI (by2 f p))), (0, .ref m0), (1, .int (nI p)), (2, .int (nI (by2 f pM))), (3, .int (nI f0)), (4, .int (nI ib)), (5, .int (nI k))], [.int (nI p), .ref m0, .ref m0], M1)) rfl rfl rfl ?_
          refine ps_st (S' := (57, [(6, .int (nI (by2 f p))), (0, .ref m0), (1, .int (nI p)), (2, .int (nI (by2 f pM))), (3, .int (nI f0)), (4, .int (nI ib)), (5, .int (nI k))], [.int 2, .int (nI p), .ref m0, .ref m0], M1)) rfl rfl rfl ?_
          refine ps_st (S' := (58, [(6, .int (nI (by2 f p))), (0, .ref m0), (1, .int (nI p)), (2, .int (nI (by2 f pM))), (3, .int (nI f0)), (4, .int (nI ib)), (5, .int (nI k))], [.int ((nI p) + 2), .ref m0, .ref m0], M1)) rfl rfl rfl ?_
          rw [nI_add1 (p := p) (k := 2) (x := 2) rfl (by omega)]
          show pl _ _ _ (_, [(6, .int (nI (by2 f p))), (0, .ref m0), (1, .int (nI p)), (2, .int (nI (by2 f pM))), (3, .int (nI f0)), (4, .int (nI ib)), (5, .int (nI k))], [.int (nI (p + 2)), .ref m0, .ref m0], M1) _
          refine pl_call (a := [.ref m0, .int (nI (p + 2))]) (rest := [.ref m0]) rfl rfl rfl (rd_u2 (n := n) (f := f) (p := (p + 2)) hR1 hF1 (by omega)) (fun v4 M5 q6 => ?_)
          obtain ⟨rfl, rfl⟩ := q6
          show pl _ _ _ (61, [(6, .int (nI (by2 f p))), (0, .ref m0), (1, .int (nI p)), (2, .int (nI (by2 f pM))), (3, .int (nI f0)), (4, .int (nI ib)), (5, .int (nI k))], [.int (nI (by2 f (p + 2))), .ref m0], M1) _
          have hu_58 := by2_lt f (p + 2)
          refine pl_call (a := [.ref m0, .int (nI (by2 f (p + 2)))]) (rest := []) rfl rfl rfl (rd_tag (n := n) (f := f) (tx := tx) (cN := cN) (A := A) (N := N) (mj := mj) (E := E) (k := (by2 f (p + 2))) hR1 hl51 hl52 hl53 hF1 hY1 hP1 (hEP) (hN) (hmj) (by2_lt _ _)) (fun v7 M8 q9 => ?_)
          obtain ⟨rfl, rfl⟩ := q9
          show pl _ _ _ (64, [(6, .int (nI (by2 f p))), (0, .ref m0), (1, .int (nI p)), (2, .int (nI (by2 f pM))), (3, .int (nI f0)), (4, .int (nI ib)), (5, .int (nI k))], [.int (nI (tg f E (by2 f (p + 2))))], M1) _
          have htg_61 := tg_lt f E (by2 f (p + 2))
          refine ps_st (S' := (65, [(6, .int (nI (by2 f p))), (0, .ref m0), (1, .int (nI p)), (2, .int (nI (by2 f pM))), (3, .int (nI f0)), (4, .int (nI ib)), (5, .int (nI k))], [.int 1, .int (nI (tg f E (by2 f (p + 2))))], M1)) rfl rfl rfl ?_
          refine ps_if2 (S1 := (82, [(6, .int (nI (by2 f p))), (0, .ref m0), (1, .int (nI p)), (2, .int (nI (by2 f pM))), (3, .int (nI f0)), (4, .int (nI ib)), (5, .int (nI k))], [], M1)) (S2 := (68, [(6, .int (nI (by2 f p))), (0, .ref m0), (1, .int (nI p)), (2, .int (nI (by2 f pM))), (3, .int (nI f0)), (4, .int (nI ib)), (5, .int (nI k))], [], M1)) rfl rfl rfl (fun c_65 => ?_) (fun c_65 => ?_)
          · have c_65 : ¬ (nI (tg f E (by2 f (p + 2)))) = 1 := of_decide_eq_true c_65
            have n_65 : ¬ (tg f E (by2 f (p + 2)) = 1) := fun h9 => c_65 ((eq_nI (p := tg f E (by2 f (p + 2))) (n := 1) (Nat.lt_trans (tg_lt _ _ _) (by decide)) (by decide)).mpr h9)
            refine ps_st (S' := (83, [(0, .ref m0), (1, .int (nI p)), (2, .int (nI (by2 f pM))), (3, .int (nI f0)), (4, .int (nI ib)), (5, .int (nI k)), (6, .int (nI (by2 f p)))], [.int (-1)], M1)) rfl rfl rfl ?_
            refine ps_st (S' := (85, [(7, .int (-1)), (0, .ref m0), (1, .int (nI p)), (2, .int (nI (by2 f pM))), (3, .int (nI f0)), (4, .int (nI ib)), (5, .int (nI k)), (6, .int (nI (by2 f p)))], [], M1)) rfl rfl rfl ?_
            refine ps_st (S' := (87, [(7, .int (-1)), (0, .ref m0), (1, .int (nI p)), (2, .int (nI (by2 f pM))), (3, .int (nI f0)), (4, .int (nI ib)), (5, .int (nI k)), (6, .int (nI (by2 f p)))], [.int (-1)], M1)) rfl rfl rfl ?_
            refine ps_st (S' := (88, [(7, .int (-1)), (0, .ref m0), (1, .int (nI p)), (2, .int (nI (by2 f pM))), (3, .int (nI f0)), (4, .int (nI ib)), (5, .int (nI k)), (6, .int (nI (by2 f p)))], [.ref m0, .int (-1)], M1)) rfl rfl rfl ?_
            refine pr_int (j := 9) (S' := (91, [(7, .int (-1)), (0, .ref m0), (1, .int (nI p)), (2, .int (nI (by2 f pM))), (3, .int (nI f0)), (4, .int (nI ib)), (5, .int (nI k)), (6, .int (nI (by2 f p)))], [.int (nI si), .int (-1)], M1)) rfl hR1 rfl hl9 rfl ?_
            refine ps_if2 (S1 := (98, [(7, .int (-1)), (0, .ref m0), (1, .int (nI p)), (2, .int (nI (by2 f pM))), (3, .int (nI f0)), (4, .int (nI ib)), (5, .int (nI k)), (6, .int (nI (by2 f p)))], [], M1)) (S2 := (94, [(7, .int (-1)), (0, .ref m0), (1, .int (nI p)), (2, .int (nI (by2 f pM))), (3, .int (nI f0)), (4, .int (nI ib)), (5, .int (nI k)), (6, .int (nI (by2 f p)))], [], M1)) rfl rfl rfl (fun c_91 => ?_) (fun c_91 => ?_)
            rotate_left
            · exact absurd (m1_ne (by omega)) (of_decide_eq_false c_91)
            refine ps_st (S' := (99, [(0, .ref m0), (1, .int (nI p)), (2, .int (nI (by2 f pM))), (3, .int (nI f0)), (4, .int (nI ib)), (5, .int (nI k)), (6, .int (nI (by2 f p))), (7, .int (-1))], [.int 0], M1)) rfl rfl rfl ?_
            refine ps_st (S' := (101, [(8, .int 0), (0, .ref m0), (1, .int (nI p)), (2, .int (nI (by2 f pM))), (3, .int (nI f0)), (4, .int (nI ib)), (5, .int (nI k)), (6, .int (nI (by2 f p))), (7, .int (-1))], [], M1)) rfl rfl rfl ?_
            refine ps_st (S' := (103, [(8, .int 0), (0, .ref m0), (1, .int (nI p)), (2, .int (nI (by2 f pM))), (3, .int (nI f0)), (4, .int (nI ib)), (5, .int (nI k)), (6, .int (nI (by2 f p))), (7, .int (-1))], [.int (-1)], M1)) rfl rfl rfl ?_
            refine ps_st (S' := (104, [(8, .int 0), (0, .ref m0), (1, .int (nI p)), (2, .int (nI (by2 f pM))), (3, .int (nI f0)), (4, .int (nI ib)), (5, .int (nI k)), (6, .int (nI (by2 f p))), (7, .int (-1))], [.ref m0, .int (-1)], M1)) rfl rfl rfl ?_
            refine pr_int (j := 10) (S' := (107, [(8, .int 0), (0, .ref m0), (1, .int (nI p)), (2, .int (nI (by2 f pM))), (3, .int (nI f0)), (4, .int (nI ib)), (5, .int (nI k)), (6, .int (nI (by2 f p))), (7, .int (-1))], [.int (nI sc), .int (-1)], M1)) rfl hR1 rfl hl10 rfl ?_
            refine ps_if2 (S1 := (114, [(8, .int 0), (0, .ref m0), (1, .int (nI p)), (2, .int (nI (by2 f pM))), (3, .int (nI f0)), (4, .int (nI ib)), (5, .int (nI k)), (6, .int (nI (by2 f p))), (7, .int (-1))], [], M1)) (S2 := (110, [(8, .int 0), (0, .ref m0), (1, .int (nI p)), (2, .int (nI (by2 f pM))), (3, .int (nI f0)), (4, .int (nI ib)), (5, .int (nI k)), (6, .int (nI (by2 f p))), (7, .int (-1))], [], M1)) rfl rfl rfl (fun c_107 => ?_) (fun c_107 => ?_)
            rotate_left
            · exact absurd (m1_ne (by omega)) (of_decide_eq_false c_107)
            refine ps_st (S' := (115, [(0, .ref m0), (1, .int (nI p)), (2, .int (nI (by2 f pM))), (3, .int (nI f0)), (4, .int (nI ib)), (5, .int (nI k)), (6, .int (nI (by2 f p))), (7, .int (-1)), (8, .int 0)], [.int 0], M1)) rfl rfl rfl ?_
            refine ps_st (S' := (117, [(9, .int 0), (0, .ref m0), (1, .int (nI p)), (2, .int (nI (by2 f pM))), (3, .int (nI f0)), (4, .int (nI ib)), (5, .int (nI k)), (6, .int (nI (by2 f p))), (7, .int (-1)), (8, .int 0)], [], M1)) rfl rfl rfl ?_
            refine ps_st (S' := (119, [(9, .int 0), (0, .ref m0), (1, .int (nI p)), (2, .int (nI (by2 f pM))), (3, .int (nI f0)), (4, .int (nI ib)), (5, .int (nI k)), (6, .int (nI (by2 f p))), (7, .int (-1)), (8, .int 0)], [.int (-1)], M1)) rfl rfl rfl ?_
            refine ps_if (S1 := (147, [(0, .ref m0), (1, .int (nI p))], [], M1)) (S2 := (122, [(9, .int 0), (0, .ref m0), (1, .int (nI p)), (2, .int (nI (by2 f pM))), (3, .int (nI f0)), (4, .int (nI ib)), (5, .int (nI k)), (6, .int (nI (by2 f p))), (7, .int (-1)), (8, .int 0)], [], M1)) rfl rfl rfl (fun c_119 => ?_) (fun c_119 => ?_)
            rotate_left
            · exact absurd (by decide) (of_decide_eq_false c_119)
            refine ps_st (S' := (148, [(0, .ref m0), (1, .int (nI p))], [.ref m0], M1)) rfl rfl rfl ?_
            refine ps_st (S' := (150, [(0, .ref m0), (1, .int (nI p))], [.int 24, .ref m0], M1)) rfl rfl rfl ?_
            refine ps_st (S' := (151, [(0, .ref m0), (1, .int (nI p))], [.int (nI p), .int 24, .ref m0], M1)) rfl rfl rfl ?_
            refine ps_st (S' := (152, [(0, .ref m0), (1, .int (nI p))], [.int 2, .int (nI p), .int 24, .ref m0], M1)) rfl rfl rfl ?_
            refine ps_st (S' := (153, [(0, .ref m0), (1, .int (nI p))], [.int ((nI p) + 2), .int 24, .ref m0], M1)) rfl rfl rfl ?_
            rw [nI_add1 (p := p) (k := 2) (x := 2) rfl (by omega)]
            show pl _ _ _ (_, [(0, .ref m0), (1, .int (nI p))], [.int (nI (p + 2)), .int 24, .ref m0], M1) _
            refine pl_call (a := [.ref m0, .int 24, .int (nI (p + 2))]) (rest := []) rfl rfl rfl (rd_wrong (x1 := 24) (x2 := (nI (p + 2))) hR1) (fun v10 M11 q12 => ?_)
            obtain ⟨I13, R14, rfl, hR15, hI16, hX17, hi18, hi19⟩ := q12
            have hi20 := (hI16 51 (by decide)).trans hl51
            have hi21 := (hI16 52 (by decide)).trans hl52
            have hi22 := (hI16 53 (by decide)).trans hl53
            have hi23 := (hI16 58 (by decide)).trans hl58
            have hi24 := (hI16 56 (by decide)).trans hl56
            have hi25 := (hI16 26 (by decide)).trans hl26
            have hi26 := (hI16 9 (by decide)).trans hl9
            have hi27 := (hI16 10 (by decide)).trans hl10
            have hF_28 := hF1.mono (cIx hI16 (by decide)) (cRx hX17 (by decide))
            have hY_29 := hY1.mono (cIx hI16 (by decide)) (cRx hX17 (by decide))
            have hP_30 := hP1.mono (cIx hI16 (by decide)) (cRx hX17 (by decide))
            have hK_31 := hK1.mono (cIx hI16 (by decide)) (cRx hX17 (by decide))
            have hN9_32 := hN91.mono (cIx hI16 (by decide)) (cRx hX17 (by decide))
            have hEI33 := hEI1.tr hI16 (by decide)
            have hER34 := hER1.tr hX17 (by decide)
            show pl _ _ _ (156, [(0, .ref m0), (1, .int (nI p))], [.int 0], M11) _
            exact ps_ret rfl rfl (Or.inr ⟨(24, p + 2), I13, R14, by
                rw [← hs, mtS_st (i := k) (by omega), ← hpk, mh_24 (mnm_no (by omega))], rfl, hR15, hEI33, hER34, hi18, hi19⟩)
          · have c_65 : ¬ (¬ (nI (tg f E (by2 f (p + 2)))) = 1) := of_decide_eq_false c_65
            have n_65 : tg f E (by2 f (p + 2)) = 1 := (eq_nI (p := tg f E (by2 f (p + 2))) (n := 1) (Nat.lt_trans (tg_lt _ _ _) (by decide)) (by decide)).mp (Decidable.not_not.mp c_65)
            refine ps_st (S' := (69, [(6, .int (nI (by2 f p))), (0, .ref m0), (1, .int (nI p)), (2, .int (nI (by2 f pM))), (3, .int (nI f0)), (4, .int (nI ib)), (5, .int (nI k))], [.ref m0], M1)) rfl rfl rfl ?_
            refine ps_st (S' := (70, [(6, .int (nI (by2 f p))), (0, .ref m0), (1, .int (nI p)), (2, .int (nI (by2 f pM))), (3, .int (nI f0)), (4, .int (nI ib)), (5, .int (nI k))], [.ref m0, .ref m0], M1)) rfl rfl rfl ?_
            refine ps_st (S' := (71, [(6, .int (nI (by2 f p))), (0, .ref m0), (1, .int (nI p)), (2, .int (nI (by2 f pM))), (3, .int (nI f0)), (4, .int (nI ib)), (5, .int (nI k))], [.int (nI p), .ref m0, .ref m0], M1)) rfl rfl rfl ?_
            refine ps_st (S' := (72, [(6, .int (nI (by2 f p))), (0, .ref m0), (1, .int (nI p)), (2, .int (nI (by2 f pM))), (3, .int (nI f0)), (4, .int (nI ib)), (5, .int (nI k))], [.int 2, .int (nI p), .ref m0, .ref m0], M1)) rfl rfl rfl ?_
            refine ps_st (S' := (73, [(6, .int (nI (by2 f p))), (0, .ref m0), (1, .int (nI p)), (2, .int (nI (by2 f pM))), (3, .int (nI f0)), (4, .int (nI ib)), (5, .int (nI k))], [.int ((nI p) + 2), .ref m0, .ref m0], M1)) rfl rfl rfl ?_
            rw [nI_add1 (p := p) (k := 2) (x := 2) rfl (by omega)]
            show pl _ _ _ (_, [(6, .int (nI (by2 f p))), (0, .ref m0), (1, .int (nI p)), (2, .int (nI (by2 f pM))), (3, .int (nI f0)), (4, .int (nI ib)), (5, .int (nI k))], [.int (nI (p + 2)), .ref m0, .ref m0], M1) _
            refine pl_call (a := [.ref m0, .int (nI (p + 2))]) (rest := [.ref m0]) rfl rfl rfl (rd_u2 (n := n) (f := f) (p := (p + 2)) hR1 hF1 (by omega)) (fun v35 M36 q37 => ?_)
            obtain ⟨rfl, rfl⟩ := q37
            show pl _ _ _ (76, [(6, .int (nI (by2 f p))), (0, .ref m0), (1, .int (nI p)), (2, .int (nI (by2 f pM))), (3, .int (nI f0)), (4, .int (nI ib)), (5, .int (nI k))], [.int (nI (by2 f (p + 2))), .ref m0], M1) _
            have hu_73 := by2_lt f (p + 2)
            refine pl_call (a := [.ref m0, .int (nI (by2 f (p + 2)))]) (rest := []) rfl rfl rfl (rd_symOf (n := n) (f := f) (tx := tx) (cN := cN) (A := A) (N := N) (mj := mj) (E := E) (k := (by2 f (p + 2))) hR1 hl51 hl52 hl53 hF1 hY1 hP1 (hEP) (hN) (hmj) (by omega)) (fun v38 M39 q40 => ?_)
            obtain ⟨s41, q76_s, rfl, rfl⟩ := q40
            show pl _ _ _ (79, [(6, .int (nI (by2 f p))), (0, .ref m0), (1, .int (nI p)), (2, .int (nI (by2 f pM))), (3, .int (nI f0)), (4, .int (nI ib)), (5, .int (nI k))], [.int (nI s41)], M1) _
            have hsl_76 := q76_s.1
            have htl_76 := hY1.1.2.2.1
            refine ps_st (S' := (83, [(0, .ref m0), (1, .int (nI p)), (2, .int (nI (by2 f pM))), (3, .int (nI f0)), (4, .int (nI ib)), (5, .int (nI k)), (6, .int (nI (by2 f p)))], [.int (nI s41)], M1)) rfl rfl rfl ?_
            refine ps_st (S' := (85, [(7, .int (nI s41)), (0, .ref m0), (1, .int (nI p)), (2, .int (nI (by2 f pM))), (3, .int (nI f0)), (4, .int (nI ib)), (5, .int (nI k)), (6, .int (nI (by2 f p)))], [], M1)) rfl rfl rfl ?_
            have he1 := sym_eq hY1 q76_s hsi
            have he2 := sym_eq hY1 q76_s hsc
            have hic := ic_no (l := tX f n E (by2 f (p + 2)))
            have hiu := ic_unq (l := tX f n E (by2 f (p + 2)))
            refine ps_st (S' := (87, [(7, .int (nI s41)), (0, .ref m0), (1, .int (nI p)), (2, .int (nI (by2 f pM))), (3, .int (nI f0)), (4, .int (nI ib)), (5, .int (nI k)), (6, .int (nI (by2 f p)))], [.int (nI s41)], M1)) rfl rfl rfl ?_
            refine ps_st (S' := (88, [(7, .int (nI s41)), (0, .ref m0), (1, .int (nI p)), (2, .int (nI (by2 f pM))), (3, .int (nI f0)), (4, .int (nI ib)), (5, .int (nI k)), (6, .int (nI (by2 f p)))], [.ref m0, .int (nI s41)], M1)) rfl rfl rfl ?_
            refine pr_int (j := 9) (S' := (91, [(7, .int (nI s41)), (0, .ref m0), (1, .int (nI p)), (2, .int (nI (by2 f pM))), (3, .int (nI f0)), (4, .int (nI ib)), (5, .int (nI k)), (6, .int (nI (by2 f p)))], [.int (nI si), .int (nI s41)], M1)) rfl hR1 rfl hl9 rfl ?_
            refine ps_if2 (S1 := (98, [(7, .int (nI s41)), (0, .ref m0), (1, .int (nI p)), (2, .int (nI (by2 f pM))), (3, .int (nI f0)), (4, .int (nI ib)), (5, .int (nI k)), (6, .int (nI (by2 f p)))], [], M1)) (S2 := (94, [(7, .int (nI s41)), (0, .ref m0), (1, .int (nI p)), (2, .int (nI (by2 f pM))), (3, .int (nI f0)), (4, .int (nI ib)), (5, .int (nI k)), (6, .int (nI (by2 f p)))], [], M1)) rfl rfl rfl (fun c_91 => ?_) (fun c_91 => ?_)
            · have c_91 : ¬ (nI s41) = (nI si) := of_decide_eq_true c_91
              have n_91 : ¬ (s41 = si) := fun h9 => c_91 ((eq_nI (p := s41) (n := si) (by omega) (by omega)).mpr h9)
              refine ps_st (S' := (99, [(0, .ref m0), (1, .int (nI p)), (2, .int (nI (by2 f pM))), (3, .int (nI f0)), (4, .int (nI ib)), (5, .int (nI k)), (6, .int (nI (by2 f p))), (7, .int (nI s41))], [.int 0], M1)) rfl rfl rfl ?_
              refine ps_st (S' := (101, [(8, .int 0), (0, .ref m0), (1, .int (nI p)), (2, .int (nI (by2 f pM))), (3, .int (nI f0)), (4, .int (nI ib)), (5, .int (nI k)), (6, .int (nI (by2 f p))), (7, .int (nI s41))], [], M1)) rfl rfl rfl ?_
              refine ps_st (S' := (103, [(8, .int 0), (0, .ref m0), (1, .int (nI p)), (2, .int (nI (by2 f pM))), (3, .int (nI f0)), (4, .int (nI ib)), (5, .int (nI k)), (6, .int (nI (by2 f p))), (7, .int (nI s41))], [.int (nI s41)], M1)) rfl rfl rfl ?_
              refine ps_st (S' := (104, [(8, .int 0), (0, .ref m0), (1, .int (nI p)), (2, .int (nI (by2 f pM))), (3, .int (nI f0)), (4, .int (nI ib)), (5, .int (nI k)), (6, .int (nI (by2 f p))), (7, .int (nI s41))], [.ref m0, .int (nI s41)], M1)) rfl rfl rfl ?_
              refine pr_int (j := 10) (S' := (107, [(8, .int 0), (0, .ref m0), (1, .int (nI p)), (2, .int (nI (by2 f pM))), (3, .int (nI f0)), (4, .int (nI ib)), (5, .int (nI k)), (6, .int (nI (by2 f p))), (7, .int (nI s41))], [.int (nI sc), .int (nI s41)], M1)) rfl hR1 rfl hl10 rfl ?_
              refine ps_if2 (S1 := (114, [(8, .int 0), (0, .ref m0), (1, .int (nI p)), (2, .int (nI (by2 f pM))), (3, .int (nI f0)), (4, .int (nI ib)), (5, .int (nI k)), (6, .int (nI (by2 f p))), (7, .int (nI s41))], [], M1)) (S2 := (110, [(8, .int 0), (0, .ref m0), (1, .int (nI p)), (2, .int (nI (by2 f pM))), (3, .int (nI f0)), (4, .int (nI ib)), (5, .int (nI k)), (6, .int (nI (by2 f p))), (7, .int (nI s41))], [], M1)) rfl rfl rfl (fun c_107 => ?_) (fun c_107 => ?_)
              · have c_107 : ¬ (nI s41) = (nI sc) := of_decide_eq_true c_107
                have n_107 : ¬ (s41 = sc) := fun h9 => c_107 ((eq_nI (p := s41) (n := sc) (by omega) (by omega)).mpr h9)
                refine ps_st (S' := (115, [(0, .ref m0), (1, .int (nI p)), (2, .int (nI (by2 f pM))), (3, .int (nI f0)), (4, .int (nI ib)), (5, .int (nI k)), (6, .int (nI (by2 f p))), (7, .int (nI s41)), (8, .int 0)], [.int 0], M1)) rfl rfl rfl ?_
                refine ps_st (S' := (117, [(9, .int 0), (0, .ref m0), (1, .int (nI p)), (2, .int (nI (by2 f pM))), (3, .int (nI f0)), (4, .int (nI ib)), (5, .int (nI k)), (6, .int (nI (by2 f p))), (7, .int (nI s41)), (8, .int 0)], [], M1)) rfl rfl rfl ?_
                refine ps_st (S' := (119, [(9, .int 0), (0, .ref m0), (1, .int (nI p)), (2, .int (nI (by2 f pM))), (3, .int (nI f0)), (4, .int (nI ib)), (5, .int (nI k)), (6, .int (nI (by2 f p))), (7, .int (nI s41)), (8, .int 0)], [.int (nI s41)], M1)) rfl rfl rfl ?_
                refine ps_if (S1 := (147, [(0, .ref m0), (1, .int (nI p))], [], M1)) (S2 := (122, [(9, .int 0), (0, .ref m0), (1, .int (nI p)), (2, .int (nI (by2 f pM))), (3, .int (nI f0)), (4, .int (nI ib)), (5, .int (nI k)), (6, .int (nI (by2 f p))), (7, .int (nI s41)), (8, .int 0)], [], M1)) rfl rfl rfl (fun c_119 => ?_) (fun c_119 => ?_)
                · exact absurd (of_decide_eq_true c_119) (show ¬ ((nI s41) < 0) from fun h9 => absurd ((lt_nI (p := s41) (n := 0) (by omega) (by decide)).mp h9) (by omega))
                refine ps_st (S' := (124, [(9, .int 0), (0, .ref m0), (1, .int (nI p)), (2, .int (nI (by2 f pM))), (3, .int (nI f0)), (4, .int (nI ib)), (5, .int (nI k)), (6, .int (nI (by2 f p))), (7, .int (nI s41)), (8, .int 0)], [.int 0], M1)) rfl rfl rfl ?_
                refine ps_if (S1 := (157, [(0, .ref m0), (1, .int (nI p)), (2, .int (nI (by2 f pM))), (3, .int (nI f0)), (4, .int (nI ib)), (5, .int (nI k)), (6, .int (nI (by2 f p))), (7, .int (nI s41)), (8, .int 0), (9, .int 0)], [], M1)) (S2 := (127, [(9, .int 0), (0, .ref m0), (1, .int (nI p)), (2, .int (nI (by2 f pM))), (3, .int (nI f0)), (4, .int (nI ib)), (5, .int (nI k)), (6, .int (nI (by2 f p))), (7, .int (nI s41)), (8, .int 0)], [], M1)) rfl rfl rfl (fun c_124 => ?_) (fun c_124 => ?_)
                · exact absurd (of_decide_eq_true c_124) (by decide)
                refine ps_st (S' := (129, [(9, .int 0), (0, .ref m0), (1, .int (nI p)), (2, .int (nI (by2 f pM))), (3, .int (nI f0)), (4, .int (nI ib)), (5, .int (nI k)), (6, .int (nI (by2 f p))), (7, .int (nI s41)), (8, .int 0)], [.int 0], M1)) rfl rfl rfl ?_
                refine ps_if (S1 := (137, [(0, .ref m0), (1, .int (nI p)), (2, .int (nI (by2 f pM))), (3, .int (nI f0)), (4, .int (nI ib)), (5, .int (nI k)), (6, .int (nI (by2 f p))), (7, .int (nI s41)), (8, .int 0), (9, .int 0)], [], M1)) (S2 := (132, [(9, .int 0), (0, .ref m0), (1, .int (nI p)), (2, .int (nI (by2 f pM))), (3, .int (nI f0)), (4, .int (nI ib)), (5, .int (nI k)), (6, .int (nI (by2 f p))), (7, .int (nI s41)), (8, .int 0)], [], M1)) rfl rfl rfl (fun c_129 => ?_) (fun c_129 => ?_)
                rotate_left
                · exact absurd (by decide) (of_decide_eq_false c_129)
                refine ps_st (S' := (138, [(0, .ref m0), (1, .int (nI p)), (2, .int (nI (by2 f pM))), (3, .int (nI f0)), (4, .int (nI ib)), (5, .int (nI k)), (6, .int (nI (by2 f p))), (7, .int (nI s41)), (8, .int 0), (9, .int 0)], [.ref m0], M1)) rfl rfl rfl ?_
                refine ps_st (S' := (140, [(0, .ref m0), (1, .int (nI p)), (2, .int (nI (by2 f pM))), (3, .int (nI f0)), (4, .int (nI ib)), (5, .int (nI k)), (6, .int (nI (by2 f p))), (7, .int (nI s41)), (8, .int 0), (9, .int 0)], [.int (nI s41), .ref m0], M1)) rfl rfl rfl ?_
                refine ps_st (S' := (141, [(0, .ref m0), (1, .int (nI p)), (2, .int (nI (by2 f pM))), (3, .int (nI f0)), (4, .int (nI ib)), (5, .int (nI k)), (6, .int (nI (by2 f p))), (7, .int (nI s41)), (8, .int 0), (9, .int 0)], [.int 0, .int (nI s41), .ref m0], M1)) rfl rfl rfl ?_
                refine pl_call (a := [.ref m0, .int (nI s41), .int 0]) (rest := []) rfl rfl rfl (rd_unq0 (tx := tx) (cN := cN) (A := A) (s := s41) (l := (tX f n E (by2 f (p + 2)))) hR1 hY1 (q76_s)) (fun v42 M43 q44 => ?_)
                obtain ⟨rfl, rfl⟩ := q44
                show pl _ _ _ (144, [(0, .ref m0), (1, .int (nI p)), (2, .int (nI (by2 f pM))), (3, .int (nI f0)), (4, .int (nI ib)), (5, .int (nI k)), (6, .int (nI (by2 f p))), (7, .int (nI s41)), (8, .int 0), (9, .int 0)], [.int (nI (unq0 (tX f n E (by2 f (p + 2)))))], M1) _
                refine ps_if (S1 := (157, [(0, .ref m0), (1, .int (nI p)), (2, .int (nI (by2 f pM))), (3, .int (nI f0)), (4, .int (nI ib)), (5, .int (nI k)), (6, .int (nI (by2 f p))), (7, .int (nI s41)), (8, .int 0), (9, .int 0)], [], M1)) (S2 := (147, [(0, .ref m0), (1, .int (nI p))], [], M1)) rfl rfl rfl (fun c_144 => ?_) (fun c_144 => ?_)
                · have c_144 : ¬ (nI (unq0 (tX f n E (by2 f (p + 2))))) = 0 := of_decide_eq_true c_144
                  have n_144 : ¬ (unq0 (tX f n E (by2 f (p + 2))) = 0) := fun h9 => c_144 ((eq_nI (p := unq0 (tX f n E (by2 f (p + 2)))) (n := 0) (Nat.lt_trans (le1_unq0 _) (by decide)) (by decide)).mpr h9)
                  refine ps_st (S' := (159, [(0, .ref m0), (1, .int (nI p)), (2, .int (nI (by2 f pM))), (3, .int (nI f0)), (4, .int (nI ib)), (5, .int (nI k)), (6, .int (nI (by2 f p))), (7, .int (nI s41)), (8, .int 0), (9, .int 0)], [.int 0], M1)) rfl rfl rfl ?_
                  refine ps_if (S1 := (183, [(0, .ref m0), (1, .int (nI p)), (2, .int (nI (by2 f pM))), (3, .int (nI f0)), (4, .int (nI ib)), (5, .int (nI k)), (6, .int (nI (by2 f p))), (7, .int (nI s41)), (8, .int 0), (9, .int 0)], [], M1)) (S2 := (162, [(0, .ref m0), (1, .int (nI p)), (2, .int (nI (by2 f pM))), (3, .int (nI f0)), (4, .int (nI ib)), (5, .int (nI k)), (6, .int (nI (by2 f p))), (7, .int (nI s41)), (8, .int 0), (9, .int 0)], [], M1)) rfl rfl rfl (fun c_159 => ?_) (fun c_159 => ?_)
                  · exact absurd (of_decide_eq_true c_159) (by decide)
                  refine ps_st (S' := (163, [(0, .ref m0), (1, .int (nI p)), (2, .int (nI (by2 f pM))), (3, .int (nI f0)), (4, .int (nI ib)), (5, .int (nI k)), (6, .int (nI (by2 f p))), (7, .int (nI s41)), (8, .int 0), (9, .int 0)], [.ref m0], M1)) rfl rfl rfl ?_
                  refine ps_st (S' := (165, [(0, .ref m0), (1, .int (nI p)), (2, .int (nI (by2 f pM))), (3, .int (nI f0)), (4, .int (nI ib)), (5, .int (nI k)), (6, .int (nI (by2 f p))), (7, .int (nI s41)), (8, .int 0), (9, .int 0)], [.int (nI (by2 f p)), .ref m0], M1)) rfl rfl rfl ?_
                  refine ps_st (S' := (167, [(0, .ref m0), (1, .int (nI p)), (2, .int (nI (by2 f pM))), (3, .int (nI f0)), (4, .int (nI ib)), (5, .int (nI k)), (6, .int (nI (by2 f p))), (7, .int (nI s41)), (8, .int 0), (9, .int 0)], [.int 0, .int (nI (by2 f p)), .ref m0], M1)) rfl rfl rfl ?_
                  refine ps_st (S' := (169, [(0, .ref m0), (1, .int (nI p)), (2, .int (nI (by2 f pM))), (3, .int (nI f0)), (4, .int (nI ib)), (5, .int (nI k)), (6, .int (nI (by2 f p))), (7, .int (nI s41)), (8, .int 0), (9, .int 0)], [.int (nI ib), .int 0, .int (nI (by2 f p)), .ref m0], M1)) rfl rfl rfl ?_
                  refine pl_call (a := [.ref m0, .int (nI (by2 f p)), .int 0, .int (nI ib)]) (rest := []) rfl rfl rfl (rd_fitX (mj := mj) (x := (by2 f p)) (c := cf) (i := 0) (ib := ib) hR1 hl53 (hmj) (hu8) (by decide) (hib)) (fun v45 M46 q47 => ?_)
                  obtain ⟨rfl, rfl⟩ := q47
                  show pl _ _ _ (172, [(0, .ref m0), (1, .int (nI p)), (2, .int (nI (by2 f pM))), (3, .int (nI f0)), (4, .int (nI ib)), (5, .int (nI k)), (6, .int (nI (by2 f p))), (7, .int (nI s41)), (8, .int 0), (9, .int 0)], [.int (nI (fitN mj cf (by2 f p) 0))], M1) _
                  have hft := le1_fit mj cf (by2 f p) 0
                  refine ps_if (S1 := (183, [(0, .ref m0), (1, .int (nI p)), (2, .int (nI (by2 f pM))), (3, .int (nI f0)), (4, .int (nI ib)), (5, .int (nI k)), (6, .int (nI (by2 f p))), (7, .int (nI s41)), (8, .int 0), (9, .int 0)], [], M1)) (S2 := (175, [(0, .ref m0), (1, .int (nI p)), (2, .int (nI (by2 f pM))), (3, .int (nI f0)), (4, .int (nI ib)), (5, .int (nI k)), (6, .int (nI (by2 f p))), (7, .int (nI s41)), (8, .int 0), (9, .int 0)], [], M1)) rfl rfl rfl (fun c_172 => ?_) (fun c_172 => ?_)
                  · have c_172 : ¬ (nI (fitN mj cf (by2 f p) 0)) = 0 := of_decide_eq_true c_172
                    have n_172 : ¬ (fitN mj cf (by2 f p) 0 = 0) := fun h9 => c_172 ((eq_nI (p := fitN mj cf (by2 f p) 0) (n := 0) (Nat.lt_trans (le1_fit _ _ _ _) (by decide)) (by decide)).mpr h9)
                    have hnm : ¬ mnmN f n E cf (by2 f (p + 2)) = 0 := by
                      have m0_ := mnm_0 (f := f) (n := n) (E := E) (c := cf) (x := by2 f (p + 2))
                      have u0_ := uq0 (l := tX f n E (by2 f (p + 2)))
                      omega
                    have hfl : ¬ mflN f n E cf mj (by2 f p) (by2 f (p + 2)) = 0 := by
                      rw [mfl_n (by omega) (by omega)]
                      omega
                    exact ih.2.1 (k) (p) (ib) (s41) (0) (0) M1 I1 R1 hR1 hEI1 hER1 hl51 hl52 hl53 hl58 hl56 hl26 hl9 hl10 hF1 hY1 hP1 hK1 hN91 (by omega) (hpk) (hpe) (hs) (hib) (q76_s) (by omega) (hnm) (hfl) (by omega) (by omega)
                  · have c_172 : ¬ (¬ (nI (fitN mj cf (by2 f p) 0)) = 0) := of_decide_eq_false c_172
                    have n_172 : fitN mj cf (by2 f p) 0 = 0 := (eq_nI (p := fitN mj cf (by2 f p) 0) (n := 0) (Nat.lt_trans (le1_fit _ _ _ _) (by decide)) (by decide)).mp (Decidable.not_not.mp c_172)
                    refine ps_st (S' := (176, [(0, .ref m0), (1, .int (nI p)), (2, .int (nI (by2 f pM))), (3, .int (nI f0)), (4, .int (nI ib)), (5, .int (nI k)), (6, .int (nI (by2 f p))), (7, .int (nI s41)), (8, .int 0), (9, .int 0)], [.ref m0], M1)) rfl rfl rfl ?_
                    refine ps_st (S' := (178, [(0, .ref m0), (1, .int (nI p)), (2, .int (nI (by2 f pM))), (3, .int (nI f0)), (4, .int (nI ib)), (5, .int (nI k)), (6, .int (nI (by2 f p))), (7, .int (nI s41)), (8, .int 0), (9, .int 0)], [.int 23, .ref m0], M1)) rfl rfl rfl ?_
                    refine ps_st (S' := (179, [(0, .ref m0), (1, .int (nI p)), (2, .int (nI (by2 f pM))), (3, .int (nI f0)), (4, .int (nI ib)), (5, .int (nI k)), (6, .int (nI (by2 f p))), (7, .int (nI s41)), (8, .int 0), (9, .int 0)], [.int (nI p), .int 23, .ref m0], M1)) rfl rfl rfl ?_
                    refine pl_call (a := [.ref m0, .int 23, .int (nI p)]) (rest := []) rfl rfl rfl (rd_wrong (x1 := 23) (x2 := (nI p)) hR1) (fun v48 M49 q50 => ?_)
                    obtain ⟨I51, R52, rfl, hR53, hI54, hX55, hi56, hi57⟩ := q50
                    have hi58 := (hI54 51 (by decide)).trans hl51
                    have hi59 := (hI54 52 (by decide)).trans hl52
                    have hi60 := (hI54 53 (by decide)).trans hl53
                    have hi61 := (hI54 58 (by decide)).trans hl58
                    have hi62 := (hI54 56 (by decide)).trans hl56
                    have hi63 := (hI54 26 (by decide)).trans hl26
                    have hi64 := (hI54 9 (by decide)).trans hl9
                    have hi65 := (hI54 10 (by decide)).trans hl10
                    have hF_66 := hF1.mono (cIx hI54 (by decide)) (cRx hX55 (by decide))
                    have hY_67 := hY1.mono (cIx hI54 (by decide)) (cRx hX55 (by decide))
                    have hP_68 := hP1.mono (cIx hI54 (by decide)) (cRx hX55 (by decide))
                    have hK_69 := hK1.mono (cIx hI54 (by decide)) (cRx hX55 (by decide))
                    have hN9_70 := hN91.mono (cIx hI54 (by decide)) (cRx hX55 (by decide))
                    have hEI71 := hEI1.tr hI54 (by decide)
                    have hER72 := hER1.tr hX55 (by decide)
                    show pl _ _ _ (182, [(0, .ref m0), (1, .int (nI p)), (2, .int (nI (by2 f pM))), (3, .int (nI f0)), (4, .int (nI ib)), (5, .int (nI k)), (6, .int (nI (by2 f p))), (7, .int (nI s41)), (8, .int 0), (9, .int 0)], [.int 0], M49) _
                    exact ps_ret rfl rfl (Or.inr ⟨(23, p), I51, R52, by
                        have m0_ := mnm_0 (f := f) (n := n) (E := E) (c := cf) (x := by2 f (p + 2))
                        have u0_ := uq0 (l := tX f n E (by2 f (p + 2)))
                        rw [← hs, mtS_st (i := k) (by omega), ← hpk, mh_23 (by omega) (by rw [mfl_n (by omega) (by omega)]; omega)], rfl, hR53, hEI71, hER72, hi56, hi57⟩)
                · have c_144 : ¬ (¬ (nI (unq0 (tX f n E (by2 f (p + 2))))) = 0) := of_decide_eq_false c_144
                  have n_144 : unq0 (tX f n E (by2 f (p + 2))) = 0 := (eq_nI (p := unq0 (tX f n E (by2 f (p + 2)))) (n := 0) (Nat.lt_trans (le1_unq0 _) (by decide)) (by decide)).mp (Decidable.not_not.mp c_144)
                  refine ps_st (S' := (148, [(0, .ref m0), (1, .int (nI p))], [.ref m0], M1)) rfl rfl rfl ?_
                  refine ps_st (S' := (150, [(0, .ref m0), (1, .int (nI p))], [.int 24, .ref m0], M1)) rfl rfl rfl ?_
                  refine ps_st (S' := (151, [(0, .ref m0), (1, .int (nI p))], [.int (nI p), .int 24, .ref m0], M1)) rfl rfl rfl ?_
                  refine ps_st (S' := (152, [(0, .ref m0), (1, .int (nI p))], [.int 2, .int (nI p), .int 24, .ref m0], M1)) rfl rfl rfl ?_
                  refine ps_st (S' := (153, [(0, .ref m0), (1, .int (nI p))], [.int ((nI p) + 2), .int 24, .ref m0], M1)) rfl rfl rfl ?_
                  rw [nI_add1 (p := p) (k := 2) (x := 2) rfl (by omega)]
                  show pl _ _ _ (_, [(0, .ref m0), (1, .int (nI p))], [.int (nI (p + 2)), .int 24, .ref m0], M1) _
                  refine pl_call (a := [.ref m0, .int 24, .int (nI (p + 2))]) (rest := []) rfl rfl rfl (rd_wrong (x1 := 24) (x2 := (nI (p + 2))) hR1) (fun v73 M74 q75 => ?_)
                  obtain ⟨I76, R77, rfl, hR78, hI79, hX80, hi81, hi82⟩ := q75
                  have hi83 := (hI79 51 (by decide)).trans hl51
                  have hi84 := (hI79 52 (by decide)).trans hl52
                  have hi85 := (hI79 53 (by decide)).trans hl53
                  have hi86 := (hI79 58 (by decide)).trans hl58
                  have hi87 := (hI79 56 (by decide)).trans hl56
                  have hi88 := (hI79 26 (by decide)).trans hl26
                  have hi89 := (hI79 9 (by decide)).trans hl9
                  have hi90 := (hI79 10 (by decide)).trans hl10
                  have hF_91 := hF1.mono (cIx hI79 (by decide)) (cRx hX80 (by decide))
                  have hY_92 := hY1.mono (cIx hI79 (by decide)) (cRx hX80 (by decide))
                  have hP_93 := hP1.mono (cIx hI79 (by decide)) (cRx hX80 (by decide))
                  have hK_94 := hK1.mono (cIx hI79 (by decide)) (cRx hX80 (by decide))
                  have hN9_95 := hN91.mono (cIx hI79 (by decide)) (cRx hX80 (by decide))
                  have hEI96 := hEI1.tr hI79 (by decide)
                  have hER97 := hER1.tr hX80 (by decide)
                  show pl _ _ _ (156, [(0, .ref m0), (1, .int (nI p))], [.int 0], M74) _
                  exact ps_ret rfl rfl (Or.inr ⟨(24, p + 2), I76, R77, by
                      rw [← hs, mtS_st (i := k) (by omega), ← hpk, mh_24 (by have m0_ := mnm_0 (f := f) (n := n) (E := E) (c := cf) (x := by2 f (p + 2)); have u0_ := uq0 (l := tX f n E (by2 f (p + 2))); omega)], rfl, hR78, hEI96, hER97, hi81, hi82⟩)
              · have c_107 : ¬ (¬ (nI s41) = (nI sc)) := of_decide_eq_false c_107
                have n_107 : s41 = sc := (eq_nI (p := s41) (n := sc) (by omega) (by omega)).mp (Decidable.not_not.mp c_107)
                refine ps_st (S' := (111, [(8, .int 0), (0, .ref m0), (1, .int (nI p)), (2, .int (nI (by2 f pM))), (3, .int (nI f0)), (4, .int (nI ib)), (5, .int (nI k)), (6, .int (nI (by2 f p))), (7, .int (nI s41))], [.int 1], M1)) rfl rfl rfl ?_
                refine ps_st (S' := (115, [(0, .ref m0), (1, .int (nI p)), (2, .int (nI (by2 f pM))), (3, .int (nI f0)), (4, .int (nI ib)), (5, .int (nI k)), (6, .int (nI (by2 f p))), (7, .int (nI s41)), (8, .int 0)], [.int 1], M1)) rfl rfl rfl ?_
                refine ps_st (S' := (117, [(9, .int 1), (0, .ref m0), (1, .int (nI p)), (2, .int (nI (by2 f pM))), (3, .int (nI f0)), (4, .int (nI ib)), (5, .int (nI k)), (6, .int (nI (by2 f p))), (7, .int (nI s41)), (8, .int 0)], [], M1)) rfl rfl rfl ?_
                refine ps_st (S' := (119, [(9, .int 1), (0, .ref m0), (1, .int (nI p)), (2, .int (nI (by2 f pM))), (3, .int (nI f0)), (4, .int (nI ib)), (5, .int (nI k)), (6, .int (nI (by2 f p))), (7, .int (nI s41)), (8, .int 0)], [.int (nI s41)], M1)) rfl rfl rfl ?_
                refine ps_if (S1 := (147, [(0, .ref m0), (1, .int (nI p))], [], M1)) (S2 := (122, [(9, .int 1), (0, .ref m0), (1, .int (nI p)), (2, .int (nI (by2 f pM))), (3, .int (nI f0)), (4, .int (nI ib)), (5, .int (nI k)), (6, .int (nI (by2 f p))), (7, .int (nI s41)), (8, .int 0)], [], M1)) rfl rfl rfl (fun c_119 => ?_) (fun c_119 => ?_)
                · exact absurd (of_decide_eq_true c_119) (show ¬ ((nI s41) < 0) from fun h9 => absurd ((lt_nI (p := s41) (n := 0) (by omega) (by decide)).mp h9) (by omega))
                refine ps_st (S' := (124, [(9, .int 1), (0, .ref m0), (1, .int (nI p)), (2, .int (nI (by2 f pM))), (3, .int (nI f0)), (4, .int (nI ib)), (5, .int (nI k)), (6, .int (nI (by2 f p))), (7, .int (nI s41)), (8, .int 0)], [.int 1], M1)) rfl rfl rfl ?_
                refine ps_if (S1 := (157, [(0, .ref m0), (1, .int (nI p)), (2, .int (nI (by2 f pM))), (3, .int (nI f0)), (4, .int (nI ib)), (5, .int (nI k)), (6, .int (nI (by2 f p))), (7, .int (nI s41)), (8, .int 0), (9, .int 1)], [], M1)) (S2 := (127, [(9, .int 1), (0, .ref m0), (1, .int (nI p)), (2, .int (nI (by2 f pM))), (3, .int (nI f0)), (4, .int (nI ib)), (5, .int (nI k)), (6, .int (nI (by2 f p))), (7, .int (nI s41)), (8, .int 0)], [], M1)) rfl rfl rfl (fun c_124 => ?_) (fun c_124 => ?_)
                rotate_left
                · exact absurd (by decide) (of_decide_eq_false c_124)
                refine ps_st (S' := (159, [(0, .ref m0), (1, .int (nI p)), (2, .int (nI (by2 f pM))), (3, .int (nI f0)), (4, .int (nI ib)), (5, .int (nI k)), (6, .int (nI (by2 f p))), (7, .int (nI s41)), (8, .int 0), (9, .int 1)], [.int 1], M1)) rfl rfl rfl ?_
                refine ps_if (S1 := (183, [(0, .ref m0), (1, .int (nI p)), (2, .int (nI (by2 f pM))), (3, .int (nI f0)), (4, .int (nI ib)), (5, .int (nI k)), (6, .int (nI (by2 f p))), (7, .int (nI s41)), (8, .int 0), (9, .int 1)], [], M1)) (S2 := (162, [(0, .ref m0), (1, .int (nI p)), (2, .int (nI (by2 f pM))), (3, .int (nI f0)), (4, .int (nI ib)), (5, .int (nI k)), (6, .int (nI (by2 f p))), (7, .int (nI s41)), (8, .int 0), (9, .int 1)], [], M1)) rfl rfl rfl (fun c_159 => ?_) (fun c_159 => ?_)
                rotate_left
                · exact absurd (by decide) (of_decide_eq_false c_159)
                have hnm : ¬ mnmN f n E cf (by2 f (p + 2)) = 0 := by
                  have m0_ := mnm_0 (f := f) (n := n) (E := E) (c := cf) (x := by2 f (p + 2))
                  have u0_ := uq0 (l := tX f n E (by2 f (p + 2)))
                  omega
                have hfl : ¬ mflN f n E cf mj (by2 f p) (by2 f (p + 2)) = 0 := by
                  rw [mfl_c (by omega)]
                  omega
                exact ih.2.1 (k) (p) (ib) (s41) (1) (0) M1 I1 R1 hR1 hEI1 hER1 hl51 hl52 hl53 hl58 hl56 hl26 hl9 hl10 hF1 hY1 hP1 hK1 hN91 (by omega) (hpk) (hpe) (hs) (hib) (q76_s) (by omega) (hnm) (hfl) (by omega) (by omega)
            · have c_91 : ¬ (¬ (nI s41) = (nI si)) := of_decide_eq_false c_91
              have n_91 : s41 = si := (eq_nI (p := s41) (n := si) (by omega) (by omega)).mp (Decidable.not_not.mp c_91)
              refine ps_st (S' := (95, [(7, .int (nI s41)), (0, .ref m0), (1, .int (nI p)), (2, .int (nI (by2 f pM))), (3, .int (nI f0)), (4, .int (nI ib)), (5, .int (nI k)), (6, .int (nI (by2 f p)))], [.int 1], M1)) rfl rfl rfl ?_
              refine ps_st (S' := (99, [(0, .ref m0), (1, .int (nI p)), (2, .int (nI (by2 f pM))), (3, .int (nI f0)), (4, .int (nI ib)), (5, .int (nI k)), (6, .int (nI (by2 f p))), (7, .int (nI s41))], [.int 1], M1)) rfl rfl rfl ?_
              refine ps_st (S' := (101, [(8, .int 1), (0, .ref m0), (1, .int (nI p)), (2, .int (nI (by2 f pM))), (3, .int (nI f0)), (4, .int (nI ib)), (5, .int (nI k)), (6, .int (nI (by2 f p))), (7, .int (nI s41))], [], M1)) rfl rfl rfl ?_
              refine ps_st (S' := (103, [(8, .int 1), (0, .ref m0), (1, .int (nI p)), (2, .int (nI (by2 f pM))), (3, .int (nI f0)), (4, .int (nI ib)), (5, .int (nI k)), (6, .int (nI (by2 f p))), (7, .int (nI s41))], [.int (nI s41)], M1)) rfl rfl rfl ?_
              refine ps_st (S' := (104, [(8, .int 1), (0, .ref m0), (1, .int (nI p)), (2, .int (nI (by2 f pM))), (3, .int (nI f0)), (4, .int (nI ib)), (5, .int (nI k)), (6, .int (nI (by2 f p))), (7, .int (nI s41))], [.ref m0, .int (nI s41)], M1)) rfl rfl rfl ?_
              refine pr_int (j := 10) (S' := (107, [(8, .int 1), (0, .ref m0), (1, .int (nI p)), (2, .int (nI (by2 f pM))), (3, .int (nI f0)), (4, .int (nI ib)), (5, .int (nI k)), (6, .int (nI (by2 f p))), (7, .int (nI s41))], [.int (nI sc), .int (nI s41)], M1)) rfl hR1 rfl hl10 rfl ?_
              refine ps_if2 (S1 := (114, [(8, .int 1), (0, .ref m0), (1, .int (nI p)), (2, .int (nI (by2 f pM))), (3, .int (nI f0)), (4, .int (nI ib)), (5, .int (nI k)), (6, .int (nI (by2 f p))), (7, .int (nI s41))], [], M1)) (S2 := (110, [(8, .int 1), (0, .ref m0), (1, .int (nI p)), (2, .int (nI (by2 f pM))), (3, .int (nI f0)), (4, .int (nI ib)), (5, .int (nI k)), (6, .int (nI (by2 f p))), (7, .int (nI s41))], [], M1)) rfl rfl rfl (fun c_107 => ?_) (fun c_107 => ?_)
              · have c_107 : ¬ (nI s41) = (nI sc) := of_decide_eq_true c_107
                have n_107 : ¬ (s41 = sc) := fun h9 => c_107 ((eq_nI (p := s41) (n := sc) (by omega) (by omega)).mpr h9)
                refine ps_st (S' := (115, [(0, .ref m0), (1, .int (nI p)), (2, .int (nI (by2 f pM))), (3, .int (nI f0)), (4, .int (nI ib)), (5, .int (nI k)), (6, .int (nI (by2 f p))), (7, .int (nI s41)), (8, .int 1)], [.int 0], M1)) rfl rfl rfl ?_
                refine ps_st (S' := (117, [(9, .int 0), (0, .ref m0), (1, .int (nI p)), (2, .int (nI (by2 f pM))), (3, .int (nI f0)), (4, .int (nI ib)), (5, .int (nI k)), (6, .int (nI (by2 f p))), (7, .int (nI s41)), (8, .int 1)], [], M1)) rfl rfl rfl ?_
                refine ps_st (S' := (119, [(9, .int 0), (0, .ref m0), (1, .int (nI p)), (2, .int (nI (by2 f pM))), (3, .int (nI f0)), (4, .int (nI ib)), (5, .int (nI k)), (6, .int (nI (by2 f p))), (7, .int (nI s41)), (8, .int 1)], [.int (nI s41)], M1)) rfl rfl rfl ?_
                refine ps_if (S1 := (147, [(0, .ref m0), (1, .int (nI p))], [], M1)) (S2 := (122, [(9, .int 0), (0, .ref m0), (1, .int (nI p)), (2, .int (nI (by2 f pM))), (3, .int (nI f0)), (4, .int (nI ib)), (5, .int (nI k)), (6, .int (nI (by2 f p))), (7, .int (nI s41)), (8, .int 1)], [], M1)) rfl rfl rfl (fun c_119 => ?_) (fun c_119 => ?_)
                · exact absurd (of_decide_eq_true c_119) (show ¬ ((nI s41) < 0) from fun h9 => absurd ((lt_nI (p := s41) (n := 0) (by omega) (by decide)).mp h9) (by omega))
                refine ps_st (S' := (124, [(9, .int 0), (0, .ref m0), (1, .int (nI p)), (2, .int (nI (by2 f pM))), (3, .int (nI f0)), (4, .int (nI ib)), (5, .int (nI k)), (6, .int (nI (by2 f p))), (7, .int (nI s41)), (8, .int 1)], [.int 0], M1)) rfl rfl rfl ?_
                refine ps_if (S1 := (157, [(0, .ref m0), (1, .int (nI p)), (2, .int (nI (by2 f pM))), (3, .int (nI f0)), (4, .int (nI ib)), (5, .int (nI k)), (6, .int (nI (by2 f p))), (7, .int (nI s41)), (8, .int 1), (9, .int 0)], [], M1)) (S2 := (127, [(9, .int 0), (0, .ref m0), (1, .int (nI p)), (2, .int (nI (by2 f pM))), (3, .int (nI f0)), (4, .int (nI ib)), (5, .int (nI k)), (6, .int (nI (by2 f p))), (7, .int (nI s41)), (8, .int 1)], [], M1)) rfl rfl rfl (fun c_124 => ?_) (fun c_124 => ?_)
                · exact absurd (of_decide_eq_true c_124) (by decide)
                refine ps_st (S' := (129, [(9, .int 0), (0, .ref m0), (1, .int (nI p)), (2, .int (nI (by2 f pM))), (3, .int (nI f0)), (4, .int (nI ib)), (5, .int (nI k)), (6, .int (nI (by2 f p))), (7, .int (nI s41)), (8, .int 1)], [.int 1], M1)) rfl rfl rfl ?_
                refine ps_if (S1 := (137, [(0, .ref m0), (1, .int (nI p)), (2, .int (nI (by2 f pM))), (3, .int (nI f0)), (4, .int (nI ib)), (5, .int (nI k)), (6, .int (nI (by2 f p))), (7, .int (nI s41)), (8, .int 1), (9, .int 0)], [], M1)) (S2 := (132, [(9, .int 0), (0, .ref m0), (1, .int (nI p)), (2, .int (nI (by2 f pM))), (3, .int (nI f0)), (4, .int (nI ib)), (5, .int (nI k)), (6, .int (nI (by2 f p))), (7, .int (nI s41)), (8, .int 1)], [], M1)) rfl rfl rfl (fun c_129 => ?_) (fun c_129 => ?_)
                · exact absurd (of_decide_eq_true c_129) (by decide)
                refine ps_st (S' := (134, [(9, .int 0), (0, .ref m0), (1, .int (nI p)), (2, .int (nI (by2 f pM))), (3, .int (nI f0)), (4, .int (nI ib)), (5, .int (nI k)), (6, .int (nI (by2 f p))), (7, .int (nI s41)), (8, .int 1)], [.int (nI ib)], M1)) rfl rfl rfl ?_
                refine ps_if (S1 := (157, [(0, .ref m0), (1, .int (nI p)), (2, .int (nI (by2 f pM))), (3, .int (nI f0)), (4, .int (nI ib)), (5, .int (nI k)), (6, .int (nI (by2 f p))), (7, .int (nI s41)), (8, .int 1), (9, .int 0)], [], M1)) (S2 := (137, [(0, .ref m0), (1, .int (nI p)), (2, .int (nI (by2 f pM))), (3, .int (nI f0)), (4, .int (nI ib)), (5, .int (nI k)), (6, .int (nI (by2 f p))), (7, .int (nI s41)), (8, .int 1), (9, .int 0)], [], M1)) rfl rfl rfl (fun c_134 => ?_) (fun c_134 => ?_)
                · have c_134 : (nI ib) = 0 := of_decide_eq_true c_134
                  have n_134 : ib = 0 := (eq_nI (p := ib) (n := 0) (by omega) (by decide)).mp c_134
                  refine ps_st (S' := (159, [(0, .ref m0), (1, .int (nI p)), (2, .int (nI (by2 f pM))), (3, .int (nI f0)), (4, .int (nI ib)), (5, .int (nI k)), (6, .int (nI (by2 f p))), (7, .int (nI s41)), (8, .int 1), (9, .int 0)], [.int 0], M1)) rfl rfl rfl ?_
                  refine ps_if (S1 := (183, [(0, .ref m0), (1, .int (nI p)), (2, .int (nI (by2 f pM))), (3, .int (nI f0)), (4, .int (nI ib)), (5, .int (nI k)), (6, .int (nI (by2 f p))), (7, .int (nI s41)), (8, .int 1), (9, .int 0)], [], M1)) (S2 := (162, [(0, .ref m0), (1, .int (nI p)), (2, .int (nI (by2 f pM))), (3, .int (nI f0)), (4, .int (nI ib)), (5, .int (nI k)), (6, .int (nI (by2 f p))), (7, .int (nI s41)), (8, .int 1), (9, .int 0)], [], M1)) rfl rfl rfl (fun c_159 => ?_) (fun c_159 => ?_)
                  · exact absurd (of_decide_eq_true c_159) (by decide)
                  refine ps_st (S' := (163, [(0, .ref m0), (1, .int (nI p)), (2, .int (nI (by2 f pM))), (3, .int (nI f0)), (4, .int (nI ib)), (5, .int (nI k)), (6, .int (nI (by2 f p))), (7, .int (nI s41)), (8, .int 1), (9, .int 0)], [.ref m0], M1)) rfl rfl rfl ?_
                  refine ps_st (S' := (165, [(0, .ref m0), (1, .int (nI p)), (2, .int (nI (by2 f pM))), (3, .int (nI f0)), (4, .int (nI ib)), (5, .int (nI k)), (6, .int (nI (by2 f p))), (7, .int (nI s41)), (8, .int 1), (9, .int 0)], [.int (nI (by2 f p)), .ref m0], M1)) rfl rfl rfl ?_
                  refine ps_st (S' := (167, [(0, .ref m0), (1, .int (nI p)), (2, .int (nI (by2 f pM))), (3, .int (nI f0)), (4, .int (nI ib)), (5, .int (nI k)), (6, .int (nI (by2 f p))), (7, .int (nI s41)), (8, .int 1), (9, .int 0)], [.int 1, .int (nI (by2 f p)), .ref m0], M1)) rfl rfl rfl ?_
                  refine ps_st (S' := (169, [(0, .ref m0), (1, .int (nI p)), (2, .int (nI (by2 f pM))), (3, .int (nI f0)), (4, .int (nI ib)), (5, .int (nI k)), (6, .int (nI (by2 f p))), (7, .int (nI s41)), (8, .int 1), (9, .int 0)], [.int (nI ib), .int 1, .int (nI (by2 f p)), .ref m0], M1)) rfl rfl rfl ?_
                  refine pl_call (a := [.ref m0, .int (nI (by2 f p)), .int 1, .int (nI ib)]) (rest := []) rfl rfl rfl (rd_fitX (mj := mj) (x := (by2 f p)) (c := cf) (i := 1) (ib := ib) hR1 hl53 (hmj) (hu8) (by decide) (hib)) (fun v98 M99 q100 => ?_)
                  obtain ⟨rfl, rfl⟩ := q100
                  show pl _ _ _ (172, [(0, .ref m0), (1, .int (nI p)), (2, .int (nI (by2 f pM))), (3, .int (nI f0)), (4, .int (nI ib)), (5, .int (nI k)), (6, .int (nI (by2 f p))), (7, .int (nI s41)), (8, .int 1), (9, .int 0)], [.int (nI (fitN mj cf (by2 f p) 1))], M1) _
                  have hft := le1_fit mj cf (by2 f p) 1
                  refine ps_if (S1 := (183, [(0, .ref m0), (1, .int (nI p)), (2, .int (nI (by2 f pM))), (3, .int (nI f0)), (4, .int (nI ib)), (5, .int (nI k)), (6, .int (nI (by2 f p))), (7, .int (nI s41)), (8, .int 1), (9, .int 0)], [], M1)) (S2 := (175, [(0, .ref m0), (1, .int (nI p)), (2, .int (nI (by2 f pM))), (3, .int (nI f0)), (4, .int (nI ib)), (5, .int (nI k)), (6, .int (nI (by2 f p))), (7, .int (nI s41)), (8, .int 1), (9, .int 0)], [], M1)) rfl rfl rfl (fun c_172 => ?_) (fun c_172 => ?_)
                  · have c_172 : ¬ (nI (fitN mj cf (by2 f p) 1)) = 0 := of_decide_eq_true c_172
                    have n_172 : ¬ (fitN mj cf (by2 f p) 1 = 0) := fun h9 => c_172 ((eq_nI (p := fitN mj cf (by2 f p) 1) (n := 0) (Nat.lt_trans (le1_fit _ _ _ _) (by decide)) (by decide)).mpr h9)
                    have hnm : ¬ mnmN f n E cf (by2 f (p + 2)) = 0 := by
                      have m0_ := mnm_0 (f := f) (n := n) (E := E) (c := cf) (x := by2 f (p + 2))
                      have u0_ := uq0 (l := tX f n E (by2 f (p + 2)))
                      omega
                    have hfl : ¬ mflN f n E cf mj (by2 f p) (by2 f (p + 2)) = 0 := by
                      rw [mfl_i (by omega) (by omega)]
                      omega
                    exact ih.2.1 (k) (p) (ib) (s41) (0) (1) M1 I1 R1 hR1 hEI1 hER1 hl51 hl52 hl53 hl58 hl56 hl26 hl9 hl10 hF1 hY1 hP1 hK1 hN91 (by omega) (hpk) (hpe) (hs) (hib) (q76_s) (by omega) (hnm) (hfl) (by omega) (by omega)
                  · have c_172 : ¬ (¬ (nI (fitN mj cf (by2 f p) 1)) = 0) := of_decide_eq_false c_172
                    have n_172 : fitN mj cf (by2 f p) 1 = 0 := (eq_nI (p := fitN mj cf (by2 f p) 1) (n := 0) (Nat.lt_trans (le1_fit _ _ _ _) (by decide)) (by decide)).mp (Decidable.not_not.mp c_172)
                    refine ps_st (S' := (176, [(0, .ref m0), (1, .int (nI p)), (2, .int (nI (by2 f pM))), (3, .int (nI f0)), (4, .int (nI ib)), (5, .int (nI k)), (6, .int (nI (by2 f p))), (7, .int (nI s41)), (8, .int 1), (9, .int 0)], [.ref m0], M1)) rfl rfl rfl ?_
                    refine ps_st (S' := (178, [(0, .ref m0), (1, .int (nI p)), (2, .int (nI (by2 f pM))), (3, .int (nI f0)), (4, .int (nI ib)), (5, .int (nI k)), (6, .int (nI (by2 f p))), (7, .int (nI s41)), (8, .int 1), (9, .int 0)], [.int 23, .ref m0], M1)) rfl rfl rfl ?_
                    refine ps_st (S' := (179, [(0, .ref m0), (1, .int (nI p)), (2, .int (nI (by2 f pM))), (3, .int (nI f0)), (4, .int (nI ib)), (5, .int (nI k)), (6, .int (nI (by2 f p))), (7, .int (nI s41)), (8, .int 1), (9, .int 0)], [.int (nI p), .int 23, .ref m0], M1)) rfl rfl rfl ?_
                    refine pl_call (a := [.ref m0, .int 23, .int (nI p)]) (rest := []) rfl rfl rfl (rd_wrong (x1 := 23) (x2 := (nI p)) hR1) (fun v101 M102 q103 => ?_)
                    obtain ⟨I104, R105, rfl, hR106, hI107, hX108, hi109, hi110⟩ := q103
                    have hi111 := (hI107 51 (by decide)).trans hl51
                    have hi112 := (hI107 52 (by decide)).trans hl52
                    have hi113 := (hI107 53 (by decide)).trans hl53
                    have hi114 := (hI107 58 (by decide)).trans hl58
                    have hi115 := (hI107 56 (by decide)).trans hl56
                    have hi116 := (hI107 26 (by decide)).trans hl26
                    have hi117 := (hI107 9 (by decide)).trans hl9
                    have hi118 := (hI107 10 (by decide)).trans hl10
                    have hF_119 := hF1.mono (cIx hI107 (by decide)) (cRx hX108 (by decide))
                    have hY_120 := hY1.mono (cIx hI107 (by decide)) (cRx hX108 (by decide))
                    have hP_121 := hP1.mono (cIx hI107 (by decide)) (cRx hX108 (by decide))
                    have hK_122 := hK1.mono (cIx hI107 (by decide)) (cRx hX108 (by decide))
                    have hN9_123 := hN91.mono (cIx hI107 (by decide)) (cRx hX108 (by decide))
                    have hEI124 := hEI1.tr hI107 (by decide)
                    have hER125 := hER1.tr hX108 (by decide)
                    show pl _ _ _ (182, [(0, .ref m0), (1, .int (nI p)), (2, .int (nI (by2 f pM))), (3, .int (nI f0)), (4, .int (nI ib)), (5, .int (nI k)), (6, .int (nI (by2 f p))), (7, .int (nI s41)), (8, .int 1), (9, .int 0)], [.int 0], M102) _
                    exact ps_ret rfl rfl (Or.inr ⟨(23, p), I104, R105, by
                        have m0_ := mnm_0 (f := f) (n := n) (E := E) (c := cf) (x := by2 f (p + 2))
                        have u0_ := uq0 (l := tX f n E (by2 f (p + 2)))
                        rw [← hs, mtS_st (i := k) (by omega), ← hpk, mh_23 (by omega) (by rw [mfl_i (by omega) (by omega)]; omega)], rfl, hR106, hEI124, hER125, hi109, hi110⟩)
                · have c_134 : ¬ ((nI ib) = 0) := of_decide_eq_false c_134
                  have n_134 : ¬ (ib = 0) := fun h9 => c_134 ((eq_nI (p := ib) (n := 0) (by omega) (by decide)).mpr h9)
                  refine ps_st (S' := (138, [(0, .ref m0), (1, .int (nI p)), (2, .int (nI (by2 f pM))), (3, .int (nI f0)), (4, .int (nI ib)), (5, .int (nI k)), (6, .int (nI (by2 f p))), (7, .int (nI s41)), (8, .int 1), (9, .int 0)], [.ref m0], M1)) rfl rfl rfl ?_
                  refine ps_st (S' := (140, [(0, .ref m0), (1, .int (nI p)), (2, .int (nI (by2 f pM))), (3, .int (nI f0)), (4, .int (nI ib)), (5, .int (nI k)), (6, .int (nI (by2 f p))), (7, .int (nI s41)), (8, .int 1), (9, .int 0)], [.int (nI s41), .ref m0], M1)) rfl rfl rfl ?_
                  refine ps_st (S' := (141, [(0, .ref m0), (1, .int (nI p)), (2, .int (nI (by2 f pM))), (3, .int (nI f0)), (4, .int (nI ib)), (5, .int (nI k)), (6, .int (nI (by2 f p))), (7, .int (nI s41)), (8, .int 1), (9, .int 0)], [.int 0, .int (nI s41), .ref m0], M1)) rfl rfl rfl ?_
                  refine pl_call (a := [.ref m0, .int (nI s41), .int 0]) (rest := []) rfl rfl rfl (rd_unq0 (tx := tx) (cN := cN) (A := A) (s := s41) (l := (tX f n E (by2 f (p + 2)))) hR1 hY1 (q76_s)) (fun v126 M127 q128 => ?_)
                  obtain ⟨rfl, rfl⟩ := q128
                  show pl _ _ _ (144, [(0, .ref m0), (1, .int (nI p)), (2, .int (nI (by2 f pM))), (3, .int (nI f0)), (4, .int (nI ib)), (5, .int (nI k)), (6, .int (nI (by2 f p))), (7, .int (nI s41)), (8, .int 1), (9, .int 0)], [.int (nI (unq0 (tX f n E (by2 f (p + 2)))))], M1) _
                  refine ps_if (S1 := (157, [(0, .ref m0), (1, .int (nI p)), (2, .int (nI (by2 f pM))), (3, .int (nI f0)), (4, .int (nI ib)), (5, .int (nI k)), (6, .int (nI (by2 f p))), (7, .int (nI s41)), (8, .int 1), (9, .int 0)], [], M1)) (S2 := (147, [(0, .ref m0), (1, .int (nI p))], [], M1)) rfl rfl rfl (fun c_144 => ?_) (fun c_144 => ?_)
                  · have c_144 : ¬ (nI (unq0 (tX f n E (by2 f (p + 2))))) = 0 := of_decide_eq_true c_144
                    have n_144 : ¬ (unq0 (tX f n E (by2 f (p + 2))) = 0) := fun h9 => c_144 ((eq_nI (p := unq0 (tX f n E (by2 f (p + 2)))) (n := 0) (Nat.lt_trans (le1_unq0 _) (by decide)) (by decide)).mpr h9)
                    refine ps_st (S' := (159, [(0, .ref m0), (1, .int (nI p)), (2, .int (nI (by2 f pM))), (3, .int (nI f0)), (4, .int (nI ib)), (5, .int (nI k)), (6, .int (nI (by2 f p))), (7, .int (nI s41)), (8, .int 1), (9, .int 0)], [.int 0], M1)) rfl rfl rfl ?_
                    refine ps_if (S1 := (183, [(0, .ref m0), (1, .int (nI p)), (2, .int (nI (by2 f pM))), (3, .int (nI f0)), (4, .int (nI ib)), (5, .int (nI k)), (6, .int (nI (by2 f p))), (7, .int (nI s41)), (8, .int 1), (9, .int 0)], [], M1)) (S2 := (162, [(0, .ref m0), (1, .int (nI p)), (2, .int (nI (by2 f pM))), (3, .int (nI f0)), (4, .int (nI ib)), (5, .int (nI k)), (6, .int (nI (by2 f p))), (7, .int (nI s41)), (8, .int 1), (9, .int 0)], [], M1)) rfl rfl rfl (fun c_159 => ?_) (fun c_159 => ?_)
                    · exact absurd (of_decide_eq_true c_159) (by decide)
                    refine ps_st (S' := (163, [(0, .ref m0), (1, .int (nI p)), (2, .int (nI (by2 f pM))), (3, .int (nI f0)), (4, .int (nI ib)), (5, .int (nI k)), (6, .int (nI (by2 f p))), (7, .int (nI s41)), (8, .int 1), (9, .int 0)], [.ref m0], M1)) rfl rfl rfl ?_
                    refine ps_st (S' := (165, [(0, .ref m0), (1, .int (nI p)), (2, .int (nI (by2 f pM))), (3, .int (nI f0)), (4, .int (nI ib)), (5, .int (nI k)), (6, .int (nI (by2 f p))), (7, .int (nI s41)), (8, .int 1), (9, .int 0)], [.int (nI (by2 f p)), .ref m0], M1)) rfl rfl rfl ?_
                    refine ps_st (S' := (167, [(0, .ref m0), (1, .int (nI p)), (2, .int (nI (by2 f pM))), (3, .int (nI f0)), (4, .int (nI ib)), (5, .int (nI k)), (6, .int (nI (by2 f p))), (7, .int (nI s41)), (8, .int 1), (9, .int 0)], [.int 1, .int (nI (by2 f p)), .ref m0], M1)) rfl rfl rfl ?_
                    refine ps_st (S' := (169, [(0, .ref m0), (1, .int (nI p)), (2, .int (nI (by2 f pM))), (3, .int (nI f0)), (4, .int (nI ib)), (5, .int (nI k)), (6, .int (nI (by2 f p))), (7, .int (nI s41)), (8, .int 1), (9, .int 0)], [.int (nI ib), .int 1, .int (nI (by2 f p)), .ref m0], M1)) rfl rfl rfl ?_
                    refine pl_call (a := [.ref m0, .int (nI (by2 f p)), .int 1, .int (nI ib)]) (rest := []) rfl rfl rfl (rd_fitX (mj := mj) (x := (by2 f p)) (c := cf) (i := 1) (ib := ib) hR1 hl53 (hmj) (hu8) (by decide) (hib)) (fun v129 M130 q131 => ?_)
                    obtain ⟨rfl, rfl⟩ := q131
                    show pl _ _ _ (172, [(0, .ref m0), (1, .int (nI p)), (2, .int (nI (by2 f pM))), (3, .int (nI f0)), (4, .int (nI ib)), (5, .int (nI k)), (6, .int (nI (by2 f p))), (7, .int (nI s41)), (8, .int 1), (9, .int 0)], [.int (nI (fitN mj cf (by2 f p) 1))], M1) _
                    have hft := le1_fit mj cf (by2 f p) 1
                    refine ps_if (S1 := (183, [(0, .ref m0), (1, .int (nI p)), (2, .int (nI (by2 f pM))), (3, .int (nI f0)), (4, .int (nI ib)), (5, .int (nI k)), (6, .int (nI (by2 f p))), (7, .int (nI s41)), (8, .int 1), (9, .int 0)], [], M1)) (S2 := (175, [(0, .ref m0), (1, .int (nI p)), (2, .int (nI (by2 f pM))), (3, .int (nI f0)), (4, .int (nI ib)), (5, .int (nI k)), (6, .int (nI (by2 f p))), (7, .int (nI s41)), (8, .int 1), (9, .int 0)], [], M1)) rfl rfl rfl (fun c_172 => ?_) (fun c_172 => ?_)
                    · have c_172 : ¬ (nI (fitN mj cf (by2 f p) 1)) = 0 := of_decide_eq_true c_172
                      have n_172 : ¬ (fitN mj cf (by2 f p) 1 = 0) := fun h9 => c_172 ((eq_nI (p := fitN mj cf (by2 f p) 1) (n := 0) (Nat.lt_trans (le1_fit _ _ _ _) (by decide)) (by decide)).mpr h9)
                      have hnm : ¬ mnmN f n E cf (by2 f (p + 2)) = 0 := by
                        have m0_ := mnm_0 (f := f) (n := n) (E := E) (c := cf) (x := by2 f (p + 2))
                        have u0_ := uq0 (l := tX f n E (by2 f (p + 2)))
                        omega
                      have hfl : ¬ mflN f n E cf mj (by2 f p) (by2 f (p + 2)) = 0 := by
                        rw [mfl_i (by omega) (by omega)]
                        omega
                      exact ih.2.1 (k) (p) (ib) (s41) (0) (1) M1 I1 R1 hR1 hEI1 hER1 hl51 hl52 hl53 hl58 hl56 hl26 hl9 hl10 hF1 hY1 hP1 hK1 hN91 (by omega) (hpk) (hpe) (hs) (hib) (q76_s) (by omega) (hnm) (hfl) (by omega) (by omega)
                    · have c_172 : ¬ (¬ (nI (fitN mj cf (by2 f p) 1)) = 0) := of_decide_eq_false c_172
                      have n_172 : fitN mj cf (by2 f p) 1 = 0 := (eq_nI (p := fitN mj cf (by2 f p) 1) (n := 0) (Nat.lt_trans (le1_fit _ _ _ _) (by decide)) (by decide)).mp (Decidable.not_not.mp c_172)
                      refine ps_st (S' := (176, [(0, .ref m0), (1, .int (nI p)), (2, .int (nI (by2 f pM))), (3, .int (nI f0)), (4, .int (nI ib)), (5, .int (nI k)), (6, .int (nI (by2 f p))), (7, .int (nI s41)), (8, .int 1), (9, .int 0)], [.ref m0], M1)) rfl rfl rfl ?_
                      refine ps_st (S' := (178, [(0, .ref m0), (1, .int (nI p)), (2, .int (nI (by2 f pM))), (3, .int (nI f0)), (4, .int (nI ib)), (5, .int (nI k)), (6, .int (nI (by2 f p))), (7, .int (nI s41)), (8, .int 1), (9, .int 0)], [.int 23, .ref m0], M1)) rfl rfl rfl ?_
                      refine ps_st (S' := (179, [(0, .ref m0), (1, .int (nI p)), (2, .int (nI (by2 f pM))), (3, .int (nI f0)), (4, .int (nI ib)), (5, .int (nI k)), (6, .int (nI (by2 f p))), (7, .int (nI s41)), (8, .int 1), (9, .int 0)], [.int (nI p), .int 23, .ref m0], M1)) rfl rfl rfl ?_
                      refine pl_call (a := [.ref m0, .int 23, .int (nI p)]) (rest := []) rfl rfl rfl (rd_wrong (x1 := 23) (x2 := (nI p)) hR1) (fun v132 M133 q134 => ?_)
                      obtain ⟨I135, R136, rfl, hR137, hI138, hX139, hi140, hi141⟩ := q134
                      have hi142 := (hI138 51 (by decide)).trans hl51
                      have hi143 := (hI138 52 (by decide)).trans hl52
                      have hi144 := (hI138 53 (by decide)).trans hl53
                      have hi145 := (hI138 58 (by decide)).trans hl58
                      have hi146 := (hI138 56 (by decide)).trans hl56
                      have hi147 := (hI138 26 (by decide)).trans hl26
                      have hi148 := (hI138 9 (by decide)).trans hl9
                      have hi149 := (hI138 10 (by decide)).trans hl10
                      have hF_150 := hF1.mono (cIx hI138 (by decide)) (cRx hX139 (by decide))
                      have hY_151 := hY1.mono (cIx hI138 (by decide)) (cRx hX139 (by decide))
                      have hP_152 := hP1.mono (cIx hI138 (by decide)) (cRx hX139 (by decide))
                      have hK_153 := hK1.mono (cIx hI138 (by decide)) (cRx hX139 (by decide))
                      have hN9_154 := hN91.mono (cIx hI138 (by decide)) (cRx hX139 (by decide))
                      have hEI155 := hEI1.tr hI138 (by decide)
                      have hER156 := hER1.tr hX139 (by decide)
                      show pl _ _ _ (182, [(0, .ref m0), (1, .int (nI p)), (2, .int (nI (by2 f pM))), (3, .int (nI f0)), (4, .int (nI ib)), (5, .int (nI k)), (6, .int (nI (by2 f p))), (7, .int (nI s41)), (8, .int 1), (9, .int 0)], [.int 0], M133) _
                      exact ps_ret rfl rfl (Or.inr ⟨(23, p), I135, R136, by
                          have m0_ := mnm_0 (f := f) (n := n) (E := E) (c := cf) (x := by2 f (p + 2))
                          have u0_ := uq0 (l := tX f n E (by2 f (p + 2)))
                          rw [← hs, mtS_st (i := k) (by omega), ← hpk, mh_23 (by omega) (by rw [mfl_i (by omega) (by omega)]; omega)], rfl, hR137, hEI155, hER156, hi140, hi141⟩)
                  · have c_144 : ¬ (¬ (nI (unq0 (tX f n E (by2 f (p + 2))))) = 0) := of_decide_eq_false c_144
                    have n_144 : unq0 (tX f n E (by2 f (p + 2))) = 0 := (eq_nI (p := unq0 (tX f n E (by2 f (p + 2)))) (n := 0) (Nat.lt_trans (le1_unq0 _) (by decide)) (by decide)).mp (Decidable.not_not.mp c_144)
                    refine ps_st (S' := (148, [(0, .ref m0), (1, .int (nI p))], [.ref m0], M1)) rfl rfl rfl ?_
                    refine ps_st (S' := (150, [(0, .ref m0), (1, .int (nI p))], [.int 24, .ref m0], M1)) rfl rfl rfl ?_
                    refine ps_st (S' := (151, [(0, .ref m0), (1, .int (nI p))], [.int (nI p), .int 24, .ref m0], M1)) rfl rfl rfl ?_
                    refine ps_st (S' := (152, [(0, .ref m0), (1, .int (nI p))], [.int 2, .int (nI p), .int 24, .ref m0], M1)) rfl rfl rfl ?_
                    refine ps_st (S' := (153, [(0, .ref m0), (1, .int (nI p))], [.int ((nI p) + 2), .int 24, .ref m0], M1)) rfl rfl rfl ?_
                    rw [nI_add1 (p := p) (k := 2) (x := 2) rfl (by omega)]
                    show pl _ _ _ (_, [(0, .ref m0), (1, .int (nI p))], [.int (nI (p + 2)), .int 24, .ref m0], M1) _
                    refine pl_call (a := [.ref m0, .int 24, .int (nI (p + 2))]) (rest := []) rfl rfl rfl (rd_wrong (x1 := 24) (x2 := (nI (p + 2))) hR1) (fun v157 M158 q159 => ?_)
                    obtain ⟨I160, R161, rfl, hR162, hI163, hX164, hi165, hi166⟩ := q159
                    have hi167 := (hI163 51 (by decide)).trans hl51
                    have hi168 := (hI163 52 (by decide)).trans hl52
                    have hi169 := (hI163 53 (by decide)).trans hl53
                    have hi170 := (hI163 58 (by decide)).trans hl58
                    have hi171 := (hI163 56 (by decide)).trans hl56
                    have hi172 := (hI163 26 (by decide)).trans hl26
                    have hi173 := (hI163 9 (by decide)).trans hl9
                    have hi174 := (hI163 10 (by decide)).trans hl10
                    have hF_175 := hF1.mono (cIx hI163 (by decide)) (cRx hX164 (by decide))
                    have hY_176 := hY1.mono (cIx hI163 (by decide)) (cRx hX164 (by decide))
                    have hP_177 := hP1.mono (cIx hI163 (by decide)) (cRx hX164 (by decide))
                    have hK_178 := hK1.mono (cIx hI163 (by decide)) (cRx hX164 (by decide))
                    have hN9_179 := hN91.mono (cIx hI163 (by decide)) (cRx hX164 (by decide))
                    have hEI180 := hEI1.tr hI163 (by decide)
                    have hER181 := hER1.tr hX164 (by decide)
                    show pl _ _ _ (156, [(0, .ref m0), (1, .int (nI p))], [.int 0], M158) _
                    exact ps_ret rfl rfl (Or.inr ⟨(24, p + 2), I160, R161, by
                        rw [← hs, mtS_st (i := k) (by omega), ← hpk, mh_24 (by have m0_ := mnm_0 (f := f) (n := n) (E := E) (c := cf) (x := by2 f (p + 2)); have u0_ := uq0 (l := tX f n E (by2 f (p + 2))); omega)], rfl, hR162, hEI180, hER181, hi165, hi166⟩)
              · have c_107 : ¬ (¬ (nI s41) = (nI sc)) := of_decide_eq_false c_107
                have n_107 : s41 = sc := (eq_nI (p := s41) (n := sc) (by omega) (by omega)).mp (Decidable.not_not.mp c_107)
                refine ps_st (S' := (111, [(8, .int 1), (0, .ref m0), (1, .int (nI p)), (2, .int (nI (by2 f pM))), (3, .int (nI f0)), (4, .int (nI ib)), (5, .int (nI k)), (6, .int (nI (by2 f p))), (7, .int (nI s41))], [.int 1], M1)) rfl rfl rfl ?_
                refine ps_st (S' := (115, [(0, .ref m0), (1, .int (nI p)), (2, .int (nI (by2 f pM))), (3, .int (nI f0)), (4, .int (nI ib)), (5, .int (nI k)), (6, .int (nI (by2 f p))), (7, .int (nI s41)), (8, .int 1)], [.int 1], M1)) rfl rfl rfl ?_
                refine ps_st (S' := (117, [(9, .int 1), (0, .ref m0), (1, .int (nI p)), (2, .int (nI (by2 f pM))), (3, .int (nI f0)), (4, .int (nI ib)), (5, .int (nI k)), (6, .int (nI (by2 f p))), (7, .int (nI s41)), (8, .int 1)], [], M1)) rfl rfl rfl ?_
                refine ps_st (S' := (119, [(9, .int 1), (0, .ref m0), (1, .int (nI p)), (2, .int (nI (by2 f pM))), (3, .int (nI f0)), (4, .int (nI ib)), (5, .int (nI k)), (6, .int (nI (by2 f p))), (7, .int (nI s41)), (8, .int 1)], [.int (nI s41)], M1)) rfl rfl rfl ?_
                refine ps_if (S1 := (147, [(0, .ref m0), (1, .int (nI p))], [], M1)) (S2 := (122, [(9, .int 1), (0, .ref m0), (1, .int (nI p)), (2, .int (nI (by2 f pM))), (3, .int (nI f0)), (4, .int (nI ib)), (5, .int (nI k)), (6, .int (nI (by2 f p))), (7, .int (nI s41)), (8, .int 1)], [], M1)) rfl rfl rfl (fun c_119 => ?_) (fun c_119 => ?_)
                · exact absurd (of_decide_eq_true c_119) (show ¬ ((nI s41) < 0) from fun h9 => absurd ((lt_nI (p := s41) (n := 0) (by omega) (by decide)).mp h9) (by omega))
                refine ps_st (S' := (124, [(9, .int 1), (0, .ref m0), (1, .int (nI p)), (2, .int (nI (by2 f pM))), (3, .int (nI f0)), (4, .int (nI ib)), (5, .int (nI k)), (6, .int (nI (by2 f p))), (7, .int (nI s41)), (8, .int 1)], [.int 1], M1)) rfl rfl rfl ?_
                refine ps_if (S1 := (157, [(0, .ref m0), (1, .int (nI p)), (2, .int (nI (by2 f pM))), (3, .int (nI f0)), (4, .int (nI ib)), (5, .int (nI k)), (6, .int (nI (by2 f p))), (7, .int (nI s41)), (8, .int 1), (9, .int 1)], [], M1)) (S2 := (127, [(9, .int 1), (0, .ref m0), (1, .int (nI p)), (2, .int (nI (by2 f pM))), (3, .int (nI f0)), (4, .int (nI ib)), (5, .int (nI k)), (6, .int (nI (by2 f p))), (7, .int (nI s41)), (8, .int 1)], [], M1)) rfl rfl rfl (fun c_124 => ?_) (fun c_124 => ?_)
                rotate_left
                · exact absurd (by decide) (of_decide_eq_false c_124)
                refine ps_st (S' := (159, [(0, .ref m0), (1, .int (nI p)), (2, .int (nI (by2 f pM))), (3, .int (nI f0)), (4, .int (nI ib)), (5, .int (nI k)), (6, .int (nI (by2 f p))), (7, .int (nI s41)), (8, .int 1), (9, .int 1)], [.int 1], M1)) rfl rfl rfl ?_
                refine ps_if (S1 := (183, [(0, .ref m0), (1, .int (nI p)), (2, .int (nI (by2 f pM))), (3, .int (nI f0)), (4, .int (nI ib)), (5, .int (nI k)), (6, .int (nI (by2 f p))), (7, .int (nI s41)), (8, .int 1), (9, .int 1)], [], M1)) (S2 := (162, [(0, .ref m0), (1, .int (nI p)), (2, .int (nI (by2 f pM))), (3, .int (nI f0)), (4, .int (nI ib)), (5, .int (nI k)), (6, .int (nI (by2 f p))), (7, .int (nI s41)), (8, .int 1), (9, .int 1)], [], M1)) rfl rfl rfl (fun c_159 => ?_) (fun c_159 => ?_)
                rotate_left
                · exact absurd (by decide) (of_decide_eq_false c_159)
                exfalso; omega
      · skip
        intro k p ib a i9 i8 M1 I1 R1 hR1 hEI1 hER1 hl51 hl52 hl53 hl58 hl56 hl26 hl9 hl10 hF1 hY1 hP1 hK1 hN91 hk0 hpk hpe hs hib hsa ht1 hnm hfl h9c h8c
        have hn := hF1.1
        have hu9 := by2_lt f pM
        have htl := hY1.1.2.2.1
        have hBl := hMB.1
        have hi7 := hsi.1
        have hc7 := hsc.1
        have hu8 := by2_lt f p
        have hsa1 := hsa.1
        refine ps_st1 (S' := (184, [(0, .ref m0), (1, .int (nI p)), (2, .int (nI (by2 f pM))), (3, .int (nI f0)), (4, .int (nI ib)), (5, .int (nI k)), (6, .int (nI (by2 f p))), (7, .int (nI a)), (8, .int (nI i8)), (9, .int (nI i9))], [.ref m0], M1)) rfl rfl rfl ?_
        refine ps_st (S' := (185, [(0, .ref m0), (1, .int (nI p)), (2, .int (nI (by2 f pM))), (3, .int (nI f0)), (4, .int (nI ib)), (5, .int (nI k)), (6, .int (nI (by2 f p))), (7, .int (nI a)), (8, .int (nI i8)), (9, .int (nI i9))], [.ref m0, .ref m0], M1)) rfl rfl rfl ?_
        refine ps_st (S' := (186, [(0, .ref m0), (1, .int (nI p)), (2, .int (nI (by2 f pM))), (3, .int (nI f0)), (4, .int (nI ib)), (5, .int (nI k)), (6, .int (nI (by2 f p))), (7, .int (nI a)), (8, .int (nI i8)), (9, .int (nI i9))], [.int (nI p), .ref m0, .ref m0], M1)) rfl rfl rfl ?_
        refine ps_st (S' := (187, [(0, .ref m0), (1, .int (nI p)), (2, .int (nI (by2 f pM))), (3, .int (nI f0)), (4, .int (nI ib)), (5, .int (nI k)), (6, .int (nI (by2 f p))), (7, .int (nI a)), (8, .int (nI i8)), (9, .int (nI i9))], [.int 4, .int (nI p), .ref m0, .ref m0], M1)) rfl rfl rfl ?_
        refine ps_st (S' := (188, [(0, .ref m0), (1, .int (nI p)), (2, .int (nI (by2 f pM))), (3, .int (nI f0)), (4, .int (nI ib)), (5, .int (nI k)), (6, .int (nI (by2 f p))), (7, .int (nI a)), (8, .int (nI i8)), (9, .int (nI i9))], [.int ((nI p) + 4), .ref m0, .ref m0], M1)) rfl rfl rfl ?_
        rw [nI_add1 (p := p) (k := 4) (x := 4) rfl (by omega)]
        show pl _ _ _ (_, [(0, .ref m0), (1, .int (nI p)), (2, .int (nI (by2 f pM))), (3, .int (nI f0)), (4, .int (nI ib)), (5, .int (nI k)), (6, .int (nI (by2 f p))), (7, .int (nI a)), (8, .int (nI i8)), (9, .int (nI i9))], [.int (nI (p + 4)), .ref m0, .ref m0], M1) _
        refine pl_call (a := [.ref m0, .int (nI (p + 4))]) (rest := [.ref m0]) rfl rfl rfl (rd_u2 (n := n) (f := f) (p := (p + 4)) hR1 hF1 (by omega)) (fun v182 M183 q184 => ?_)
        obtain ⟨rfl, rfl⟩ := q184
        show pl _ _ _ (191, [(0, .ref m0), (1, .int (nI p)), (2, .int (nI (by2 f pM))), (3, .int (nI f0)), (4, .int (nI ib)), (5, .int (nI k)), (6, .int (nI (by2 f p))), (7, .int (nI a)), (8, .int (nI i8)), (9, .int (nI i9))], [.int (nI (by2 f (p + 4))), .ref m0], M1) _
        have hu_188 := by2_lt f (p + 4)
        refine pl_call (a := [.ref m0, .int (nI (by2 f (p + 4)))]) (rest := []) rfl rfl rfl (rd_tag (n := n) (f := f) (tx := tx) (cN := cN) (A := A) (N := N) (mj := mj) (E := E) (k := (by2 f (p + 4))) hR1 hl51 hl52 hl53 hF1 hY1 hP1 (hEP) (hN) (hmj) (by2_lt _ _)) (fun v185 M186 q187 => ?_)
        obtain ⟨rfl, rfl⟩ := q187
        show pl _ _ _ (194, [(0, .ref m0), (1, .int (nI p)), (2, .int (nI (by2 f pM))), (3, .int (nI f0)), (4, .int (nI ib)), (5, .int (nI k)), (6, .int (nI (by2 f p))), (7, .int (nI a)), (8, .int (nI i8)), (9, .int (nI i9))], [.int (nI (tg f E (by2 f (p + 4))))], M1) _
        have htg_191 := tg_lt f E (by2 f (p + 4))
        refine ps_st (S' := (195, [(0, .ref m0), (1, .int (nI p)), (2, .int (nI (by2 f pM))), (3, .int (nI f0)), (4, .int (nI ib)), (5, .int (nI k)), (6, .int (nI (by2 f p))), (7, .int (nI a)), (8, .int (nI i8)), (9, .int (nI i9))], [.int 1, .int (nI (tg f E (by2 f (p + 4))))], M1)) rfl rfl rfl ?_
        refine ps_if2 (S1 := (212, [(0, .ref m0), (1, .int (nI p)), (2, .int (nI (by2 f pM))), (3, .int (nI f0)), (4, .int (nI ib)), (5, .int (nI k)), (6, .int (nI (by2 f p))), (7, .int (nI a)), (8, .int (nI i8)), (9, .int (nI i9))], [], M1)) (S2 := (198, [(0, .ref m0), (1, .int (nI p)), (2, .int (nI (by2 f pM))), (3, .int (nI f0)), (4, .int (nI ib)), (5, .int (nI k)), (6, .int (nI (by2 f p))), (7, .int (nI a)), (8, .int (nI i8)), (9, .int (nI i9))], [], M1)) rfl rfl rfl (fun c_195 => ?_) (fun c_195 => ?_)
        · have c_195 : ¬ (nI (tg f E (by2 f (p + 4)))) = 1 := of_decide_eq_true c_195
          have n_195 : ¬ (tg f E (by2 f (p + 4)) = 1) := fun h9 => c_195 ((eq_nI (p := tg f E (by2 f (p + 4))) (n := 1) (Nat.lt_trans (tg_lt _ _ _) (by decide)) (by decide)).mpr h9)
          refine ps_st (S' := (213, [(0, .ref m0), (1, .int (nI p)), (2, .int (nI (by2 f pM))), (3, .int (nI f0)), (4, .int (nI ib)), (5, .int (nI k)), (6, .int (nI (by2 f p))), (7, .int (nI a)), (8, .int (nI i8)), (9, .int (nI i9))], [.int (-1)], M1)) rfl rfl rfl ?_
          refine ps_st (S' := (215, [(10, .int (-1)), (0, .ref m0), (1, .int (nI p)), (2, .int (nI (by2 f pM))), (3, .int (nI f0)), (4, .int (nI ib)), (5, .int (nI k)), (6, .int (nI (by2 f p))), (7, .int (nI a)), (8, .int (nI i8)), (9, .int (nI i9))], [], M1)) rfl rfl rfl ?_
          refine ps_st (S' := (217, [(10, .int (-1)), (0, .ref m0), (1, .int (nI p)), (2, .int (nI (by2 f pM))), (3, .int (nI f0)), (4, .int (nI ib)), (5, .int (nI k)), (6, .int (nI (by2 f p))), (7, .int (nI a)), (8, .int (nI i8)), (9, .int (nI i9))], [.int (-1)], M1)) rfl rfl rfl ?_
          refine ps_if (S1 := (269, [(0, .ref m0), (1, .int (nI p))], [], M1)) (S2 := (220, [(10, .int (-1)), (0, .ref m0), (1, .int (nI p)), (2, .int (nI (by2 f pM))), (3, .int (nI f0)), (4, .int (nI ib)), (5, .int (nI k)), (6, .int (nI (by2 f p))), (7, .int (nI a)), (8, .int (nI i8)), (9, .int (nI i9))], [], M1)) rfl rfl rfl (fun c_217 => ?_) (fun c_217 => ?_)
          rotate_left
          · exact absurd (by decide) (of_decide_eq_false c_217)
          refine ps_st (S' := (270, [(0, .ref m0), (1, .int (nI p))], [.ref m0], M1)) rfl rfl rfl ?_
          refine ps_st (S' := (272, [(0, .ref m0), (1, .int (nI p))], [.int 25, .ref m0], M1)) rfl rfl rfl ?_
          refine ps_st (S' := (273, [(0, .ref m0), (1, .int (nI p))], [.int (nI p), .int 25, .ref m0], M1)) rfl rfl rfl ?_
          refine ps_st (S' := (274, [(0, .ref m0), (1, .int (nI p))], [.int 4, .int (nI p), .int 25, .ref m0], M1)) rfl rfl rfl ?_
          refine ps_st (S' := (275, [(0, .ref m0), (1, .int (nI p))], [.int ((nI p) + 4), .int 25, .ref m0], M1)) rfl rfl rfl ?_
          rw [nI_add1 (p := p) (k := 4) (x := 4) rfl (by omega)]
          show pl _ _ _ (_, [(0, .ref m0), (1, .int (nI p))], [.int (nI (p + 4)), .int 25, .ref m0], M1) _
          refine pl_call (a := [.ref m0, .int 25, .int (nI (p + 4))]) (rest := []) rfl rfl rfl (rd_wrong (x1 := 25) (x2 := (nI (p + 4))) hR1) (fun v188 M189 q190 => ?_)
          obtain ⟨I191, R192, rfl, hR193, hI194, hX195, hi196, hi197⟩ := q190
          have hi198 := (hI194 51 (by decide)).trans hl51
          have hi199 := (hI194 52 (by decide)).trans hl52
          have hi200 := (hI194 53 (by decide)).trans hl53
          have hi201 := (hI194 58 (by decide)).trans hl58
          have hi202 := (hI194 56 (by decide)).trans hl56
          have hi203 := (hI194 26 (by decide)).trans hl26
          have hi204 := (hI194 9 (by decide)).trans hl9
          have hi205 := (hI194 10 (by decide)).trans hl10
          have hF_206 := hF1.mono (cIx hI194 (by decide)) (cRx hX195 (by decide))
          have hY_207 := hY1.mono (cIx hI194 (by decide)) (cRx hX195 (by decide))
          have hP_208 := hP1.mono (cIx hI194 (by decide)) (cRx hX195 (by decide))
          have hK_209 := hK1.mono (cIx hI194 (by decide)) (cRx hX195 (by decide))
          have hN9_210 := hN91.mono (cIx hI194 (by decide)) (cRx hX195 (by decide))
          have hEI211 := hEI1.tr hI194 (by decide)
          have hER212 := hER1.tr hX195 (by decide)
          show pl _ _ _ (278, [(0, .ref m0), (1, .int (nI p))], [.int 0], M189) _
          exact ps_ret rfl rfl (Or.inr ⟨(25, p + 4), I191, R192, by
              have h25 : mdsN f n E (by2 f (p + 2)) (by2 f (p + 4)) (apN f n E p) = 0 := by
                have m0_ := mds_0 (f := f) (n := n) (E := E) (x := by2 f (p + 2)) (d := by2 f (p + 4)) (w := apN f n E p)
                have a0_ := ap_9 (f := f) (n := n) (E := E) (p := p)
                exact m0_.mpr (Or.inl (by rw [tx_no (by omega)]; decide))
              rw [← hs, mtS_st (i := k) (by omega), ← hpk, mh_25 hnm hfl h25], rfl, hR193, hEI211, hER212, hi196, hi197⟩)
        · have c_195 : ¬ (¬ (nI (tg f E (by2 f (p + 4)))) = 1) := of_decide_eq_false c_195
          have n_195 : tg f E (by2 f (p + 4)) = 1 := (eq_nI (p := tg f E (by2 f (p + 4))) (n := 1) (Nat.lt_trans (tg_lt _ _ _) (by decide)) (by decide)).mp (Decidable.not_not.mp c_195)
          refine ps_st (S' := (199, [(0, .ref m0), (1, .int (nI p)), (2, .int (nI (by2 f pM))), (3, .int (nI f0)), (4, .int (nI ib)), (5, .int (nI k)), (6, .int (nI (by2 f p))), (7, .int (nI a)), (8, .int (nI i8)), (9, .int (nI i9))], [.ref m0], M1)) rfl rfl rfl ?_
          refine ps_st (S' := (200, [(0, .ref m0), (1, .int (nI p)), (2, .int (nI (by2 f pM))), (3, .int (nI f0)), (4, .int (nI ib)), (5, .int (nI k)), (6, .int (nI (by2 f p))), (7, .int (nI a)), (8, .int (nI i8)), (9, .int (nI i9))], [.ref m0, .ref m0], M1)) rfl rfl rfl ?_
          refine ps_st (S' := (201, [(0, .ref m0), (1, .int (nI p)), (2, .int (nI (by2 f pM))), (3, .int (nI f0)), (4, .int (nI ib)), (5, .int (nI k)), (6, .int (nI (by2 f p))), (7, .int (nI a)), (8, .int (nI i8)), (9, .int (nI i9))], [.int (nI p), .ref m0, .ref m0], M1)) rfl rfl rfl ?_
          refine ps_st (S' := (202, [(0, .ref m0), (1, .int (nI p)), (2, .int (nI (by2 f pM))), (3, .int (nI f0)), (4, .int (nI ib)), (5, .int (nI k)), (6, .int (nI (by2 f p))), (7, .int (nI a)), (8, .int (nI i8)), (9, .int (nI i9))], [.int 4, .int (nI p), .ref m0, .ref m0], M1)) rfl rfl rfl ?_
          refine ps_st (S' := (203, [(0, .ref m0), (1, .int (nI p)), (2, .int (nI (by2 f pM))), (3, .int (nI f0)), (4, .int (nI ib)), (5, .int (nI k)), (6, .int (nI (by2 f p))), (7, .int (nI a)), (8, .int (nI i8)), (9, .int (nI i9))], [.int ((nI p) + 4), .ref m0, .ref m0], M1)) rfl rfl rfl ?_
          rw [nI_add1 (p := p) (k := 4) (x := 4) rfl (by omega)]
          show pl _ _ _ (_, [(0, .ref m0), (1, .int (nI p)), (2, .int (nI (by2 f pM))), (3, .int (nI f0)), (4, .int (nI ib)), (5, .int (nI k)), (6, .int (nI (by2 f p))), (7, .int (nI a)), (8, .int (nI i8)), (9, .int (nI i9))], [.int (nI (p + 4)), .ref m0, .ref m0], M1) _
          refine pl_call (a := [.ref m0, .int (nI (p + 4))]) (rest := [.ref m0]) rfl rfl rfl (rd_u2 (n := n) (f := f) (p := (p + 4)) hR1 hF1 (by omega)) (fun v213 M214 q215 => ?_)
          obtain ⟨rfl, rfl⟩ := q215
          show pl _ _ _ (206, [(0, .ref m0), (1, .int (nI p)), (2, .int (nI (by2 f pM))), (3, .int (nI f0)), (4, .int (nI ib)), (5, .int (nI k)), (6, .int (nI (by2 f p))), (7, .int (nI a)), (8, .int (nI i8)), (9, .int (nI i9))], [.int (nI (by2 f (p + 4))), .ref m0], M1) _
          have hu_203 := by2_lt f (p + 4)
          refine pl_call (a := [.ref m0, .int (nI (by2 f (p + 4)))]) (rest := []) rfl rfl rfl (rd_symOf (n := n) (f := f) (tx := tx) (cN := cN) (A := A) (N := N) (mj := mj) (E := E) (k := (by2 f (p + 4))) hR1 hl51 hl52 hl53 hF1 hY1 hP1 (hEP) (hN) (hmj) (by omega)) (fun v216 M217 q218 => ?_)
          obtain ⟨s219, q206_s, rfl, rfl⟩ := q218
          show pl _ _ _ (209, [(0, .ref m0), (1, .int (nI p)), (2, .int (nI (by2 f pM))), (3, .int (nI f0)), (4, .int (nI ib)), (5, .int (nI k)), (6, .int (nI (by2 f p))), (7, .int (nI a)), (8, .int (nI i8)), (9, .int (nI i9))], [.int (nI s219)], M1) _
          have hsl_206 := q206_s.1
          have htl_206 := hY1.1.2.2.1
          refine ps_st (S' := (213, [(0, .ref m0), (1, .int (nI p)), (2, .int (nI (by2 f pM))), (3, .int (nI f0)), (4, .int (nI ib)), (5, .int (nI k)), (6, .int (nI (by2 f p))), (7, .int (nI a)), (8, .int (nI i8)), (9, .int (nI i9))], [.int (nI s219)], M1)) rfl rfl rfl ?_
          refine ps_st (S' := (215, [(10, .int (nI s219)), (0, .ref m0), (1, .int (nI p)), (2, .int (nI (by2 f pM))), (3, .int (nI f0)), (4, .int (nI ib)), (5, .int (nI k)), (6, .int (nI (by2 f p))), (7, .int (nI a)), (8, .int (nI i8)), (9, .int (nI i9))], [], M1)) rfl rfl rfl ?_
          refine ps_st (S' := (217, [(10, .int (nI s219)), (0, .ref m0), (1, .int (nI p)), (2, .int (nI (by2 f pM))), (3, .int (nI f0)), (4, .int (nI ib)), (5, .int (nI k)), (6, .int (nI (by2 f p))), (7, .int (nI a)), (8, .int (nI i8)), (9, .int (nI i9))], [.int (nI s219)], M1)) rfl rfl rfl ?_
          refine ps_if (S1 := (269, [(0, .ref m0), (1, .int (nI p))], [], M1)) (S2 := (220, [(10, .int (nI s219)), (0, .ref m0), (1, .int (nI p)), (2, .int (nI (by2 f pM))), (3, .int (nI f0)), (4, .int (nI ib)), (5, .int (nI k)), (6, .int (nI (by2 f p))), (7, .int (nI a)), (8, .int (nI i8)), (9, .int (nI i9))], [], M1)) rfl rfl rfl (fun c_217 => ?_) (fun c_217 => ?_)
          · exact absurd (of_decide_eq_true c_217) (show ¬ ((nI s219) < 0) from fun h9 => absurd ((lt_nI (p := s219) (n := 0) (by omega) (by decide)).mp h9) (by omega))
          refine ps_st (S' := (221, [(10, .int (nI s219)), (0, .ref m0), (1, .int (nI p)), (2, .int (nI (by2 f pM))), (3, .int (nI f0)), (4, .int (nI ib)), (5, .int (nI k)), (6, .int (nI (by2 f p))), (7, .int (nI a)), (8, .int (nI i8)), (9, .int (nI i9))], [.ref m0], M1)) rfl rfl rfl ?_
          refine ps_st (S' := (223, [(10, .int (nI s219)), (0, .ref m0), (1, .int (nI p)), (2, .int (nI (by2 f pM))), (3, .int (nI f0)), (4, .int (nI ib)), (5, .int (nI k)), (6, .int (nI (by2 f p))), (7, .int (nI a)), (8, .int (nI i8)), (9, .int (nI i9))], [.int (nI s219), .ref m0], M1)) rfl rfl rfl ?_
          refine pl_call (a := [.ref m0, .int (nI s219)]) (rest := []) rfl rfl rfl (rd_isMethod (tx := tx) (cN := cN) (A := A) (s := s219) (l := (tX f n E (by2 f (p + 4)))) hR1 hY1 (q206_s)) (fun v220 M221 q222 => ?_)
          obtain ⟨rfl, rfl⟩ := q222
          show pl _ _ _ (226, [(10, .int (nI s219)), (0, .ref m0), (1, .int (nI p)), (2, .int (nI (by2 f pM))), (3, .int (nI f0)), (4, .int (nI ib)), (5, .int (nI k)), (6, .int (nI (by2 f p))), (7, .int (nI a)), (8, .int (nI i8)), (9, .int (nI i9))], [.int (nI (mthN (tX f n E (by2 f (p + 4)))))], M1) _
          refine ps_if (S1 := (269, [(0, .ref m0), (1, .int (nI p))], [], M1)) (S2 := (229, [(10, .int (nI s219)), (0, .ref m0), (1, .int (nI p)), (2, .int (nI (by2 f pM))), (3, .int (nI f0)), (4, .int (nI ib)), (5, .int (nI k)), (6, .int (nI (by2 f p))), (7, .int (nI a)), (8, .int (nI i8)), (9, .int (nI i9))], [], M1)) rfl rfl rfl (fun c_226 => ?_) (fun c_226 => ?_)
          · have c_226 : (nI (mthN (tX f n E (by2 f (p + 4))))) = 0 := of_decide_eq_true c_226
            have n_226 : mthN (tX f n E (by2 f (p + 4))) = 0 := (eq_nI (p := mthN (tX f n E (by2 f (p + 4)))) (n := 0) (Nat.lt_trans (le1_mth _) (by decide)) (by decide)).mp c_226
            refine ps_st (S' := (270, [(0, .ref m0), (1, .int (nI p))], [.ref m0], M1)) rfl rfl rfl ?_
            refine ps_st (S' := (272, [(0, .ref m0), (1, .int (nI p))], [.int 25, .ref m0], M1)) rfl rfl rfl ?_
            refine ps_st (S' := (273, [(0, .ref m0), (1, .int (nI p))], [.int (nI p), .int 25, .ref m0], M1)) rfl rfl rfl ?_
            refine ps_st (S' := (274, [(0, .ref m0), (1, .int (nI p))], [.int 4, .int (nI p), .int 25, .ref m0], M1)) rfl rfl rfl ?_
            refine ps_st (S' := (275, [(0, .ref m0), (1, .int (nI p))], [.int ((nI p) + 4), .int 25, .ref m0], M1)) rfl rfl rfl ?_
            rw [nI_add1 (p := p) (k := 4) (x := 4) rfl (by omega)]
            show pl _ _ _ (_, [(0, .ref m0), (1, .int (nI p))], [.int (nI (p + 4)), .int 25, .ref m0], M1) _
            refine pl_call (a := [.ref m0, .int 25, .int (nI (p + 4))]) (rest := []) rfl rfl rfl (rd_wrong (x1 := 25) (x2 := (nI (p + 4))) hR1) (fun v223 M224 q225 => ?_)
            obtain ⟨I226, R227, rfl, hR228, hI229, hX230, hi231, hi232⟩ := q225
            have hi233 := (hI229 51 (by decide)).trans hl51
            have hi234 := (hI229 52 (by decide)).trans hl52
            have hi235 := (hI229 53 (by decide)).trans hl53
            have hi236 := (hI229 58 (by decide)).trans hl58
            have hi237 := (hI229 56 (by decide)).trans hl56
            have hi238 := (hI229 26 (by decide)).trans hl26
            have hi239 := (hI229 9 (by decide)).trans hl9
            have hi240 := (hI229 10 (by decide)).trans hl10
            have hF_241 := hF1.mono (cIx hI229 (by decide)) (cRx hX230 (by decide))
            have hY_242 := hY1.mono (cIx hI229 (by decide)) (cRx hX230 (by decide))
            have hP_243 := hP1.mono (cIx hI229 (by decide)) (cRx hX230 (by decide))
            have hK_244 := hK1.mono (cIx hI229 (by decide)) (cRx hX230 (by decide))
            have hN9_245 := hN91.mono (cIx hI229 (by decide)) (cRx hX230 (by decide))
            have hEI246 := hEI1.tr hI229 (by decide)
            have hER247 := hER1.tr hX230 (by decide)
            show pl _ _ _ (278, [(0, .ref m0), (1, .int (nI p))], [.int 0], M224) _
            exact ps_ret rfl rfl (Or.inr ⟨(25, p + 4), I226, R227, by
                have h25 : mdsN f n E (by2 f (p + 2)) (by2 f (p + 4)) (apN f n E p) = 0 := by
                  have m0_ := mds_0 (f := f) (n := n) (E := E) (x := by2 f (p + 2)) (d := by2 f (p + 4)) (w := apN f n E p)
                  have a0_ := ap_9 (f := f) (n := n) (E := E) (p := p)
                  omega
                rw [← hs, mtS_st (i := k) (by omega), ← hpk, mh_25 hnm hfl h25], rfl, hR228, hEI246, hER247, hi231, hi232⟩)
          · have c_226 : ¬ ((nI (mthN (tX f n E (by2 f (p + 4))))) = 0) := of_decide_eq_false c_226
            have n_226 : ¬ (mthN (tX f n E (by2 f (p + 4))) = 0) := fun h9 => c_226 ((eq_nI (p := mthN (tX f n E (by2 f (p + 4)))) (n := 0) (Nat.lt_trans (le1_mth _) (by decide)) (by decide)).mpr h9)
            refine ps_st (S' := (231, [(10, .int (nI s219)), (0, .ref m0), (1, .int (nI p)), (2, .int (nI (by2 f pM))), (3, .int (nI f0)), (4, .int (nI ib)), (5, .int (nI k)), (6, .int (nI (by2 f p))), (7, .int (nI a)), (8, .int (nI i8)), (9, .int (nI i9))], [.int (nI i8)], M1)) rfl rfl rfl ?_
            refine ps_if (S1 := (243, [(0, .ref m0), (1, .int (nI p)), (2, .int (nI (by2 f pM))), (3, .int (nI f0)), (4, .int (nI ib)), (5, .int (nI k)), (6, .int (nI (by2 f p))), (7, .int (nI a)), (9, .int (nI i9)), (10, .int (nI s219))], [], M1)) (S2 := (234, [(10, .int (nI s219)), (0, .ref m0), (1, .int (nI p)), (2, .int (nI (by2 f pM))), (3, .int (nI f0)), (4, .int (nI ib)), (5, .int (nI k)), (6, .int (nI (by2 f p))), (7, .int (nI a)), (8, .int (nI i8)), (9, .int (nI i9))], [], M1)) rfl rfl rfl (fun c_231 => ?_) (fun c_231 => ?_)
            · have c_231 : (nI i8) = 0 := of_decide_eq_true c_231
              have n_231 : i8 = 0 := (eq_nI (p := i8) (n := 0) (by omega) (by decide)).mp c_231
              refine ps_st (S' := (244, [(0, .ref m0), (1, .int (nI p)), (2, .int (nI (by2 f pM))), (3, .int (nI f0)), (4, .int (nI ib)), (5, .int (nI k)), (6, .int (nI (by2 f p))), (7, .int (nI a)), (9, .int (nI i9)), (10, .int (nI s219))], [.ref m0], M1)) rfl rfl rfl ?_
              refine ps_st (S' := (246, [(0, .ref m0), (1, .int (nI p)), (2, .int (nI (by2 f pM))), (3, .int (nI f0)), (4, .int (nI ib)), (5, .int (nI k)), (6, .int (nI (by2 f p))), (7, .int (nI a)), (9, .int (nI i9)), (10, .int (nI s219))], [.int (nI s219), .ref m0], M1)) rfl rfl rfl ?_
              obtain ⟨-, -, k_246, W_246, hq1_246, hq2_246, hq3_246, hq4_246, hq5_246, hq6_246, -⟩ := mth_in (l := (tX f n E (by2 f (p + 4)))) (by omega)
              refine pl_call (a := [.ref m0, .int (nI s219)]) (rest := []) rfl rfl rfl (rd_places0 (tx := tx) (cN := cN) (A := A) (s := s219) (l := (tX f n E (by2 f (p + 4)))) (k0 := k_246) (W := W_246) hR1 hY1 (q206_s) (hq1_246) (⟨by omega, hq5_246⟩)) (fun v248 M249 q250 => ?_)
              obtain ⟨rfl, rfl⟩ := q250
              show pl _ _ _ (249, [(0, .ref m0), (1, .int (nI p)), (2, .int (nI (by2 f pM))), (3, .int (nI f0)), (4, .int (nI ib)), (5, .int (nI k)), (6, .int (nI (by2 f p))), (7, .int (nI a)), (9, .int (nI i9)), (10, .int (nI s219))], [.int (nI (W_246))], M1) _
              rw [← hq6_246]
              show pl _ _ _ (_, [(0, .ref m0), (1, .int (nI p)), (2, .int (nI (by2 f pM))), (3, .int (nI f0)), (4, .int (nI ib)), (5, .int (nI k)), (6, .int (nI (by2 f p))), (7, .int (nI a)), (9, .int (nI i9)), (10, .int (nI s219))], [.int (nI (argN (tX f n E (by2 f (p + 4)))))], M1) _
              have hal_246 := argN_lt (tX f n E (by2 f (p + 4)))
              refine ps_st (S' := (251, [(0, .ref m0), (1, .int (nI p)), (2, .int (nI (by2 f pM))), (3, .int (nI f0)), (4, .int (nI ib)), (5, .int (nI k)), (6, .int (nI (by2 f p))), (7, .int (nI a)), (9, .int (nI i9)), (10, .int (nI s219))], [.int (nI (by2 f p)), .int (nI (argN (tX f n E (by2 f (p + 4)))))], M1)) rfl rfl rfl ?_
              refine ps_st (S' := (253, [(0, .ref m0), (1, .int (nI p)), (2, .int (nI (by2 f pM))), (3, .int (nI f0)), (4, .int (nI ib)), (5, .int (nI k)), (6, .int (nI (by2 f p))), (7, .int (nI a)), (9, .int (nI i9)), (10, .int (nI s219))], [.int 8, .int (nI (by2 f p)), .int (nI (argN (tX f n E (by2 f (p + 4)))))], M1)) rfl rfl rfl ?_
              refine ps_st (S' := (254, [(0, .ref m0), (1, .int (nI p)), (2, .int (nI (by2 f pM))), (3, .int (nI f0)), (4, .int (nI ib)), (5, .int (nI k)), (6, .int (nI (by2 f p))), (7, .int (nI a)), (9, .int (nI i9)), (10, .int (nI s219))], [.int ((nI (by2 f p)) &&& 8), .int (nI (argN (tX f n E (by2 f (p + 4)))))], M1)) rfl rfl rfl ?_
              rw [nI_an (p := by2 f p) (k := 8) (x := 8) rfl]
              show pl _ _ _ (_, [(0, .ref m0), (1, .int (nI p)), (2, .int (nI (by2 f pM))), (3, .int (nI f0)), (4, .int (nI ib)), (5, .int (nI k)), (6, .int (nI (by2 f p))), (7, .int (nI a)), (9, .int (nI i9)), (10, .int (nI s219))], [.int (nI (aN (by2 f p) 8)), .int (nI (argN (tX f n E (by2 f (p + 4)))))], M1) _
              refine ps_if (S1 := (261, [(0, .ref m0), (1, .int (nI p)), (2, .int (nI (by2 f pM))), (3, .int (nI f0)), (4, .int (nI ib)), (5, .int (nI k)), (6, .int (nI (by2 f p))), (7, .int (nI a)), (9, .int (nI i9)), (10, .int (nI s219))], [.int (nI (argN (tX f n E (by2 f (p + 4)))))], M1)) (S2 := (257, [(0, .ref m0), (1, .int (nI p)), (2, .int (nI (by2 f pM))), (3, .int (nI f0)), (4, .int (nI ib)), (5, .int (nI k)), (6, .int (nI (by2 f p))), (7, .int (nI a)), (9, .int (nI i9)), (10, .int (nI s219))], [.int (nI (argN (tX f n E (by2 f (p + 4)))))], M1)) rfl rfl rfl (fun c_254 => ?_) (fun c_254 => ?_)
              · have c_254 : ¬ (nI (aN (by2 f p) 8)) = 0 := of_decide_eq_true c_254
                have n_254 : ¬ (aN (by2 f p) 8 = 0) := fun h9 => c_254 ((eq_nI (p := aN (by2 f p) 8) (n := 0) (Nat.lt_of_le_of_lt (an_le _ _) (by decide)) (by decide)).mpr h9)
                refine ps_st (S' := (262, [(0, .ref m0), (1, .int (nI p)), (2, .int (nI (by2 f pM))), (3, .int (nI f0)), (4, .int (nI ib)), (5, .int (nI k)), (6, .int (nI (by2 f p))), (7, .int (nI a)), (9, .int (nI i9)), (10, .int (nI s219))], [.int 0, .int (nI (argN (tX f n E (by2 f (p + 4)))))], M1)) rfl rfl rfl ?_
                refine ps_st (S' := (263, [(0, .ref m0), (1, .int (nI p)), (2, .int (nI (by2 f pM))), (3, .int (nI f0)), (4, .int (nI ib)), (5, .int (nI k)), (6, .int (nI (by2 f p))), (7, .int (nI a)), (9, .int (nI i9)), (10, .int (nI s219))], [.int ((nI (argN (tX f n E (by2 f (p + 4))))) + 0)], M1)) rfl rfl rfl ?_
                rw [nI_add1 (p := argN (tX f n E (by2 f (p + 4)))) (k := 0) (x := 0) rfl (by omega)]
                show pl _ _ _ (_, [(0, .ref m0), (1, .int (nI p)), (2, .int (nI (by2 f pM))), (3, .int (nI f0)), (4, .int (nI ib)), (5, .int (nI k)), (6, .int (nI (by2 f p))), (7, .int (nI a)), (9, .int (nI i9)), (10, .int (nI s219))], [.int (nI (argN (tX f n E (by2 f (p + 4))) + 0))], M1) _
                refine ps_st (S' := (266, [(0, .ref m0), (1, .int (nI p)), (2, .int (nI (by2 f pM))), (3, .int (nI f0)), (4, .int (nI ib)), (5, .int (nI k)), (6, .int (nI (by2 f p))), (7, .int (nI a)), (9, .int (nI i9)), (10, .int (nI s219))], [.int 255, .int (nI (argN (tX f n E (by2 f (p + 4))) + 0))], M1)) rfl rfl rfl ?_
                refine ps_if2 (S1 := (279, [(0, .ref m0), (1, .int (nI p)), (2, .int (nI (by2 f pM))), (3, .int (nI f0)), (4, .int (nI ib)), (5, .int (nI k)), (6, .int (nI (by2 f p))), (7, .int (nI a)), (9, .int (nI i9)), (10, .int (nI s219))], [], M1)) (S2 := (269, [(0, .ref m0), (1, .int (nI p))], [], M1)) rfl rfl rfl (fun c_266 => ?_) (fun c_266 => ?_)
                · have c_266 : (nI (argN (tX f n E (by2 f (p + 4))) + 0)) ≤ 255 := of_decide_eq_true c_266
                  have n_266 : argN (tX f n E (by2 f (p + 4))) + 0 ≤ 255 := (le_nI (p := argN (tX f n E (by2 f (p + 4))) + 0) (n := 255) (by omega) (by decide)).mp c_266
                  have hds : ¬ mdsN f n E (by2 f (p + 2)) (by2 f (p + 4)) (apN f n E p) = 0 := by
                    have m0_ := mds_0 (f := f) (n := n) (E := E) (x := by2 f (p + 2)) (d := by2 f (p + 4)) (w := apN f n E p)
                    have a0_ := ap_9 (f := f) (n := n) (E := E) (p := p)
                    omega
                  exact ih.2.2.1 (k) (p) (ib) (a) (i9) (s219) M1 I1 R1 hR1 hEI1 hER1 hl51 hl52 hl53 hl58 hl56 hl26 hl9 hl10 hF1 hY1 hP1 hK1 hN91 (hk0) (hpk) (hpe) (hs) (hib) (hsa) (ht1) (hnm) (hfl) (h9c) (q206_s) (by omega) (by omega) (hds)
                · have c_266 : ¬ ((nI (argN (tX f n E (by2 f (p + 4))) + 0)) ≤ 255) := of_decide_eq_false c_266
                  have n_266 : ¬ (argN (tX f n E (by2 f (p + 4))) + 0 ≤ 255) := fun h9 => c_266 ((le_nI (p := argN (tX f n E (by2 f (p + 4))) + 0) (n := 255) (by omega) (by decide)).mpr h9)
                  refine ps_st (S' := (270, [(0, .ref m0), (1, .int (nI p))], [.ref m0], M1)) rfl rfl rfl ?_
                  refine ps_st (S' := (272, [(0, .ref m0), (1, .int (nI p))], [.int 25, .ref m0], M1)) rfl rfl rfl ?_
                  refine ps_st (S' := (273, [(0, .ref m0), (1, .int (nI p))], [.int (nI p), .int 25, .ref m0], M1)) rfl rfl rfl ?_
                  refine ps_st (S' := (274, [(0, .ref m0), (1, .int (nI p))], [.int 4, .int (nI p), .int 25, .ref m0], M1)) rfl rfl rfl ?_
                  refine ps_st (S' := (275, [(0, .ref m0), (1, .int (nI p))], [.int ((nI p) + 4), .int 25, .ref m0], M1)) rfl rfl rfl ?_
                  rw [nI_add1 (p := p) (k := 4) (x := 4) rfl (by omega)]
                  show pl _ _ _ (_, [(0, .ref m0), (1, .int (nI p))], [.int (nI (p + 4)), .int 25, .ref m0], M1) _
                  refine pl_call (a := [.ref m0, .int 25, .int (nI (p + 4))]) (rest := []) rfl rfl rfl (rd_wrong (x1 := 25) (x2 := (nI (p + 4))) hR1) (fun v251 M252 q253 => ?_)
                  obtain ⟨I254, R255, rfl, hR256, hI257, hX258, hi259, hi260⟩ := q253
                  have hi261 := (hI257 51 (by decide)).trans hl51
                  have hi262 := (hI257 52 (by decide)).trans hl52
                  have hi263 := (hI257 53 (by decide)).trans hl53
                  have hi264 := (hI257 58 (by decide)).trans hl58
                  have hi265 := (hI257 56 (by decide)).trans hl56
                  have hi266 := (hI257 26 (by decide)).trans hl26
                  have hi267 := (hI257 9 (by decide)).trans hl9
                  have hi268 := (hI257 10 (by decide)).trans hl10
                  have hF_269 := hF1.mono (cIx hI257 (by decide)) (cRx hX258 (by decide))
                  have hY_270 := hY1.mono (cIx hI257 (by decide)) (cRx hX258 (by decide))
                  have hP_271 := hP1.mono (cIx hI257 (by decide)) (cRx hX258 (by decide))
                  have hK_272 := hK1.mono (cIx hI257 (by decide)) (cRx hX258 (by decide))
                  have hN9_273 := hN91.mono (cIx hI257 (by decide)) (cRx hX258 (by decide))
                  have hEI274 := hEI1.tr hI257 (by decide)
                  have hER275 := hER1.tr hX258 (by decide)
                  show pl _ _ _ (278, [(0, .ref m0), (1, .int (nI p))], [.int 0], M252) _
                  exact ps_ret rfl rfl (Or.inr ⟨(25, p + 4), I254, R255, by
                      have h25 : mdsN f n E (by2 f (p + 2)) (by2 f (p + 4)) (apN f n E p) = 0 := by
                        have m0_ := mds_0 (f := f) (n := n) (E := E) (x := by2 f (p + 2)) (d := by2 f (p + 4)) (w := apN f n E p)
                        have a0_ := ap_9 (f := f) (n := n) (E := E) (p := p)
                        omega
                      rw [← hs, mtS_st (i := k) (by omega), ← hpk, mh_25 hnm hfl h25], rfl, hR256, hEI274, hER275, hi259, hi260⟩)
              · have c_254 : ¬ (¬ (nI (aN (by2 f p) 8)) = 0) := of_decide_eq_false c_254
                have n_254 : aN (by2 f p) 8 = 0 := (eq_nI (p := aN (by2 f p) 8) (n := 0) (Nat.lt_of_le_of_lt (an_le _ _) (by decide)) (by decide)).mp (Decidable.not_not.mp c_254)
                refine ps_st (S' := (258, [(0, .ref m0), (1, .int (nI p)), (2, .int (nI (by2 f pM))), (3, .int (nI f0)), (4, .int (nI ib)), (5, .int (nI k)), (6, .int (nI (by2 f p))), (7, .int (nI a)), (9, .int (nI i9)), (10, .int (nI s219))], [.int 1, .int (nI (argN (tX f n E (by2 f (p + 4)))))], M1)) rfl rfl rfl ?_
                refine ps_st (S' := (262, [(0, .ref m0), (1, .int (nI p)), (2, .int (nI (by2 f pM))), (3, .int (nI f0)), (4, .int (nI ib)), (5, .int (nI k)), (6, .int (nI (by2 f p))), (7, .int (nI a)), (9, .int (nI i9)), (10, .int (nI s219))], [.int 1, .int (nI (argN (tX f n E (by2 f (p + 4)))))], M1)) rfl rfl rfl ?_
                refine ps_st (S' := (263, [(0, .ref m0), (1, .int (nI p)), (2, .int (nI (by2 f pM))), (3, .int (nI f0)), (4, .int (nI ib)), (5, .int (nI k)), (6, .int (nI (by2 f p))), (7, .int (nI a)), (9, .int (nI i9)), (10, .int (nI s219))], [.int ((nI (argN (tX f n E (by2 f (p + 4))))) + 1)], M1)) rfl rfl rfl ?_
                rw [nI_add1 (p := argN (tX f n E (by2 f (p + 4)))) (k := 1) (x := 1) rfl (by omega)]
                show pl _ _ _ (_, [(0, .ref m0), (1, .int (nI p)), (2, .int (nI (by2 f pM))), (3, .int (nI f0)), (4, .int (nI ib)), (5, .int (nI k)), (6, .int (nI (by2 f p))), (7, .int (nI a)), (9, .int (nI i9)), (10, .int (nI s219))], [.int (nI (argN (tX f n E (by2 f (p + 4))) + 1))], M1) _
                refine ps_st (S' := (266, [(0, .ref m0), (1, .int (nI p)), (2, .int (nI (by2 f pM))), (3, .int (nI f0)), (4, .int (nI ib)), (5, .int (nI k)), (6, .int (nI (by2 f p))), (7, .int (nI a)), (9, .int (nI i9)), (10, .int (nI s219))], [.int 255, .int (nI (argN (tX f n E (by2 f (p + 4))) + 1))], M1)) rfl rfl rfl ?_
                refine ps_if2 (S1 := (279, [(0, .ref m0), (1, .int (nI p)), (2, .int (nI (by2 f pM))), (3, .int (nI f0)), (4, .int (nI ib)), (5, .int (nI k)), (6, .int (nI (by2 f p))), (7, .int (nI a)), (9, .int (nI i9)), (10, .int (nI s219))], [], M1)) (S2 := (269, [(0, .ref m0), (1, .int (nI p))], [], M1)) rfl rfl rfl (fun c_266 => ?_) (fun c_266 => ?_)
                · have c_266 : (nI (argN (tX f n E (by2 f (p + 4))) + 1)) ≤ 255 := of_decide_eq_true c_266
                  have n_266 : argN (tX f n E (by2 f (p + 4))) + 1 ≤ 255 := (le_nI (p := argN (tX f n E (by2 f (p + 4))) + 1) (n := 255) (by omega) (by decide)).mp c_266
                  have hds : ¬ mdsN f n E (by2 f (p + 2)) (by2 f (p + 4)) (apN f n E p) = 0 := by
                    have m0_ := mds_0 (f := f) (n := n) (E := E) (x := by2 f (p + 2)) (d := by2 f (p + 4)) (w := apN f n E p)
                    have a0_ := ap_9 (f := f) (n := n) (E := E) (p := p)
                    omega
                  exact ih.2.2.1 (k) (p) (ib) (a) (i9) (s219) M1 I1 R1 hR1 hEI1 hER1 hl51 hl52 hl53 hl58 hl56 hl26 hl9 hl10 hF1 hY1 hP1 hK1 hN91 (hk0) (hpk) (hpe) (hs) (hib) (hsa) (ht1) (hnm) (hfl) (h9c) (q206_s) (by omega) (by omega) (hds)
                · have c_266 : ¬ ((nI (argN (tX f n E (by2 f (p + 4))) + 1)) ≤ 255) := of_decide_eq_false c_266
                  have n_266 : ¬ (argN (tX f n E (by2 f (p + 4))) + 1 ≤ 255) := fun h9 => c_266 ((le_nI (p := argN (tX f n E (by2 f (p + 4))) + 1) (n := 255) (by omega) (by decide)).mpr h9)
                  refine ps_st (S' := (270, [(0, .ref m0), (1, .int (nI p))], [.ref m0], M1)) rfl rfl rfl ?_
                  refine ps_st (S' := (272, [(0, .ref m0), (1, .int (nI p))], [.int 25, .ref m0], M1)) rfl rfl rfl ?_
                  refine ps_st (S' := (273, [(0, .ref m0), (1, .int (nI p))], [.int (nI p), .int 25, .ref m0], M1)) rfl rfl rfl ?_
                  refine ps_st (S' := (274, [(0, .ref m0), (1, .int (nI p))], [.int 4, .int (nI p), .int 25, .ref m0], M1)) rfl rfl rfl ?_
                  refine ps_st (S' := (275, [(0, .ref m0), (1, .int (nI p))], [.int ((nI p) + 4), .int 25, .ref m0], M1)) rfl rfl rfl ?_
                  rw [nI_add1 (p := p) (k := 4) (x := 4) rfl (by omega)]
                  show pl _ _ _ (_, [(0, .ref m0), (1, .int (nI p))], [.int (nI (p + 4)), .int 25, .ref m0], M1) _
                  refine pl_call (a := [.ref m0, .int 25, .int (nI (p + 4))]) (rest := []) rfl rfl rfl (rd_wrong (x1 := 25) (x2 := (nI (p + 4))) hR1) (fun v276 M277 q278 => ?_)
                  obtain ⟨I279, R280, rfl, hR281, hI282, hX283, hi284, hi285⟩ := q278
                  have hi286 := (hI282 51 (by decide)).trans hl51
                  have hi287 := (hI282 52 (by decide)).trans hl52
                  have hi288 := (hI282 53 (by decide)).trans hl53
                  have hi289 := (hI282 58 (by decide)).trans hl58
                  have hi290 := (hI282 56 (by decide)).trans hl56
                  have hi291 := (hI282 26 (by decide)).trans hl26
                  have hi292 := (hI282 9 (by decide)).trans hl9
                  have hi293 := (hI282 10 (by decide)).trans hl10
                  have hF_294 := hF1.mono (cIx hI282 (by decide)) (cRx hX283 (by decide))
                  have hY_295 := hY1.mono (cIx hI282 (by decide)) (cRx hX283 (by decide))
                  have hP_296 := hP1.mono (cIx hI282 (by decide)) (cRx hX283 (by decide))
                  have hK_297 := hK1.mono (cIx hI282 (by decide)) (cRx hX283 (by decide))
                  have hN9_298 := hN91.mono (cIx hI282 (by decide)) (cRx hX283 (by decide))
                  have hEI299 := hEI1.tr hI282 (by decide)
                  have hER300 := hER1.tr hX283 (by decide)
                  show pl _ _ _ (278, [(0, .ref m0), (1, .int (nI p))], [.int 0], M277) _
                  exact ps_ret rfl rfl (Or.inr ⟨(25, p + 4), I279, R280, by
                      have h25 : mdsN f n E (by2 f (p + 2)) (by2 f (p + 4)) (apN f n E p) = 0 := by
                        have m0_ := mds_0 (f := f) (n := n) (E := E) (x := by2 f (p + 2)) (d := by2 f (p + 4)) (w := apN f n E p)
                        have a0_ := ap_9 (f := f) (n := n) (E := E) (p := p)
                        omega
                      rw [← hs, mtS_st (i := k) (by omega), ← hpk, mh_25 hnm hfl h25], rfl, hR281, hEI299, hER300, hi284, hi285⟩)
            · have c_231 : ¬ ((nI i8) = 0) := of_decide_eq_false c_231
              have n_231 : ¬ (i8 = 0) := fun h9 => c_231 ((eq_nI (p := i8) (n := 0) (by omega) (by decide)).mpr h9)
              refine ps_st (S' := (235, [(10, .int (nI s219)), (0, .ref m0), (1, .int (nI p)), (2, .int (nI (by2 f pM))), (3, .int (nI f0)), (4, .int (nI ib)), (5, .int (nI k)), (6, .int (nI (by2 f p))), (7, .int (nI a)), (8, .int (nI i8)), (9, .int (nI i9))], [.ref m0], M1)) rfl rfl rfl ?_
              refine ps_st (S' := (237, [(10, .int (nI s219)), (0, .ref m0), (1, .int (nI p)), (2, .int (nI (by2 f pM))), (3, .int (nI f0)), (4, .int (nI ib)), (5, .int (nI k)), (6, .int (nI (by2 f p))), (7, .int (nI a)), (8, .int (nI i8)), (9, .int (nI i9))], [.int (nI s219), .ref m0], M1)) rfl rfl rfl ?_
              refine pl_call (a := [.ref m0, .int (nI s219)]) (rest := []) rfl rfl rfl (rd_endsV (tx := tx) (cN := cN) (A := A) (s := s219) (l := (tX f n E (by2 f (p + 4)))) hR1 hY1 (q206_s) (by omega)) (fun v301 M302 q303 => ?_)
              obtain ⟨rfl, rfl⟩ := q303
              show pl _ _ _ (240, [(10, .int (nI s219)), (0, .ref m0), (1, .int (nI p)), (2, .int (nI (by2 f pM))), (3, .int (nI f0)), (4, .int (nI ib)), (5, .int (nI k)), (6, .int (nI (by2 f p))), (7, .int (nI a)), (8, .int (nI i8)), (9, .int (nI i9))], [.int (nI (nresN (tX f n E (by2 f (p + 4)))))], M1) _
              refine ps_if (S1 := (269, [(0, .ref m0), (1, .int (nI p))], [], M1)) (S2 := (243, [(0, .ref m0), (1, .int (nI p)), (2, .int (nI (by2 f pM))), (3, .int (nI f0)), (4, .int (nI ib)), (5, .int (nI k)), (6, .int (nI (by2 f p))), (7, .int (nI a)), (9, .int (nI i9)), (10, .int (nI s219))], [], M1)) rfl rfl rfl (fun c_240 => ?_) (fun c_240 => ?_)
              · have c_240 : (nI (nresN (tX f n E (by2 f (p + 4))))) = 0 := of_decide_eq_true c_240
                have n_240 : nresN (tX f n E (by2 f (p + 4))) = 0 := (eq_nI (p := nresN (tX f n E (by2 f (p + 4)))) (n := 0) (Nat.lt_trans (le1_nres _) (by decide)) (by decide)).mp c_240
                refine ps_st (S' := (270, [(0, .ref m0), (1, .int (nI p))], [.ref m0], M1)) rfl rfl rfl ?_
                refine ps_st (S' := (272, [(0, .ref m0), (1, .int (nI p))], [.int 25, .ref m0], M1)) rfl rfl rfl ?_
                refine ps_st (S' := (273, [(0, .ref m0), (1, .int (nI p))], [.int (nI p), .int 25, .ref m0], M1)) rfl rfl rfl ?_
                refine ps_st (S' := (274, [(0, .ref m0), (1, .int (nI p))], [.int 4, .int (nI p), .int 25, .ref m0], M1)) rfl rfl rfl ?_
                refine ps_st (S' := (275, [(0, .ref m0), (1, .int (nI p))], [.int ((nI p) + 4), .int 25, .ref m0], M1)) rfl rfl rfl ?_
                rw [nI_add1 (p := p) (k := 4) (x := 4) rfl (by omega)]
                show pl _ _ _ (_, [(0, .ref m0), (1, .int (nI p))], [.int (nI (p + 4)), .int 25, .ref m0], M1) _
                refine pl_call (a := [.ref m0, .int 25, .int (nI (p + 4))]) (rest := []) rfl rfl rfl (rd_wrong (x1 := 25) (x2 := (nI (p + 4))) hR1) (fun v304 M305 q306 => ?_)
                obtain ⟨I307, R308, rfl, hR309, hI310, hX311, hi312, hi313⟩ := q306
                have hi314 := (hI310 51 (by decide)).trans hl51
                have hi315 := (hI310 52 (by decide)).trans hl52
                have hi316 := (hI310 53 (by decide)).trans hl53
                have hi317 := (hI310 58 (by decide)).trans hl58
                have hi318 := (hI310 56 (by decide)).trans hl56
                have hi319 := (hI310 26 (by decide)).trans hl26
                have hi320 := (hI310 9 (by decide)).trans hl9
                have hi321 := (hI310 10 (by decide)).trans hl10
                have hF_322 := hF1.mono (cIx hI310 (by decide)) (cRx hX311 (by decide))
                have hY_323 := hY1.mono (cIx hI310 (by decide)) (cRx hX311 (by decide))
                have hP_324 := hP1.mono (cIx hI310 (by decide)) (cRx hX311 (by decide))
                have hK_325 := hK1.mono (cIx hI310 (by decide)) (cRx hX311 (by decide))
                have hN9_326 := hN91.mono (cIx hI310 (by decide)) (cRx hX311 (by decide))
                have hEI327 := hEI1.tr hI310 (by decide)
                have hER328 := hER1.tr hX311 (by decide)
                show pl _ _ _ (278, [(0, .ref m0), (1, .int (nI p))], [.int 0], M305) _
                exact ps_ret rfl rfl (Or.inr ⟨(25, p + 4), I307, R308, by
                    have h25 : mdsN f n E (by2 f (p + 2)) (by2 f (p + 4)) (apN f n E p) = 0 := by
                      have m0_ := mds_0 (f := f) (n := n) (E := E) (x := by2 f (p + 2)) (d := by2 f (p + 4)) (w := apN f n E p)
                      have a0_ := ap_9 (f := f) (n := n) (E := E) (p := p)
                      omega
                    rw [← hs, mtS_st (i := k) (by omega), ← hpk, mh_25 hnm hfl h25], rfl, hR309, hEI327, hER328, hi312, hi313⟩)
              · have c_240 : ¬ ((nI (nresN (tX f n E (by2 f (p + 4))))) = 0) := of_decide_eq_false c_240
                have n_240 : ¬ (nresN (tX f n E (by2 f (p + 4))) = 0) := fun h9 => c_240 ((eq_nI (p := nresN (tX f n E (by2 f (p + 4)))) (n := 0) (Nat.lt_trans (le1_nres _) (by decide)) (by decide)).mpr h9)
                refine ps_st (S' := (244, [(0, .ref m0), (1, .int (nI p)), (2, .int (nI (by2 f pM))), (3, .int (nI f0)), (4, .int (nI ib)), (5, .int (nI k)), (6, .int (nI (by2 f p))), (7, .int (nI a)), (9, .int (nI i9)), (10, .int (nI s219))], [.ref m0], M1)) rfl rfl rfl ?_
                refine ps_st (S' := (246, [(0, .ref m0), (1, .int (nI p)), (2, .int (nI (by2 f pM))), (3, .int (nI f0)), (4, .int (nI ib)), (5, .int (nI k)), (6, .int (nI (by2 f p))), (7, .int (nI a)), (9, .int (nI i9)), (10, .int (nI s219))], [.int (nI s219), .ref m0], M1)) rfl rfl rfl ?_
                obtain ⟨-, -, k_246, W_246, hq1_246, hq2_246, hq3_246, hq4_246, hq5_246, hq6_246, -⟩ := mth_in (l := (tX f n E (by2 f (p + 4)))) (by omega)
                refine pl_call (a := [.ref m0, .int (nI s219)]) (rest := []) rfl rfl rfl (rd_places0 (tx := tx) (cN := cN) (A := A) (s := s219) (l := (tX f n E (by2 f (p + 4)))) (k0 := k_246) (W := W_246) hR1 hY1 (q206_s) (hq1_246) (⟨by omega, hq5_246⟩)) (fun v329 M330 q331 => ?_)
                obtain ⟨rfl, rfl⟩ := q331
                show pl _ _ _ (249, [(0, .ref m0), (1, .int (nI p)), (2, .int (nI (by2 f pM))), (3, .int (nI f0)), (4, .int (nI ib)), (5, .int (nI k)), (6, .int (nI (by2 f p))), (7, .int (nI a)), (9, .int (nI i9)), (10, .int (nI s219))], [.int (nI (W_246))], M1) _
                rw [← hq6_246]
                show pl _ _ _ (_, [(0, .ref m0), (1, .int (nI p)), (2, .int (nI (by2 f pM))), (3, .int (nI f0)), (4, .int (nI ib)), (5, .int (nI k)), (6, .int (nI (by2 f p))), (7, .int (nI a)), (9, .int (nI i9)), (10, .int (nI s219))], [.int (nI (argN (tX f n E (by2 f (p + 4)))))], M1) _
                have hal_246 := argN_lt (tX f n E (by2 f (p + 4)))
                refine ps_st (S' := (251, [(0, .ref m0), (1, .int (nI p)), (2, .int (nI (by2 f pM))), (3, .int (nI f0)), (4, .int (nI ib)), (5, .int (nI k)), (6, .int (nI (by2 f p))), (7, .int (nI a)), (9, .int (nI i9)), (10, .int (nI s219))], [.int (nI (by2 f p)), .int (nI (argN (tX f n E (by2 f (p + 4)))))], M1)) rfl rfl rfl ?_
                refine ps_st (S' := (253, [(0, .ref m0), (1, .int (nI p)), (2, .int (nI (by2 f pM))), (3, .int (nI f0)), (4, .int (nI ib)), (5, .int (nI k)), (6, .int (nI (by2 f p))), (7, .int (nI a)), (9, .int (nI i9)), (10, .int (nI s219))], [.int 8, .int (nI (by2 f p)), .int (nI (argN (tX f n E (by2 f (p + 4)))))], M1)) rfl rfl rfl ?_
                refine ps_st (S' := (254, [(0, .ref m0), (1, .int (nI p)), (2, .int (nI (by2 f pM))), (3, .int (nI f0)), (4, .int (nI ib)), (5, .int (nI k)), (6, .int (nI (by2 f p))), (7, .int (nI a)), (9, .int (nI i9)), (10, .int (nI s219))], [.int ((nI (by2 f p)) &&& 8), .int (nI (argN (tX f n E (by2 f (p + 4)))))], M1)) rfl rfl rfl ?_
                rw [nI_an (p := by2 f p) (k := 8) (x := 8) rfl]
                show pl _ _ _ (_, [(0, .ref m0), (1, .int (nI p)), (2, .int (nI (by2 f pM))), (3, .int (nI f0)), (4, .int (nI ib)), (5, .int (nI k)), (6, .int (nI (by2 f p))), (7, .int (nI a)), (9, .int (nI i9)), (10, .int (nI s219))], [.int (nI (aN (by2 f p) 8)), .int (nI (argN (tX f n E (by2 f (p + 4)))))], M1) _
                refine ps_if (S1 := (261, [(0, .ref m0), (1, .int (nI p)), (2, .int (nI (by2 f pM))), (3, .int (nI f0)), (4, .int (nI ib)), (5, .int (nI k)), (6, .int (nI (by2 f p))), (7, .int (nI a)), (9, .int (nI i9)), (10, .int (nI s219))], [.int (nI (argN (tX f n E (by2 f (p + 4)))))], M1)) (S2 := (257, [(0, .ref m0), (1, .int (nI p)), (2, .int (nI (by2 f pM))), (3, .int (nI f0)), (4, .int (nI ib)), (5, .int (nI k)), (6, .int (nI (by2 f p))), (7, .int (nI a)), (9, .int (nI i9)), (10, .int (nI s219))], [.int (nI (argN (tX f n E (by2 f (p + 4)))))], M1)) rfl rfl rfl (fun c_254 => ?_) (fun c_254 => ?_)
                · have c_254 : ¬ (nI (aN (by2 f p) 8)) = 0 := of_decide_eq_true c_254
                  have n_254 : ¬ (aN (by2 f p) 8 = 0) := fun h9 => c_254 ((eq_nI (p := aN (by2 f p) 8) (n := 0) (Nat.lt_of_le_of_lt (an_le _ _) (by decide)) (by decide)).mpr h9)
                  refine ps_st (S' := (262, [(0, .ref m0), (1, .int (nI p)), (2, .int (nI (by2 f pM))), (3, .int (nI f0)), (4, .int (nI ib)), (5, .int (nI k)), (6, .int (nI (by2 f p))), (7, .int (nI a)), (9, .int (nI i9)), (10, .int (nI s219))], [.int 0, .int (nI (argN (tX f n E (by2 f (p + 4)))))], M1)) rfl rfl rfl ?_
                  refine ps_st (S' := (263, [(0, .ref m0), (1, .int (nI p)), (2, .int (nI (by2 f pM))), (3, .int (nI f0)), (4, .int (nI ib)), (5, .int (nI k)), (6, .int (nI (by2 f p))), (7, .int (nI a)), (9, .int (nI i9)), (10, .int (nI s219))], [.int ((nI (argN (tX f n E (by2 f (p + 4))))) + 0)], M1)) rfl rfl rfl ?_
                  rw [nI_add1 (p := argN (tX f n E (by2 f (p + 4)))) (k := 0) (x := 0) rfl (by omega)]
                  show pl _ _ _ (_, [(0, .ref m0), (1, .int (nI p)), (2, .int (nI (by2 f pM))), (3, .int (nI f0)), (4, .int (nI ib)), (5, .int (nI k)), (6, .int (nI (by2 f p))), (7, .int (nI a)), (9, .int (nI i9)), (10, .int (nI s219))], [.int (nI (argN (tX f n E (by2 f (p + 4))) + 0))], M1) _
                  refine ps_st (S' := (266, [(0, .ref m0), (1, .int (nI p)), (2, .int (nI (by2 f pM))), (3, .int (nI f0)), (4, .int (nI ib)), (5, .int (nI k)), (6, .int (nI (by2 f p))), (7, .int (nI a)), (9, .int (nI i9)), (10, .int (nI s219))], [.int 255, .int (nI (argN (tX f n E (by2 f (p + 4))) + 0))], M1)) rfl rfl rfl ?_
                  refine ps_if2 (S1 := (279, [(0, .ref m0), (1, .int (nI p)), (2, .int (nI (by2 f pM))), (3, .int (nI f0)), (4, .int (nI ib)), (5, .int (nI k)), (6, .int (nI (by2 f p))), (7, .int (nI a)), (9, .int (nI i9)), (10, .int (nI s219))], [], M1)) (S2 := (269, [(0, .ref m0), (1, .int (nI p))], [], M1)) rfl rfl rfl (fun c_266 => ?_) (fun c_266 => ?_)
                  · have c_266 : (nI (argN (tX f n E (by2 f (p + 4))) + 0)) ≤ 255 := of_decide_eq_true c_266
                    have n_266 : argN (tX f n E (by2 f (p + 4))) + 0 ≤ 255 := (le_nI (p := argN (tX f n E (by2 f (p + 4))) + 0) (n := 255) (by omega) (by decide)).mp c_266
                    have hds : ¬ mdsN f n E (by2 f (p + 2)) (by2 f (p + 4)) (apN f n E p) = 0 := by
                      have m0_ := mds_0 (f := f) (n := n) (E := E) (x := by2 f (p + 2)) (d := by2 f (p + 4)) (w := apN f n E p)
                      have a0_ := ap_9 (f := f) (n := n) (E := E) (p := p)
                      omega
                    exact ih.2.2.1 (k) (p) (ib) (a) (i9) (s219) M1 I1 R1 hR1 hEI1 hER1 hl51 hl52 hl53 hl58 hl56 hl26 hl9 hl10 hF1 hY1 hP1 hK1 hN91 (hk0) (hpk) (hpe) (hs) (hib) (hsa) (ht1) (hnm) (hfl) (h9c) (q206_s) (by omega) (by omega) (hds)
                  · have c_266 : ¬ ((nI (argN (tX f n E (by2 f (p + 4))) + 0)) ≤ 255) := of_decide_eq_false c_266
                    have n_266 : ¬ (argN (tX f n E (by2 f (p + 4))) + 0 ≤ 255) := fun h9 => c_266 ((le_nI (p := argN (tX f n E (by2 f (p + 4))) + 0) (n := 255) (by omega) (by decide)).mpr h9)
                    refine ps_st (S' := (270, [(0, .ref m0), (1, .int (nI p))], [.ref m0], M1)) rfl rfl rfl ?_
                    refine ps_st (S' := (272, [(0, .ref m0), (1, .int (nI p))], [.int 25, .ref m0], M1)) rfl rfl rfl ?_
                    refine ps_st (S' := (273, [(0, .ref m0), (1, .int (nI p))], [.int (nI p), .int 25, .ref m0], M1)) rfl rfl rfl ?_
                    refine ps_st (S' := (274, [(0, .ref m0), (1, .int (nI p))], [.int 4, .int (nI p), .int 25, .ref m0], M1)) rfl rfl rfl ?_
                    refine ps_st (S' := (275, [(0, .ref m0), (1, .int (nI p))], [.int ((nI p) + 4), .int 25, .ref m0], M1)) rfl rfl rfl ?_
                    rw [nI_add1 (p := p) (k := 4) (x := 4) rfl (by omega)]
                    show pl _ _ _ (_, [(0, .ref m0), (1, .int (nI p))], [.int (nI (p + 4)), .int 25, .ref m0], M1) _
                    refine pl_call (a := [.ref m0, .int 25, .int (nI (p + 4))]) (rest := []) rfl rfl rfl (rd_wrong (x1 := 25) (x2 := (nI (p + 4))) hR1) (fun v332 M333 q334 => ?_)
                    obtain ⟨I335, R336, rfl, hR337, hI338, hX339, hi340, hi341⟩ := q334
                    have hi342 := (hI338 51 (by decide)).trans hl51
                    have hi343 := (hI338 52 (by decide)).trans hl52
                    have hi344 := (hI338 53 (by decide)).trans hl53
                    have hi345 := (hI338 58 (by decide)).trans hl58
                    have hi346 := (hI338 56 (by decide)).trans hl56
                    have hi347 := (hI338 26 (by decide)).trans hl26
                    have hi348 := (hI338 9 (by decide)).trans hl9
                    have hi349 := (hI338 10 (by decide)).trans hl10
                    have hF_350 := hF1.mono (cIx hI338 (by decide)) (cRx hX339 (by decide))
                    have hY_351 := hY1.mono (cIx hI338 (by decide)) (cRx hX339 (by decide))
                    have hP_352 := hP1.mono (cIx hI338 (by decide)) (cRx hX339 (by decide))
                    have hK_353 := hK1.mono (cIx hI338 (by decide)) (cRx hX339 (by decide))
                    have hN9_354 := hN91.mono (cIx hI338 (by decide)) (cRx hX339 (by decide))
                    have hEI355 := hEI1.tr hI338 (by decide)
                    have hER356 := hER1.tr hX339 (by decide)
                    show pl _ _ _ (278, [(0, .ref m0), (1, .int (nI p))], [.int 0], M333) _
                    exact ps_ret rfl rfl (Or.inr ⟨(25, p + 4), I335, R336, by
                        have h25 : mdsN f n E (by2 f (p + 2)) (by2 f (p + 4)) (apN f n E p) = 0 := by
                          have m0_ := mds_0 (f := f) (n := n) (E := E) (x := by2 f (p + 2)) (d := by2 f (p + 4)) (w := apN f n E p)
                          have a0_ := ap_9 (f := f) (n := n) (E := E) (p := p)
                          omega
                        rw [← hs, mtS_st (i := k) (by omega), ← hpk, mh_25 hnm hfl h25], rfl, hR337, hEI355, hER356, hi340, hi341⟩)
                · have c_254 : ¬ (¬ (nI (aN (by2 f p) 8)) = 0) := of_decide_eq_false c_254
                  have n_254 : aN (by2 f p) 8 = 0 := (eq_nI (p := aN (by2 f p) 8) (n := 0) (Nat.lt_of_le_of_lt (an_le _ _) (by decide)) (by decide)).mp (Decidable.not_not.mp c_254)
                  refine ps_st (S' := (258, [(0, .ref m0), (1, .int (nI p)), (2, .int (nI (by2 f pM))), (3, .int (nI f0)), (4, .int (nI ib)), (5, .int (nI k)), (6, .int (nI (by2 f p))), (7, .int (nI a)), (9, .int (nI i9)), (10, .int (nI s219))], [.int 1, .int (nI (argN (tX f n E (by2 f (p + 4)))))], M1)) rfl rfl rfl ?_
                  refine ps_st (S' := (262, [(0, .ref m0), (1, .int (nI p)), (2, .int (nI (by2 f pM))), (3, .int (nI f0)), (4, .int (nI ib)), (5, .int (nI k)), (6, .int (nI (by2 f p))), (7, .int (nI a)), (9, .int (nI i9)), (10, .int (nI s219))], [.int 1, .int (nI (argN (tX f n E (by2 f (p + 4)))))], M1)) rfl rfl rfl ?_
                  refine ps_st (S' := (263, [(0, .ref m0), (1, .int (nI p)), (2, .int (nI (by2 f pM))), (3, .int (nI f0)), (4, .int (nI ib)), (5, .int (nI k)), (6, .int (nI (by2 f p))), (7, .int (nI a)), (9, .int (nI i9)), (10, .int (nI s219))], [.int ((nI (argN (tX f n E (by2 f (p + 4))))) + 1)], M1)) rfl rfl rfl ?_
                  rw [nI_add1 (p := argN (tX f n E (by2 f (p + 4)))) (k := 1) (x := 1) rfl (by omega)]
                  show pl _ _ _ (_, [(0, .ref m0), (1, .int (nI p)), (2, .int (nI (by2 f pM))), (3, .int (nI f0)), (4, .int (nI ib)), (5, .int (nI k)), (6, .int (nI (by2 f p))), (7, .int (nI a)), (9, .int (nI i9)), (10, .int (nI s219))], [.int (nI (argN (tX f n E (by2 f (p + 4))) + 1))], M1) _
                  refine ps_st (S' := (266, [(0, .ref m0), (1, .int (nI p)), (2, .int (nI (by2 f pM))), (3, .int (nI f0)), (4, .int (nI ib)), (5, .int (nI k)), (6, .int (nI (by2 f p))), (7, .int (nI a)), (9, .int (nI i9)), (10, .int (nI s219))], [.int 255, .int (nI (argN (tX f n E (by2 f (p + 4))) + 1))], M1)) rfl rfl rfl ?_
                  refine ps_if2 (S1 := (279, [(0, .ref m0), (1, .int (nI p)), (2, .int (nI (by2 f pM))), (3, .int (nI f0)), (4, .int (nI ib)), (5, .int (nI k)), (6, .int (nI (by2 f p))), (7, .int (nI a)), (9, .int (nI i9)), (10, .int (nI s219))], [], M1)) (S2 := (269, [(0, .ref m0), (1, .int (nI p))], [], M1)) rfl rfl rfl (fun c_266 => ?_) (fun c_266 => ?_)
                  · have c_266 : (nI (argN (tX f n E (by2 f (p + 4))) + 1)) ≤ 255 := of_decide_eq_true c_266
                    have n_266 : argN (tX f n E (by2 f (p + 4))) + 1 ≤ 255 := (le_nI (p := argN (tX f n E (by2 f (p + 4))) + 1) (n := 255) (by omega) (by decide)).mp c_266
                    have hds : ¬ mdsN f n E (by2 f (p + 2)) (by2 f (p + 4)) (apN f n E p) = 0 := by
                      have m0_ := mds_0 (f := f) (n := n) (E := E) (x := by2 f (p + 2)) (d := by2 f (p + 4)) (w := apN f n E p)
                      have a0_ := ap_9 (f := f) (n := n) (E := E) (p := p)
                      omega
                    exact ih.2.2.1 (k) (p) (ib) (a) (i9) (s219) M1 I1 R1 hR1 hEI1 hER1 hl51 hl52 hl53 hl58 hl56 hl26 hl9 hl10 hF1 hY1 hP1 hK1 hN91 (hk0) (hpk) (hpe) (hs) (hib) (hsa) (ht1) (hnm) (hfl) (h9c) (q206_s) (by omega) (by omega) (hds)
                  · have c_266 : ¬ ((nI (argN (tX f n E (by2 f (p + 4))) + 1)) ≤ 255) := of_decide_eq_false c_266
                    have n_266 : ¬ (argN (tX f n E (by2 f (p + 4))) + 1 ≤ 255) := fun h9 => c_266 ((le_nI (p := argN (tX f n E (by2 f (p + 4))) + 1) (n := 255) (by omega) (by decide)).mpr h9)
                    refine ps_st (S' := (270, [(0, .ref m0), (1, .int (nI p))], [.ref m0], M1)) rfl rfl rfl ?_
                    refine ps_st (S' := (272, [(0, .ref m0), (1, .int (nI p))], [.int 25, .ref m0], M1)) rfl rfl rfl ?_
                    refine ps_st (S' := (273, [(0, .ref m0), (1, .int (nI p))], [.int (nI p), .int 25, .ref m0], M1)) rfl rfl rfl ?_
                    refine ps_st (S' := (274, [(0, .ref m0), (1, .int (nI p))], [.int 4, .int (nI p), .int 25, .ref m0], M1)) rfl rfl rfl ?_
                    refine ps_st (S' := (275, [(0, .ref m0), (1, .int (nI p))], [.int ((nI p) + 4), .int 25, .ref m0], M1)) rfl rfl rfl ?_
                    rw [nI_add1 (p := p) (k := 4) (x := 4) rfl (by omega)]
                    show pl _ _ _ (_, [(0, .ref m0), (1, .int (nI p))], [.int (nI (p + 4)), .int 25, .ref m0], M1) _
                    refine pl_call (a := [.ref m0, .int 25, .int (nI (p + 4))]) (rest := []) rfl rfl rfl (rd_wrong (x1 := 25) (x2 := (nI (p + 4))) hR1) (fun v357 M358 q359 => ?_)
                    obtain ⟨I360, R361, rfl, hR362, hI363, hX364, hi365, hi366⟩ := q359
                    have hi367 := (hI363 51 (by decide)).trans hl51
                    have hi368 := (hI363 52 (by decide)).trans hl52
                    have hi369 := (hI363 53 (by decide)).trans hl53
                    have hi370 := (hI363 58 (by decide)).trans hl58
                    have hi371 := (hI363 56 (by decide)).trans hl56
                    have hi372 := (hI363 26 (by decide)).trans hl26
                    have hi373 := (hI363 9 (by decide)).trans hl9
                    have hi374 := (hI363 10 (by decide)).trans hl10
                    have hF_375 := hF1.mono (cIx hI363 (by decide)) (cRx hX364 (by decide))
                    have hY_376 := hY1.mono (cIx hI363 (by decide)) (cRx hX364 (by decide))
                    have hP_377 := hP1.mono (cIx hI363 (by decide)) (cRx hX364 (by decide))
                    have hK_378 := hK1.mono (cIx hI363 (by decide)) (cRx hX364 (by decide))
                    have hN9_379 := hN91.mono (cIx hI363 (by decide)) (cRx hX364 (by decide))
                    have hEI380 := hEI1.tr hI363 (by decide)
                    have hER381 := hER1.tr hX364 (by decide)
                    show pl _ _ _ (278, [(0, .ref m0), (1, .int (nI p))], [.int 0], M358) _
                    exact ps_ret rfl rfl (Or.inr ⟨(25, p + 4), I360, R361, by
                        have h25 : mdsN f n E (by2 f (p + 2)) (by2 f (p + 4)) (apN f n E p) = 0 := by
                          have m0_ := mds_0 (f := f) (n := n) (E := E) (x := by2 f (p + 2)) (d := by2 f (p + 4)) (w := apN f n E p)
                          have a0_ := ap_9 (f := f) (n := n) (E := E) (p := p)
                          omega
                        rw [← hs, mtS_st (i := k) (by omega), ← hpk, mh_25 hnm hfl h25], rfl, hR362, hEI380, hER381, hi365, hi366⟩)
      · skip
        intro k p ib a i9 d M1 I1 R1 hR1 hEI1 hER1 hl51 hl52 hl53 hl58 hl56 hl26 hl9 hl10 hF1 hY1 hP1 hK1 hN91 hk0 hpk hpe hs hib hsa ht1 hnm hfl h9c hsd ht2 hmt hds
        have hn := hF1.1
        have hu9 := by2_lt f pM
        have htl := hY1.1.2.2.1
        have hBl := hMB.1
        have hi7 := hsi.1
        have hc7 := hsc.1
        have hu8 := by2_lt f p
        have hsa1 := hsa.1
        have hsd1 := hsd.1
        refine ps_st1 (S' := (280, [(0, .ref m0), (1, .int (nI p)), (2, .int (nI (by2 f pM))), (3, .int (nI f0)), (4, .int (nI ib)), (5, .int (nI k)), (6, .int (nI (by2 f p))), (7, .int (nI a)), (9, .int (nI i9)), (10, .int (nI d))], [.ref m0], M1)) rfl rfl rfl ?_
        refine pr_int (j := 26) (S' := (283, [(0, .ref m0), (1, .int (nI p)), (2, .int (nI (by2 f pM))), (3, .int (nI f0)), (4, .int (nI ib)), (5, .int (nI k)), (6, .int (nI (by2 f p))), (7, .int (nI a)), (9, .int (nI i9)), (10, .int (nI d))], [.int (nI (f0 + k))], M1)) rfl hR1 rfl hl26 rfl ?_
        refine ps_st (S' := (285, [(11, .int (nI (f0 + k))), (0, .ref m0), (1, .int (nI p)), (2, .int (nI (by2 f pM))), (3, .int (nI f0)), (4, .int (nI ib)), (5, .int (nI k)), (6, .int (nI (by2 f p))), (7, .int (nI a)), (9, .int (nI i9)), (10, .int (nI d))], [], M1)) rfl rfl rfl ?_
        refine ps_st (S' := (286, [(11, .int (nI (f0 + k))), (0, .ref m0), (1, .int (nI p)), (2, .int (nI (by2 f pM))), (3, .int (nI f0)), (4, .int (nI ib)), (5, .int (nI k)), (6, .int (nI (by2 f p))), (7, .int (nI a)), (9, .int (nI i9)), (10, .int (nI d))], [.ref m0], M1)) rfl rfl rfl ?_
        refine pr_ref (j := 34) (S' := (289, [(11, .int (nI (f0 + k))), (0, .ref m0), (1, .int (nI p)), (2, .int (nI (by2 f pM))), (3, .int (nI f0)), (4, .int (nI ib)), (5, .int (nI k)), (6, .int (nI (by2 f p))), (7, .int (nI a)), (9, .int (nI i9)), (10, .int (nI d))], [.ref (q 34)], M1)) rfl hR1 rfl rfl ?_
        refine ps_st (S' := (291, [(11, .int (nI (f0 + k))), (0, .ref m0), (1, .int (nI p)), (2, .int (nI (by2 f pM))), (3, .int (nI f0)), (4, .int (nI ib)), (5, .int (nI k)), (6, .int (nI (by2 f p))), (7, .int (nI a)), (9, .int (nI i9)), (10, .int (nI d))], [.int (nI (f0 + k)), .ref (q 34)], M1)) rfl rfl rfl ?_
        refine ps_st (S' := (293, [(11, .int (nI (f0 + k))), (0, .ref m0), (1, .int (nI p)), (2, .int (nI (by2 f pM))), (3, .int (nI f0)), (4, .int (nI ib)), (5, .int (nI k)), (6, .int (nI (by2 f p))), (7, .int (nI a)), (9, .int (nI i9)), (10, .int (nI d))], [.int (nI (by2 f p)), .int (nI (f0 + k)), .ref (q 34)], M1)) rfl rfl rfl ?_
        refine pr_st (a := 34) (j := f0 + k) rfl hR1 rfl (by omega) (fun M382 R383 i1_293 hR384 hS385 => ?_)
        have hF_386 := hF1.mono (fun _ _ => rfl) (rRx hS385 (by decide))
        have hY_387 := hY1.mono (fun _ _ => rfl) (rRx hS385 (by decide))
        have hP_388 := hP1.mono (fun _ _ => rfl) (rRx hS385 (by decide))
        have hK_389 := hK1.mono (fun _ _ => rfl) (rRx hS385 (by decide))
        have hN9_390 := hN91.mono (fun _ _ => rfl) (rRx hS385 (by decide))
        have hER391 := hER1.st hS385 (by decide)
        show pl _ _ _ (294, [(11, .int (nI (f0 + k))), (0, .ref m0), (1, .int (nI p)), (2, .int (nI (by2 f pM))), (3, .int (nI f0)), (4, .int (nI ib)), (5, .int (nI k)), (6, .int (nI (by2 f p))), (7, .int (nI a)), (9, .int (nI i9)), (10, .int (nI d))], [], M382) _
        have c34_392 : CE 34 (f0 + k) (nI (by2 f p)) I1 R383 := CE.st hS385
        refine ps_st (S' := (295, [(11, .int (nI (f0 + k))), (0, .ref m0), (1, .int (nI p)), (2, .int (nI (by2 f pM))), (3, .int (nI f0)), (4, .int (nI ib)), (5, .int (nI k)), (6, .int (nI (by2 f p))), (7, .int (nI a)), (9, .int (nI i9)), (10, .int (nI d))], [.ref m0], M382)) rfl rfl rfl ?_
        refine pr_ref (j := 35) (S' := (298, [(11, .int (nI (f0 + k))), (0, .ref m0), (1, .int (nI p)), (2, .int (nI (by2 f pM))), (3, .int (nI f0)), (4, .int (nI ib)), (5, .int (nI k)), (6, .int (nI (by2 f p))), (7, .int (nI a)), (9, .int (nI i9)), (10, .int (nI d))], [.ref (q 35)], M382)) rfl hR384 rfl rfl ?_
        refine ps_st (S' := (300, [(11, .int (nI (f0 + k))), (0, .ref m0), (1, .int (nI p)), (2, .int (nI (by2 f pM))), (3, .int (nI f0)), (4, .int (nI ib)), (5, .int (nI k)), (6, .int (nI (by2 f p))), (7, .int (nI a)), (9, .int (nI i9)), (10, .int (nI d))], [.int (nI (f0 + k)), .ref (q 35)], M382)) rfl rfl rfl ?_
        refine ps_st (S' := (302, [(11, .int (nI (f0 + k))), (0, .ref m0), (1, .int (nI p)), (2, .int (nI (by2 f pM))), (3, .int (nI f0)), (4, .int (nI ib)), (5, .int (nI k)), (6, .int (nI (by2 f p))), (7, .int (nI a)), (9, .int (nI i9)), (10, .int (nI d))], [.int (nI a), .int (nI (f0 + k)), .ref (q 35)], M382)) rfl rfl rfl ?_
        refine pr_st (a := 35) (j := f0 + k) rfl hR384 rfl (by omega) (fun M393 R394 i1_302 hR395 hS396 => ?_)
        have hF_397 := hF_386.mono (fun _ _ => rfl) (rRx hS396 (by decide))
        have hY_398 := hY_387.mono (fun _ _ => rfl) (rRx hS396 (by decide))
        have hP_399 := hP_388.mono (fun _ _ => rfl) (rRx hS396 (by decide))
        have hK_400 := hK_389.mono (fun _ _ => rfl) (rRx hS396 (by decide))
        have c34_401 := c34_392.mono (fun _ _ => rfl) (rRx hS396 (by decide))
        have hER402 := hER391.st hS396 (by decide)
        show pl _ _ _ (303, [(11, .int (nI (f0 + k))), (0, .ref m0), (1, .int (nI p)), (2, .int (nI (by2 f pM))), (3, .int (nI f0)), (4, .int (nI ib)), (5, .int (nI k)), (6, .int (nI (by2 f p))), (7, .int (nI a)), (9, .int (nI i9)), (10, .int (nI d))], [], M393) _
        have c35_403 : CE 35 (f0 + k) (nI a) I1 R394 := CE.st hS396
        have hN9_404 := FN.st (I' := I1) hN9_390 hS396 rfl
        refine ps_st (S' := (304, [(11, .int (nI (f0 + k))), (0, .ref m0), (1, .int (nI p)), (2, .int (nI (by2 f pM))), (3, .int (nI f0)), (4, .int (nI ib)), (5, .int (nI k)), (6, .int (nI (by2 f p))), (7, .int (nI a)), (9, .int (nI i9)), (10, .int (nI d))], [.ref m0], M393)) rfl rfl rfl ?_
        refine pr_ref (j := 36) (S' := (307, [(11, .int (nI (f0 + k))), (0, .ref m0), (1, .int (nI p)), (2, .int (nI (by2 f pM))), (3, .int (nI f0)), (4, .int (nI ib)), (5, .int (nI k)), (6, .int (nI (by2 f p))), (7, .int (nI a)), (9, .int (nI i9)), (10, .int (nI d))], [.ref (q 36)], M393)) rfl hR395 rfl rfl ?_
        refine ps_st (S' := (309, [(11, .int (nI (f0 + k))), (0, .ref m0), (1, .int (nI p)), (2, .int (nI (by2 f pM))), (3, .int (nI f0)), (4, .int (nI ib)), (5, .int (nI k)), (6, .int (nI (by2 f p))), (7, .int (nI a)), (9, .int (nI i9)), (10, .int (nI d))], [.int (nI (f0 + k)), .ref (q 36)], M393)) rfl rfl rfl ?_
        refine ps_st (S' := (311, [(11, .int (nI (f0 + k))), (0, .ref m0), (1, .int (nI p)), (2, .int (nI (by2 f pM))), (3, .int (nI f0)), (4, .int (nI ib)), (5, .int (nI k)), (6, .int (nI (by2 f p))), (7, .int (nI a)), (9, .int (nI i9)), (10, .int (nI d))], [.int (nI d), .int (nI (f0 + k)), .ref (q 36)], M393)) rfl rfl rfl ?_
        refine pr_st (a := 36) (j := f0 + k) rfl hR395 rfl (by omega) (fun M405 R406 i1_311 hR407 hS408 => ?_)
        have hF_409 := hF_397.mono (fun _ _ => rfl) (rRx hS408 (by decide))
        have hY_410 := hY_398.mono (fun _ _ => rfl) (rRx hS408 (by decide))
        have hP_411 := hP_399.mono (fun _ _ => rfl) (rRx hS408 (by decide))
        have hK_412 := hK_400.mono (fun _ _ => rfl) (rRx hS408 (by decide))
        have c34_413 := c34_401.mono (fun _ _ => rfl) (rRx hS408 (by decide))
        have c35_414 := c35_403.mono (fun _ _ => rfl) (rRx hS408 (by decide))
        have hER415 := hER402.st hS408 (by decide)
        show pl _ _ _ (312, [(11, .int (nI (f0 + k))), (0, .ref m0), (1, .int (nI p)), (2, .int (nI (by2 f pM))), (3, .int (nI f0)), (4, .int (nI ib)), (5, .int (nI k)), (6, .int (nI (by2 f p))), (7, .int (nI a)), (9, .int (nI i9)), (10, .int (nI d))], [], M405) _
        have c36_416 : CE 36 (f0 + k) (nI d) I1 R406 := CE.st hS408
        have hN9_417 := FN.st (I' := I1) hN9_404 hS408 rfl
        refine ps_st (S' := (313, [(11, .int (nI (f0 + k))), (0, .ref m0), (1, .int (nI p)), (2, .int (nI (by2 f pM))), (3, .int (nI f0)), (4, .int (nI ib)), (5, .int (nI k)), (6, .int (nI (by2 f p))), (7, .int (nI a)), (9, .int (nI i9)), (10, .int (nI d))], [.ref m0], M405)) rfl rfl rfl ?_
        refine pr_ref (j := 37) (S' := (316, [(11, .int (nI (f0 + k))), (0, .ref m0), (1, .int (nI p)), (2, .int (nI (by2 f pM))), (3, .int (nI f0)), (4, .int (nI ib)), (5, .int (nI k)), (6, .int (nI (by2 f p))), (7, .int (nI a)), (9, .int (nI i9)), (10, .int (nI d))], [.ref (q 37)], M405)) rfl hR407 rfl rfl ?_
        refine ps_st (S' := (318, [(11, .int (nI (f0 + k))), (0, .ref m0), (1, .int (nI p)), (2, .int (nI (by2 f pM))), (3, .int (nI f0)), (4, .int (nI ib)), (5, .int (nI k)), (6, .int (nI (by2 f p))), (7, .int (nI a)), (9, .int (nI i9)), (10, .int (nI d))], [.int (nI (f0 + k)), .ref (q 37)], M405)) rfl rfl rfl ?_
        refine ps_st (S' := (319, [(11, .int (nI (f0 + k))), (0, .ref m0), (1, .int (nI p)), (2, .int (nI (by2 f pM))), (3, .int (nI f0)), (4, .int (nI ib)), (5, .int (nI k)), (6, .int (nI (by2 f p))), (7, .int (nI a)), (9, .int (nI i9)), (10, .int (nI d))], [.int (-1), .int (nI (f0 + k)), .ref (q 37)], M405)) rfl rfl rfl ?_
        refine pr_st (a := 37) (j := f0 + k) rfl hR407 rfl (by omega) (fun M418 R419 i1_319 hR420 hS421 => ?_)
        have hF_422 := hF_409.mono (fun _ _ => rfl) (rRx hS421 (by decide))
        have hY_423 := hY_410.mono (fun _ _ => rfl) (rRx hS421 (by decide))
        have hP_424 := hP_411.mono (fun _ _ => rfl) (rRx hS421 (by decide))
        have hK_425 := hK_412.mono (fun _ _ => rfl) (rRx hS421 (by decide))
        have c34_426 := c34_413.mono (fun _ _ => rfl) (rRx hS421 (by decide))
        have c35_427 := c35_414.mono (fun _ _ => rfl) (rRx hS421 (by decide))
        have c36_428 := c36_416.mono (fun _ _ => rfl) (rRx hS421 (by decide))
        have hN9_429 := hN9_417.mono (fun _ _ => rfl) (rRx hS421 (by decide))
        have hER430 := hER415.st hS421 (by decide)
        show pl _ _ _ (320, [(11, .int (nI (f0 + k))), (0, .ref m0), (1, .int (nI p)), (2, .int (nI (by2 f pM))), (3, .int (nI f0)), (4, .int (nI ib)), (5, .int (nI k)), (6, .int (nI (by2 f p))), (7, .int (nI a)), (9, .int (nI i9)), (10, .int (nI d))], [], M418) _
        have hC_431 : CX 0 (f0 + k) I1 R419 := by unfold CX; rw [if_pos rfl, hS421, rset_at]
        refine ps_st (S' := (321, [(11, .int (nI (f0 + k))), (0, .ref m0), (1, .int (nI p)), (2, .int (nI (by2 f pM))), (3, .int (nI f0)), (4, .int (nI ib)), (5, .int (nI k)), (6, .int (nI (by2 f p))), (7, .int (nI a)), (9, .int (nI i9)), (10, .int (nI d))], [.ref m0], M418)) rfl rfl rfl ?_
        refine pr_ref (j := 38) (S' := (324, [(11, .int (nI (f0 + k))), (0, .ref m0), (1, .int (nI p)), (2, .int (nI (by2 f pM))), (3, .int (nI f0)), (4, .int (nI ib)), (5, .int (nI k)), (6, .int (nI (by2 f p))), (7, .int (nI a)), (9, .int (nI i9)), (10, .int (nI d))], [.ref (q 38)], M418)) rfl hR420 rfl rfl ?_
        refine ps_st (S' := (326, [(11, .int (nI (f0 + k))), (0, .ref m0), (1, .int (nI p)), (2, .int (nI (by2 f pM))), (3, .int (nI f0)), (4, .int (nI ib)), (5, .int (nI k)), (6, .int (nI (by2 f p))), (7, .int (nI a)), (9, .int (nI i9)), (10, .int (nI d))], [.int (nI (f0 + k)), .ref (q 38)], M418)) rfl rfl rfl ?_
        refine ps_st (S' := (327, [(11, .int (nI (f0 + k))), (0, .ref m0), (1, .int (nI p)), (2, .int (nI (by2 f pM))), (3, .int (nI f0)), (4, .int (nI ib)), (5, .int (nI k)), (6, .int (nI (by2 f p))), (7, .int (nI a)), (9, .int (nI i9)), (10, .int (nI d))], [.int 0, .int (nI (f0 + k)), .ref (q 38)], M418)) rfl rfl rfl ?_
        refine pr_st (a := 38) (j := f0 + k) rfl hR420 rfl (by omega) (fun M432 R433 i1_327 hR434 hS435 => ?_)
        have hF_436 := hF_422.mono (fun _ _ => rfl) (rRx hS435 (by decide))
        have hY_437 := hY_423.mono (fun _ _ => rfl) (rRx hS435 (by decide))
        have hP_438 := hP_424.mono (fun _ _ => rfl) (rRx hS435 (by decide))
        have hK_439 := hK_425.mono (fun _ _ => rfl) (rRx hS435 (by decide))
        have c34_440 := c34_426.mono (fun _ _ => rfl) (rRx hS435 (by decide))
        have c35_441 := c35_427.mono (fun _ _ => rfl) (rRx hS435 (by decide))
        have c36_442 := c36_428.mono (fun _ _ => rfl) (rRx hS435 (by decide))
        have hN9_443 := hN9_429.mono (fun _ _ => rfl) (rRx hS435 (by decide))
        have hC_444 := hC_431.mono (fun _ _ => rfl) (rRx hS435 (by decide))
        have hER445 := hER430.st hS435 (by decide)
        show pl _ _ _ (328, [(11, .int (nI (f0 + k))), (0, .ref m0), (1, .int (nI p)), (2, .int (nI (by2 f pM))), (3, .int (nI f0)), (4, .int (nI ib)), (5, .int (nI k)), (6, .int (nI (by2 f p))), (7, .int (nI a)), (9, .int (nI i9)), (10, .int (nI d))], [], M432) _
        refine ps_st (S' := (329, [(11, .int (nI (f0 + k))), (0, .ref m0), (1, .int (nI p)), (2, .int (nI (by2 f pM))), (3, .int (nI f0)), (4, .int (nI ib)), (5, .int (nI k)), (6, .int (nI (by2 f p))), (7, .int (nI a)), (9, .int (nI i9)), (10, .int (nI d))], [.ref m0], M432)) rfl rfl rfl ?_
        refine pr_ref (j := 39) (S' := (332, [(11, .int (nI (f0 + k))), (0, .ref m0), (1, .int (nI p)), (2, .int (nI (by2 f pM))), (3, .int (nI f0)), (4, .int (nI ib)), (5, .int (nI k)), (6, .int (nI (by2 f p))), (7, .int (nI a)), (9, .int (nI i9)), (10, .int (nI d))], [.ref (q 39)], M432)) rfl hR434 rfl rfl ?_
        refine ps_st (S' := (334, [(11, .int (nI (f0 + k))), (0, .ref m0), (1, .int (nI p)), (2, .int (nI (by2 f pM))), (3, .int (nI f0)), (4, .int (nI ib)), (5, .int (nI k)), (6, .int (nI (by2 f p))), (7, .int (nI a)), (9, .int (nI i9)), (10, .int (nI d))], [.int (nI (f0 + k)), .ref (q 39)], M432)) rfl rfl rfl ?_
        refine ps_st (S' := (335, [(11, .int (nI (f0 + k))), (0, .ref m0), (1, .int (nI p)), (2, .int (nI (by2 f pM))), (3, .int (nI f0)), (4, .int (nI ib)), (5, .int (nI k)), (6, .int (nI (by2 f p))), (7, .int (nI a)), (9, .int (nI i9)), (10, .int (nI d))], [.int 0, .int (nI (f0 + k)), .ref (q 39)], M432)) rfl rfl rfl ?_
        refine pr_st (a := 39) (j := f0 + k) rfl hR434 rfl (by omega) (fun M446 R447 i1_335 hR448 hS449 => ?_)
        have hF_450 := hF_436.mono (fun _ _ => rfl) (rRx hS449 (by decide))
        have hY_451 := hY_437.mono (fun _ _ => rfl) (rRx hS449 (by decide))
        have hP_452 := hP_438.mono (fun _ _ => rfl) (rRx hS449 (by decide))
        have hK_453 := hK_439.mono (fun _ _ => rfl) (rRx hS449 (by decide))
        have c34_454 := c34_440.mono (fun _ _ => rfl) (rRx hS449 (by decide))
        have c35_455 := c35_441.mono (fun _ _ => rfl) (rRx hS449 (by decide))
        have c36_456 := c36_442.mono (fun _ _ => rfl) (rRx hS449 (by decide))
        have hN9_457 := hN9_443.mono (fun _ _ => rfl) (rRx hS449 (by decide))
        have hC_458 := hC_444.mono (fun _ _ => rfl) (rRx hS449 (by decide))
        have hER459 := hER445.st hS449 (by decide)
        show pl _ _ _ (336, [(11, .int (nI (f0 + k))), (0, .ref m0), (1, .int (nI p)), (2, .int (nI (by2 f pM))), (3, .int (nI f0)), (4, .int (nI ib)), (5, .int (nI k)), (6, .int (nI (by2 f p))), (7, .int (nI a)), (9, .int (nI i9)), (10, .int (nI d))], [], M446) _
        refine ps_st (S' := (337, [(11, .int (nI (f0 + k))), (0, .ref m0), (1, .int (nI p)), (2, .int (nI (by2 f pM))), (3, .int (nI f0)), (4, .int (nI ib)), (5, .int (nI k)), (6, .int (nI (by2 f p))), (7, .int (nI a)), (9, .int (nI i9)), (10, .int (nI d))], [.ref m0], M446)) rfl rfl rfl ?_
        refine pr_ref (j := 40) (S' := (340, [(11, .int (nI (f0 + k))), (0, .ref m0), (1, .int (nI p)), (2, .int (nI (by2 f pM))), (3, .int (nI f0)), (4, .int (nI ib)), (5, .int (nI k)), (6, .int (nI (by2 f p))), (7, .int (nI a)), (9, .int (nI i9)), (10, .int (nI d))], [.ref (q 40)], M446)) rfl hR448 rfl rfl ?_
        refine ps_st (S' := (342, [(11, .int (nI (f0 + k))), (0, .ref m0), (1, .int (nI p)), (2, .int (nI (by2 f pM))), (3, .int (nI f0)), (4, .int (nI ib)), (5, .int (nI k)), (6, .int (nI (by2 f p))), (7, .int (nI a)), (9, .int (nI i9)), (10, .int (nI d))], [.int (nI (f0 + k)), .ref (q 40)], M446)) rfl rfl rfl ?_
        refine ps_st (S' := (343, [(11, .int (nI (f0 + k))), (0, .ref m0), (1, .int (nI p)), (2, .int (nI (by2 f pM))), (3, .int (nI f0)), (4, .int (nI ib)), (5, .int (nI k)), (6, .int (nI (by2 f p))), (7, .int (nI a)), (9, .int (nI i9)), (10, .int (nI d))], [.int 0, .int (nI (f0 + k)), .ref (q 40)], M446)) rfl rfl rfl ?_
        refine pr_st (a := 40) (j := f0 + k) rfl hR448 rfl (by omega) (fun M460 R461 i1_343 hR462 hS463 => ?_)
        have hF_464 := hF_450.mono (fun _ _ => rfl) (rRx hS463 (by decide))
        have hY_465 := hY_451.mono (fun _ _ => rfl) (rRx hS463 (by decide))
        have hP_466 := hP_452.mono (fun _ _ => rfl) (rRx hS463 (by decide))
        have hK_467 := hK_453.mono (fun _ _ => rfl) (rRx hS463 (by decide))
        have c34_468 := c34_454.mono (fun _ _ => rfl) (rRx hS463 (by decide))
        have c35_469 := c35_455.mono (fun _ _ => rfl) (rRx hS463 (by decide))
        have c36_470 := c36_456.mono (fun _ _ => rfl) (rRx hS463 (by decide))
        have hN9_471 := hN9_457.mono (fun _ _ => rfl) (rRx hS463 (by decide))
        have hC_472 := hC_458.mono (fun _ _ => rfl) (rRx hS463 (by decide))
        have hER473 := hER459.st hS463 (by decide)
        show pl _ _ _ (344, [(11, .int (nI (f0 + k))), (0, .ref m0), (1, .int (nI p)), (2, .int (nI (by2 f pM))), (3, .int (nI f0)), (4, .int (nI ib)), (5, .int (nI k)), (6, .int (nI (by2 f p))), (7, .int (nI a)), (9, .int (nI i9)), (10, .int (nI d))], [], M460) _
        refine ps_st (S' := (345, [(11, .int (nI (f0 + k))), (0, .ref m0), (1, .int (nI p)), (2, .int (nI (by2 f pM))), (3, .int (nI f0)), (4, .int (nI ib)), (5, .int (nI k)), (6, .int (nI (by2 f p))), (7, .int (nI a)), (9, .int (nI i9)), (10, .int (nI d))], [.ref m0], M460)) rfl rfl rfl ?_
        refine pr_ref (j := 42) (S' := (348, [(11, .int (nI (f0 + k))), (0, .ref m0), (1, .int (nI p)), (2, .int (nI (by2 f pM))), (3, .int (nI f0)), (4, .int (nI ib)), (5, .int (nI k)), (6, .int (nI (by2 f p))), (7, .int (nI a)), (9, .int (nI i9)), (10, .int (nI d))], [.ref (q 42)], M460)) rfl hR462 rfl rfl ?_
        refine ps_st (S' := (350, [(11, .int (nI (f0 + k))), (0, .ref m0), (1, .int (nI p)), (2, .int (nI (by2 f pM))), (3, .int (nI f0)), (4, .int (nI ib)), (5, .int (nI k)), (6, .int (nI (by2 f p))), (7, .int (nI a)), (9, .int (nI i9)), (10, .int (nI d))], [.int (nI (f0 + k)), .ref (q 42)], M460)) rfl rfl rfl ?_
        refine ps_st (S' := (351, [(11, .int (nI (f0 + k))), (0, .ref m0), (1, .int (nI p)), (2, .int (nI (by2 f pM))), (3, .int (nI f0)), (4, .int (nI ib)), (5, .int (nI k)), (6, .int (nI (by2 f p))), (7, .int (nI a)), (9, .int (nI i9)), (10, .int (nI d))], [.int 0, .int (nI (f0 + k)), .ref (q 42)], M460)) rfl rfl rfl ?_
        refine pr_st (a := 42) (j := f0 + k) rfl hR462 rfl (by omega) (fun M474 R475 i1_351 hR476 hS477 => ?_)
        have hF_478 := hF_464.mono (fun _ _ => rfl) (rRx hS477 (by decide))
        have hY_479 := hY_465.mono (fun _ _ => rfl) (rRx hS477 (by decide))
        have hP_480 := hP_466.mono (fun _ _ => rfl) (rRx hS477 (by decide))
        have hK_481 := hK_467.mono (fun _ _ => rfl) (rRx hS477 (by decide))
        have c34_482 := c34_468.mono (fun _ _ => rfl) (rRx hS477 (by decide))
        have c35_483 := c35_469.mono (fun _ _ => rfl) (rRx hS477 (by decide))
        have c36_484 := c36_470.mono (fun _ _ => rfl) (rRx hS477 (by decide))
        have hN9_485 := hN9_471.mono (fun _ _ => rfl) (rRx hS477 (by decide))
        have hC_486 := hC_472.mono (fun _ _ => rfl) (rRx hS477 (by decide))
        have hER487 := hER473.st hS477 (by decide)
        show pl _ _ _ (352, [(11, .int (nI (f0 + k))), (0, .ref m0), (1, .int (nI p)), (2, .int (nI (by2 f pM))), (3, .int (nI f0)), (4, .int (nI ib)), (5, .int (nI k)), (6, .int (nI (by2 f p))), (7, .int (nI a)), (9, .int (nI i9)), (10, .int (nI d))], [], M474) _
        refine ps_st (S' := (353, [(11, .int (nI (f0 + k))), (0, .ref m0), (1, .int (nI p)), (2, .int (nI (by2 f pM))), (3, .int (nI f0)), (4, .int (nI ib)), (5, .int (nI k)), (6, .int (nI (by2 f p))), (7, .int (nI a)), (9, .int (nI i9)), (10, .int (nI d))], [.ref m0], M474)) rfl rfl rfl ?_
        refine pr_ref (j := 43) (S' := (356, [(11, .int (nI (f0 + k))), (0, .ref m0), (1, .int (nI p)), (2, .int (nI (by2 f pM))), (3, .int (nI f0)), (4, .int (nI ib)), (5, .int (nI k)), (6, .int (nI (by2 f p))), (7, .int (nI a)), (9, .int (nI i9)), (10, .int (nI d))], [.ref (q 43)], M474)) rfl hR476 rfl rfl ?_
        refine ps_st (S' := (358, [(11, .int (nI (f0 + k))), (0, .ref m0), (1, .int (nI p)), (2, .int (nI (by2 f pM))), (3, .int (nI f0)), (4, .int (nI ib)), (5, .int (nI k)), (6, .int (nI (by2 f p))), (7, .int (nI a)), (9, .int (nI i9)), (10, .int (nI d))], [.int (nI (f0 + k)), .ref (q 43)], M474)) rfl rfl rfl ?_
        refine ps_st (S' := (359, [(11, .int (nI (f0 + k))), (0, .ref m0), (1, .int (nI p)), (2, .int (nI (by2 f pM))), (3, .int (nI f0)), (4, .int (nI ib)), (5, .int (nI k)), (6, .int (nI (by2 f p))), (7, .int (nI a)), (9, .int (nI i9)), (10, .int (nI d))], [.int 0, .int (nI (f0 + k)), .ref (q 43)], M474)) rfl rfl rfl ?_
        refine pr_st (a := 43) (j := f0 + k) rfl hR476 rfl (by omega) (fun M488 R489 i1_359 hR490 hS491 => ?_)
        have hF_492 := hF_478.mono (fun _ _ => rfl) (rRx hS491 (by decide))
        have hY_493 := hY_479.mono (fun _ _ => rfl) (rRx hS491 (by decide))
        have hP_494 := hP_480.mono (fun _ _ => rfl) (rRx hS491 (by decide))
        have hK_495 := hK_481.mono (fun _ _ => rfl) (rRx hS491 (by decide))
        have c34_496 := c34_482.mono (fun _ _ => rfl) (rRx hS491 (by decide))
        have c35_497 := c35_483.mono (fun _ _ => rfl) (rRx hS491 (by decide))
        have c36_498 := c36_484.mono (fun _ _ => rfl) (rRx hS491 (by decide))
        have hN9_499 := hN9_485.mono (fun _ _ => rfl) (rRx hS491 (by decide))
        have hC_500 := hC_486.mono (fun _ _ => rfl) (rRx hS491 (by decide))
        have hER501 := hER487.st hS491 (by decide)
        show pl _ _ _ (360, [(11, .int (nI (f0 + k))), (0, .ref m0), (1, .int (nI p)), (2, .int (nI (by2 f pM))), (3, .int (nI f0)), (4, .int (nI ib)), (5, .int (nI k)), (6, .int (nI (by2 f p))), (7, .int (nI a)), (9, .int (nI i9)), (10, .int (nI d))], [], M488) _
        refine ps_st (S' := (361, [(11, .int (nI (f0 + k))), (0, .ref m0), (1, .int (nI p)), (2, .int (nI (by2 f pM))), (3, .int (nI f0)), (4, .int (nI ib)), (5, .int (nI k)), (6, .int (nI (by2 f p))), (7, .int (nI a)), (9, .int (nI i9)), (10, .int (nI d))], [.ref m0], M488)) rfl rfl rfl ?_
        refine pr_ref (j := 44) (S' := (364, [(11, .int (nI (f0 + k))), (0, .ref m0), (1, .int (nI p)), (2, .int (nI (by2 f pM))), (3, .int (nI f0)), (4, .int (nI ib)), (5, .int (nI k)), (6, .int (nI (by2 f p))), (7, .int (nI a)), (9, .int (nI i9)), (10, .int (nI d))], [.ref (q 44)], M488)) rfl hR490 rfl rfl ?_
        refine ps_st (S' := (366, [(11, .int (nI (f0 + k))), (0, .ref m0), (1, .int (nI p)), (2, .int (nI (by2 f pM))), (3, .int (nI f0)), (4, .int (nI ib)), (5, .int (nI k)), (6, .int (nI (by2 f p))), (7, .int (nI a)), (9, .int (nI i9)), (10, .int (nI d))], [.int (nI (f0 + k)), .ref (q 44)], M488)) rfl rfl rfl ?_
        refine ps_st (S' := (367, [(11, .int (nI (f0 + k))), (0, .ref m0), (1, .int (nI p)), (2, .int (nI (by2 f pM))), (3, .int (nI f0)), (4, .int (nI ib)), (5, .int (nI k)), (6, .int (nI (by2 f p))), (7, .int (nI a)), (9, .int (nI i9)), (10, .int (nI d))], [.int 0, .int (nI (f0 + k)), .ref (q 44)], M488)) rfl rfl rfl ?_
        refine pr_st (a := 44) (j := f0 + k) rfl hR490 rfl (by omega) (fun M502 R503 i1_367 hR504 hS505 => ?_)
        have hF_506 := hF_492.mono (fun _ _ => rfl) (rRx hS505 (by decide))
        have hY_507 := hY_493.mono (fun _ _ => rfl) (rRx hS505 (by decide))
        have hP_508 := hP_494.mono (fun _ _ => rfl) (rRx hS505 (by decide))
        have hK_509 := hK_495.mono (fun _ _ => rfl) (rRx hS505 (by decide))
        have c34_510 := c34_496.mono (fun _ _ => rfl) (rRx hS505 (by decide))
        have c35_511 := c35_497.mono (fun _ _ => rfl) (rRx hS505 (by decide))
        have c36_512 := c36_498.mono (fun _ _ => rfl) (rRx hS505 (by decide))
        have hN9_513 := hN9_499.mono (fun _ _ => rfl) (rRx hS505 (by decide))
        have hC_514 := hC_500.mono (fun _ _ => rfl) (rRx hS505 (by decide))
        have hER515 := hER501.st hS505 (by decide)
        show pl _ _ _ (368, [(11, .int (nI (f0 + k))), (0, .ref m0), (1, .int (nI p)), (2, .int (nI (by2 f pM))), (3, .int (nI f0)), (4, .int (nI ib)), (5, .int (nI k)), (6, .int (nI (by2 f p))), (7, .int (nI a)), (9, .int (nI i9)), (10, .int (nI d))], [], M502) _
        refine ps_st (S' := (369, [(11, .int (nI (f0 + k))), (0, .ref m0), (1, .int (nI p)), (2, .int (nI (by2 f pM))), (3, .int (nI f0)), (4, .int (nI ib)), (5, .int (nI k)), (6, .int (nI (by2 f p))), (7, .int (nI a)), (9, .int (nI i9)), (10, .int (nI d))], [.ref m0], M502)) rfl rfl rfl ?_
        refine pr_ref (j := 45) (S' := (372, [(11, .int (nI (f0 + k))), (0, .ref m0), (1, .int (nI p)), (2, .int (nI (by2 f pM))), (3, .int (nI f0)), (4, .int (nI ib)), (5, .int (nI k)), (6, .int (nI (by2 f p))), (7, .int (nI a)), (9, .int (nI i9)), (10, .int (nI d))], [.ref (q 45)], M502)) rfl hR504 rfl rfl ?_
        refine ps_st (S' := (374, [(11, .int (nI (f0 + k))), (0, .ref m0), (1, .int (nI p)), (2, .int (nI (by2 f pM))), (3, .int (nI f0)), (4, .int (nI ib)), (5, .int (nI k)), (6, .int (nI (by2 f p))), (7, .int (nI a)), (9, .int (nI i9)), (10, .int (nI d))], [.int (nI (f0 + k)), .ref (q 45)], M502)) rfl rfl rfl ?_
        refine ps_st (S' := (375, [(11, .int (nI (f0 + k))), (0, .ref m0), (1, .int (nI p)), (2, .int (nI (by2 f pM))), (3, .int (nI f0)), (4, .int (nI ib)), (5, .int (nI k)), (6, .int (nI (by2 f p))), (7, .int (nI a)), (9, .int (nI i9)), (10, .int (nI d))], [.ref m0, .int (nI (f0 + k)), .ref (q 45)], M502)) rfl rfl rfl ?_
        refine ps_st (S' := (376, [(11, .int (nI (f0 + k))), (0, .ref m0), (1, .int (nI p)), (2, .int (nI (by2 f pM))), (3, .int (nI f0)), (4, .int (nI ib)), (5, .int (nI k)), (6, .int (nI (by2 f p))), (7, .int (nI a)), (9, .int (nI i9)), (10, .int (nI d))], [.int (nI p), .ref m0, .int (nI (f0 + k)), .ref (q 45)], M502)) rfl rfl rfl ?_
        refine ps_st (S' := (377, [(11, .int (nI (f0 + k))), (0, .ref m0), (1, .int (nI p)), (2, .int (nI (by2 f pM))), (3, .int (nI f0)), (4, .int (nI ib)), (5, .int (nI k)), (6, .int (nI (by2 f p))), (7, .int (nI a)), (9, .int (nI i9)), (10, .int (nI d))], [.int 2, .int (nI p), .ref m0, .int (nI (f0 + k)), .ref (q 45)], M502)) rfl rfl rfl ?_
        refine ps_st (S' := (378, [(11, .int (nI (f0 + k))), (0, .ref m0), (1, .int (nI p)), (2, .int (nI (by2 f pM))), (3, .int (nI f0)), (4, .int (nI ib)), (5, .int (nI k)), (6, .int (nI (by2 f p))), (7, .int (nI a)), (9, .int (nI i9)), (10, .int (nI d))], [.int ((nI p) + 2), .ref m0, .int (nI (f0 + k)), .ref (q 45)], M502)) rfl rfl rfl ?_
        rw [nI_add1 (p := p) (k := 2) (x := 2) rfl (by omega)]
        show pl _ _ _ (_, [(11, .int (nI (f0 + k))), (0, .ref m0), (1, .int (nI p)), (2, .int (nI (by2 f pM))), (3, .int (nI f0)), (4, .int (nI ib)), (5, .int (nI k)), (6, .int (nI (by2 f p))), (7, .int (nI a)), (9, .int (nI i9)), (10, .int (nI d))], [.int (nI (p + 2)), .ref m0, .int (nI (f0 + k)), .ref (q 45)], M502) _
        refine pl_call (a := [.ref m0, .int (nI (p + 2))]) (rest := [.int (nI (f0 + k)), .ref (q 45)]) rfl rfl rfl (rd_u2 (n := n) (f := f) (p := (p + 2)) hR504 hF_506 (by omega)) (fun v516 M517 q518 => ?_)
        obtain ⟨rfl, rfl⟩ := q518
        show pl _ _ _ (381, [(11, .int (nI (f0 + k))), (0, .ref m0), (1, .int (nI p)), (2, .int (nI (by2 f pM))), (3, .int (nI f0)), (4, .int (nI ib)), (5, .int (nI k)), (6, .int (nI (by2 f p))), (7, .int (nI a)), (9, .int (nI i9)), (10, .int (nI d))], [.int (nI (by2 f (p + 2))), .int (nI (f0 + k)), .ref (q 45)], M502) _
        have hu_378 := by2_lt f (p + 2)
        refine pr_st (a := 45) (j := f0 + k) rfl hR504 rfl (by omega) (fun M519 R520 i1_381 hR521 hS522 => ?_)
        have hF_523 := hF_506.mono (fun _ _ => rfl) (rRx hS522 (by decide))
        have hY_524 := hY_507.mono (fun _ _ => rfl) (rRx hS522 (by decide))
        have hP_525 := hP_508.mono (fun _ _ => rfl) (rRx hS522 (by decide))
        have hK_526 := hK_509.mono (fun _ _ => rfl) (rRx hS522 (by decide))
        have c34_527 := c34_510.mono (fun _ _ => rfl) (rRx hS522 (by decide))
        have c35_528 := c35_511.mono (fun _ _ => rfl) (rRx hS522 (by decide))
        have c36_529 := c36_512.mono (fun _ _ => rfl) (rRx hS522 (by decide))
        have hN9_530 := hN9_513.mono (fun _ _ => rfl) (rRx hS522 (by decide))
        have hC_531 := hC_514.mono (fun _ _ => rfl) (rRx hS522 (by decide))
        have hER532 := hER515.st hS522 (by decide)
        show pl _ _ _ (382, [(11, .int (nI (f0 + k))), (0, .ref m0), (1, .int (nI p)), (2, .int (nI (by2 f pM))), (3, .int (nI f0)), (4, .int (nI ib)), (5, .int (nI k)), (6, .int (nI (by2 f p))), (7, .int (nI a)), (9, .int (nI i9)), (10, .int (nI d))], [], M519) _
        refine ps_st (S' := (383, [(11, .int (nI (f0 + k))), (0, .ref m0), (1, .int (nI p)), (2, .int (nI (by2 f pM))), (3, .int (nI f0)), (4, .int (nI ib)), (5, .int (nI k)), (6, .int (nI (by2 f p))), (7, .int (nI a)), (9, .int (nI i9)), (10, .int (nI d))], [.ref m0], M519)) rfl rfl rfl ?_
        refine pr_ref (j := 46) (S' := (386, [(11, .int (nI (f0 + k))), (0, .ref m0), (1, .int (nI p)), (2, .int (nI (by2 f pM))), (3, .int (nI f0)), (4, .int (nI ib)), (5, .int (nI k)), (6, .int (nI (by2 f p))), (7, .int (nI a)), (9, .int (nI i9)), (10, .int (nI d))], [.ref (q 46)], M519)) rfl hR521 rfl rfl ?_
        refine ps_st (S' := (388, [(11, .int (nI (f0 + k))), (0, .ref m0), (1, .int (nI p)), (2, .int (nI (by2 f pM))), (3, .int (nI f0)), (4, .int (nI ib)), (5, .int (nI k)), (6, .int (nI (by2 f p))), (7, .int (nI a)), (9, .int (nI i9)), (10, .int (nI d))], [.int (nI (f0 + k)), .ref (q 46)], M519)) rfl rfl rfl ?_
        refine ps_st (S' := (389, [(11, .int (nI (f0 + k))), (0, .ref m0), (1, .int (nI p)), (2, .int (nI (by2 f pM))), (3, .int (nI f0)), (4, .int (nI ib)), (5, .int (nI k)), (6, .int (nI (by2 f p))), (7, .int (nI a)), (9, .int (nI i9)), (10, .int (nI d))], [.ref m0, .int (nI (f0 + k)), .ref (q 46)], M519)) rfl rfl rfl ?_
        refine ps_st (S' := (390, [(11, .int (nI (f0 + k))), (0, .ref m0), (1, .int (nI p)), (2, .int (nI (by2 f pM))), (3, .int (nI f0)), (4, .int (nI ib)), (5, .int (nI k)), (6, .int (nI (by2 f p))), (7, .int (nI a)), (9, .int (nI i9)), (10, .int (nI d))], [.int (nI p), .ref m0, .int (nI (f0 + k)), .ref (q 46)], M519)) rfl rfl rfl ?_
        refine ps_st (S' := (391, [(11, .int (nI (f0 + k))), (0, .ref m0), (1, .int (nI p)), (2, .int (nI (by2 f pM))), (3, .int (nI f0)), (4, .int (nI ib)), (5, .int (nI k)), (6, .int (nI (by2 f p))), (7, .int (nI a)), (9, .int (nI i9)), (10, .int (nI d))], [.int 4, .int (nI p), .ref m0, .int (nI (f0 + k)), .ref (q 46)], M519)) rfl rfl rfl ?_
        refine ps_st (S' := (392, [(11, .int (nI (f0 + k))), (0, .ref m0), (1, .int (nI p)), (2, .int (nI (by2 f pM))), (3, .int (nI f0)), (4, .int (nI ib)), (5, .int (nI k)), (6, .int (nI (by2 f p))), (7, .int (nI a)), (9, .int (nI i9)), (10, .int (nI d))], [.int ((nI p) + 4), .ref m0, .int (nI (f0 + k)), .ref (q 46)], M519)) rfl rfl rfl ?_
        rw [nI_add1 (p := p) (k := 4) (x := 4) rfl (by omega)]
        show pl _ _ _ (_, [(11, .int (nI (f0 + k))), (0, .ref m0), (1, .int (nI p)), (2, .int (nI (by2 f pM))), (3, .int (nI f0)), (4, .int (nI ib)), (5, .int (nI k)), (6, .int (nI (by2 f p))), (7, .int (nI a)), (9, .int (nI i9)), (10, .int (nI d))], [.int (nI (p + 4)), .ref m0, .int (nI (f0 + k)), .ref (q 46)], M519) _
        refine pl_call (a := [.ref m0, .int (nI (p + 4))]) (rest := [.int (nI (f0 + k)), .ref (q 46)]) rfl rfl rfl (rd_u2 (n := n) (f := f) (p := (p + 4)) hR521 hF_523 (by omega)) (fun v533 M534 q535 => ?_)
        obtain ⟨rfl, rfl⟩ := q535
        show pl _ _ _ (395, [(11, .int (nI (f0 + k))), (0, .ref m0), (1, .int (nI p)), (2, .int (nI (by2 f pM))), (3, .int (nI f0)), (4, .int (nI ib)), (5, .int (nI k)), (6, .int (nI (by2 f p))), (7, .int (nI a)), (9, .int (nI i9)), (10, .int (nI d))], [.int (nI (by2 f (p + 4))), .int (nI (f0 + k)), .ref (q 46)], M519) _
        have hu_392 := by2_lt f (p + 4)
        refine pr_st (a := 46) (j := f0 + k) rfl hR521 rfl (by omega) (fun M536 R537 i1_395 hR538 hS539 => ?_)
        have hF_540 := hF_523.mono (fun _ _ => rfl) (rRx hS539 (by decide))
        have hY_541 := hY_524.mono (fun _ _ => rfl) (rRx hS539 (by decide))
        have hP_542 := hP_525.mono (fun _ _ => rfl) (rRx hS539 (by decide))
        have hK_543 := hK_526.mono (fun _ _ => rfl) (rRx hS539 (by decide))
        have c34_544 := c34_527.mono (fun _ _ => rfl) (rRx hS539 (by decide))
        have c35_545 := c35_528.mono (fun _ _ => rfl) (rRx hS539 (by decide))
        have c36_546 := c36_529.mono (fun _ _ => rfl) (rRx hS539 (by decide))
        have hN9_547 := hN9_530.mono (fun _ _ => rfl) (rRx hS539 (by decide))
        have hC_548 := hC_531.mono (fun _ _ => rfl) (rRx hS539 (by decide))
        have hER549 := hER532.st hS539 (by decide)
        show pl _ _ _ (396, [(11, .int (nI (f0 + k))), (0, .ref m0), (1, .int (nI p)), (2, .int (nI (by2 f pM))), (3, .int (nI f0)), (4, .int (nI ib)), (5, .int (nI k)), (6, .int (nI (by2 f p))), (7, .int (nI a)), (9, .int (nI i9)), (10, .int (nI d))], [], M536) _
        refine ps_st (S' := (397, [(11, .int (nI (f0 + k))), (0, .ref m0), (1, .int (nI p)), (2, .int (nI (by2 f pM))), (3, .int (nI f0)), (4, .int (nI ib)), (5, .int (nI k)), (6, .int (nI (by2 f p))), (7, .int (nI a)), (9, .int (nI i9)), (10, .int (nI d))], [.int (nI f0)], M536)) rfl rfl rfl ?_
        refine ps_st (S' := (399, [(0, .ref m0), (1, .int (nI p)), (2, .int (nI (by2 f pM))), (3, .int (nI f0)), (4, .int (nI ib)), (5, .int (nI k)), (6, .int (nI (by2 f p))), (7, .int (nI a)), (9, .int (nI i9)), (10, .int (nI d)), (11, .int (nI (f0 + k))), (12, .int (nI f0))], [], M536)) rfl rfl rfl ?_
        exact ih.2.2.2 (k) (p) (ib) (a) (i9) (d) (0) M536 I1 R537 hR538 hEI1 hER549 hl51 hl52 hl53 hl58 hl56 hl26 hl9 hl10 hF_540 hY_541 hP_542 hK_543 hN9_547 c34_544 c35_545 c36_546 hC_548 (hk0) (hpk) (hpe) (hs) (hib) (hsa) (ht1) (hnm) (hfl) (h9c) (hsd) (ht2) (hmt) (hds) (by omega) (by omega) (rfl)
      · skip
        intro k p ib a i9 d j M1 I1 R1 hR1 hEI1 hER1 hl51 hl52 hl53 hl58 hl56 hl26 hl9 hl10 hF1 hY1 hP1 hK1 hN91 c341 c351 c361 hC1 hk0 hpk hpe hs hib hsa ht1 hnm hfl h9c hsd ht2 hmt hds hj hx hd9
        have hn := hF1.1
        have hu9 := by2_lt f pM
        have htl := hY1.1.2.2.1
        have hBl := hMB.1
        have hi7 := hsi.1
        have hc7 := hsc.1
        have hu8 := by2_lt f p
        have hsa1 := hsa.1
        have hsd1 := hsd.1
        refine ps_st1 (S' := (401, [(0, .ref m0), (1, .int (nI p)), (2, .int (nI (by2 f pM))), (3, .int (nI f0)), (4, .int (nI ib)), (5, .int (nI k)), (6, .int (nI (by2 f p))), (7, .int (nI a)), (9, .int (nI i9)), (10, .int (nI d)), (11, .int (nI (f0 + k))), (12, .int (nI (f0 + j)))], [.int (nI (f0 + j))], M1)) rfl rfl rfl ?_
        refine ps_st (S' := (403, [(0, .ref m0), (1, .int (nI p)), (2, .int (nI (by2 f pM))), (3, .int (nI f0)), (4, .int (nI ib)), (5, .int (nI k)), (6, .int (nI (by2 f p))), (7, .int (nI a)), (9, .int (nI i9)), (10, .int (nI d)), (11, .int (nI (f0 + k))), (12, .int (nI (f0 + j)))], [.int (nI (f0 + k)), .int (nI (f0 + j))], M1)) rfl rfl rfl ?_
        refine ps_if2 (S1 := (444, [(0, .ref m0), (1, .int (nI p)), (2, .int (nI (by2 f pM))), (3, .int (nI f0)), (4, .int (nI ib)), (5, .int (nI k)), (6, .int (nI (by2 f p))), (7, .int (nI a)), (9, .int (nI i9)), (10, .int (nI d)), (11, .int (nI (f0 + k))), (12, .int (nI (f0 + j)))], [], M1)) (S2 := (406, [(0, .ref m0), (1, .int (nI p)), (2, .int (nI (by2 f pM))), (3, .int (nI f0)), (4, .int (nI ib)), (5, .int (nI k)), (6, .int (nI (by2 f p))), (7, .int (nI a)), (9, .int (nI i9)), (10, .int (nI d)), (11, .int (nI (f0 + k))), (12, .int (nI (f0 + j)))], [], M1)) rfl rfl rfl (fun c_403 => ?_) (fun c_403 => ?_)
        · have c_403 : (nI (f0 + k)) ≤ (nI (f0 + j)) := of_decide_eq_true c_403
          have n_403 : f0 + k ≤ f0 + j := (le_nI (p := f0 + k) (n := f0 + j) (by omega) (by omega)).mp c_403
          refine ps_st (S' := (445, [(0, .ref m0), (1, .int (nI p)), (2, .int (nI (by2 f pM))), (3, .int (nI f0)), (4, .int (nI ib)), (5, .int (nI k)), (6, .int (nI (by2 f p))), (7, .int (nI a)), (9, .int (nI i9)), (10, .int (nI d)), (11, .int (nI (f0 + k))), (12, .int (nI (f0 + j)))], [.ref m0], M1)) rfl rfl rfl ?_
          refine ps_st (S' := (446, [(0, .ref m0), (1, .int (nI p)), (2, .int (nI (by2 f pM))), (3, .int (nI f0)), (4, .int (nI ib)), (5, .int (nI k)), (6, .int (nI (by2 f p))), (7, .int (nI a)), (9, .int (nI i9)), (10, .int (nI d)), (11, .int (nI (f0 + k))), (12, .int (nI (f0 + j)))], [.ref m0, .ref m0], M1)) rfl rfl rfl ?_
          refine pr_int (j := 26) (S' := (449, [(0, .ref m0), (1, .int (nI p)), (2, .int (nI (by2 f pM))), (3, .int (nI f0)), (4, .int (nI ib)), (5, .int (nI k)), (6, .int (nI (by2 f p))), (7, .int (nI a)), (9, .int (nI i9)), (10, .int (nI d)), (11, .int (nI (f0 + k))), (12, .int (nI (f0 + j)))], [.int (nI (f0 + k)), .ref m0], M1)) rfl hR1 rfl hl26 rfl ?_
          refine ps_st (S' := (450, [(0, .ref m0), (1, .int (nI p)), (2, .int (nI (by2 f pM))), (3, .int (nI f0)), (4, .int (nI ib)), (5, .int (nI k)), (6, .int (nI (by2 f p))), (7, .int (nI a)), (9, .int (nI i9)), (10, .int (nI d)), (11, .int (nI (f0 + k))), (12, .int (nI (f0 + j)))], [.int 1, .int (nI (f0 + k)), .ref m0], M1)) rfl rfl rfl ?_
          refine ps_st (S' := (451, [(0, .ref m0), (1, .int (nI p)), (2, .int (nI (by2 f pM))), (3, .int (nI f0)), (4, .int (nI ib)), (5, .int (nI k)), (6, .int (nI (by2 f p))), (7, .int (nI a)), (9, .int (nI i9)), (10, .int (nI d)), (11, .int (nI (f0 + k))), (12, .int (nI (f0 + j)))], [.int ((nI (f0 + k)) + 1), .ref m0], M1)) rfl rfl rfl ?_
          rw [nI_add1 (p := f0 + k) (k := 1) (x := 1) rfl (by omega)]
          show pl _ _ _ (_, [(0, .ref m0), (1, .int (nI p)), (2, .int (nI (by2 f pM))), (3, .int (nI f0)), (4, .int (nI ib)), (5, .int (nI k)), (6, .int (nI (by2 f p))), (7, .int (nI a)), (9, .int (nI i9)), (10, .int (nI d)), (11, .int (nI (f0 + k))), (12, .int (nI (f0 + j)))], [.int (nI (f0 + k + 1)), .ref m0], M1) _
          refine pr_put (j := 26) rfl hR1 rfl (fun M550 I551 hR552 hi553 hI554 => ?_)
          have hi555 := (hI554 51 (by decide)).trans hl51
          have hi556 := (hI554 52 (by decide)).trans hl52
          have hi557 := (hI554 53 (by decide)).trans hl53
          have hi558 := (hI554 58 (by decide)).trans hl58
          have hi559 := (hI554 56 (by decide)).trans hl56
          have hi560 := (hI554 9 (by decide)).trans hl9
          have hi561 := (hI554 10 (by decide)).trans hl10
          have hF_562 := hF1.mono (pIx hI554 (by decide)) (fun _ _ => rfl)
          have hY_563 := hY1.mono (pIx hI554 (by decide)) (fun _ _ => rfl)
          have hP_564 := hP1.mono (pIx hI554 (by decide)) (fun _ _ => rfl)
          have hK_565 := hK1.mono (pIx hI554 (by decide)) (fun _ _ => rfl)
          have hN9_566 := hN91.mono (pIx hI554 (by decide)) (fun _ _ => rfl)
          have c34_567 := c341.mono (pIx hI554 (by decide)) (fun _ _ => rfl)
          have c35_568 := c351.mono (pIx hI554 (by decide)) (fun _ _ => rfl)
          have c36_569 := c361.mono (pIx hI554 (by decide)) (fun _ _ => rfl)
          have hC_570 := hC1.mono (pIx hI554 (by decide)) (fun _ _ => rfl)
          have hEI571 := hEI1.put hI554 (by decide)
          show pl _ _ _ (454, [(0, .ref m0), (1, .int (nI p)), (2, .int (nI (by2 f pM))), (3, .int (nI f0)), (4, .int (nI ib)), (5, .int (nI k)), (6, .int (nI (by2 f p))), (7, .int (nI a)), (9, .int (nI i9)), (10, .int (nI d)), (11, .int (nI (f0 + k))), (12, .int (nI (f0 + j)))], [], M550) _
          refine ps_st (S' := (455, [(0, .ref m0), (1, .int (nI p)), (2, .int (nI (by2 f pM))), (3, .int (nI f0)), (4, .int (nI ib)), (5, .int (nI k)), (6, .int (nI (by2 f p))), (7, .int (nI a)), (9, .int (nI i9)), (10, .int (nI d)), (11, .int (nI (f0 + k))), (12, .int (nI (f0 + j)))], [.ref m0], M550)) rfl rfl rfl ?_
          refine ps_st (S' := (456, [(0, .ref m0), (1, .int (nI p)), (2, .int (nI (by2 f pM))), (3, .int (nI f0)), (4, .int (nI ib)), (5, .int (nI k)), (6, .int (nI (by2 f p))), (7, .int (nI a)), (9, .int (nI i9)), (10, .int (nI d)), (11, .int (nI (f0 + k))), (12, .int (nI (f0 + j)))], [.int (nI p), .ref m0], M550)) rfl rfl rfl ?_
          refine ps_st (S' := (458, [(0, .ref m0), (1, .int (nI p)), (2, .int (nI (by2 f pM))), (3, .int (nI f0)), (4, .int (nI ib)), (5, .int (nI k)), (6, .int (nI (by2 f p))), (7, .int (nI a)), (9, .int (nI i9)), (10, .int (nI d)), (11, .int (nI (f0 + k))), (12, .int (nI (f0 + j)))], [.int 6, .int (nI p), .ref m0], M550)) rfl rfl rfl ?_
          refine ps_st (S' := (459, [(0, .ref m0), (1, .int (nI p)), (2, .int (nI (by2 f pM))), (3, .int (nI f0)), (4, .int (nI ib)), (5, .int (nI k)), (6, .int (nI (by2 f p))), (7, .int (nI a)), (9, .int (nI i9)), (10, .int (nI d)), (11, .int (nI (f0 + k))), (12, .int (nI (f0 + j)))], [.int ((nI p) + 6), .ref m0], M550)) rfl rfl rfl ?_
          rw [nI_add1 (p := p) (k := 6) (x := 6) rfl (by omega)]
          show pl _ _ _ (_, [(0, .ref m0), (1, .int (nI p)), (2, .int (nI (by2 f pM))), (3, .int (nI f0)), (4, .int (nI ib)), (5, .int (nI k)), (6, .int (nI (by2 f p))), (7, .int (nI a)), (9, .int (nI i9)), (10, .int (nI d)), (11, .int (nI (f0 + k))), (12, .int (nI (f0 + j)))], [.int (nI (p + 6)), .ref m0], M550) _
          refine ps_st (S' := (460, [(0, .ref m0), (1, .int (nI p)), (2, .int (nI (by2 f pM))), (3, .int (nI f0)), (4, .int (nI ib)), (5, .int (nI k)), (6, .int (nI (by2 f p))), (7, .int (nI a)), (9, .int (nI i9)), (10, .int (nI d)), (11, .int (nI (f0 + k))), (12, .int (nI (f0 + j)))], [.int 2, .int (nI (p + 6)), .ref m0], M550)) rfl rfl rfl ?_
          refine ps_st (S' := (462, [(0, .ref m0), (1, .int (nI p)), (2, .int (nI (by2 f pM))), (3, .int (nI f0)), (4, .int (nI ib)), (5, .int (nI k)), (6, .int (nI (by2 f p))), (7, .int (nI a)), (9, .int (nI i9)), (10, .int (nI d)), (11, .int (nI (f0 + k))), (12, .int (nI (f0 + j)))], [.int (nI (f0 + k)), .int 2, .int (nI (p + 6)), .ref m0], M550)) rfl rfl rfl ?_
          have hm9 := hMB.2.2.2 k (by omega)
          rw [← hpk] at hm9
          have hX9 : MX (by2 f p) d (f0 + k) I551 R1 := ⟨c34_567, c36_569⟩
          have hwa : apN f n E p = argN (tX f n E (by2 f (p + 4))) + (if aN (by2 f p) 8 = 0 then 1 else 0) := by
            have a0_ := ap_9 (f := f) (n := n) (E := E) (p := p)
            split <;> omega
          refine pl_call (a := [.ref m0, .int (nI (p + 6)), .int 2, .int (nI (f0 + k))]) (rest := []) rfl rfl rfl (rd_checkAttributes2 (n := n) (f := f) (tx := tx) (cN := cN) (A := A) (N := N) (mj := mj) (E := E) (p1 := (p + 6)) (e := (E1 k)) (x := (f0 + k)) (fl := (by2 f p)) (ds := d) (wa := (apN f n E p)) (l := (tX f n E (by2 f (p + 4)))) hR552 hi555 hi556 hi557 hF_562 hY_563 hP_564 hK_565 hX9 hC_570 (hEP) (hN) (hmj) (⟨by omega, by omega⟩) (hm9.2.2.1) (hx) (hsd) (hmt) (hu8) (hwa)) (fun v572 M573 q574 => ?_)
          rcases q574 with q574 | q574
          · skip
            obtain ⟨e9575, I576, R577, q462_s, rfl, hR578, hI579, hX580, hi581, hi582⟩ := q574
            have hi583 := (hI579 51 (by decide)).trans hi555
            have hi584 := (hI579 52 (by decide)).trans hi556
            have hi585 := (hI579 53 (by decide)).trans hi557
            have hi586 := (hI579 58 (by decide)).trans hi558
            have hi587 := (hI579 56 (by decide)).trans hi559
            have hi588 := (hI579 9 (by decide)).trans hi560
            have hi589 := (hI579 10 (by decide)).trans hi561
            have hi590 := (hI579 26 (by decide)).trans hi553
            have hF_591 := hF_562.mono (cIx hI579 (by decide)) (cRx hX580 (by decide))
            have hY_592 := hY_563.mono (cIx hI579 (by decide)) (cRx hX580 (by decide))
            have hP_593 := hP_564.mono (cIx hI579 (by decide)) (cRx hX580 (by decide))
            have hK_594 := hK_565.mono (cIx hI579 (by decide)) (cRx hX580 (by decide))
            have hN9_595 := hN9_566.mono (cIx hI579 (by decide)) (cRx hX580 (by decide))
            have c34_596 := c34_567.mono (cIx hI579 (by decide)) (cRx hX580 (by decide))
            have c35_597 := c35_568.mono (cIx hI579 (by decide)) (cRx hX580 (by decide))
            have c36_598 := c36_569.mono (cIx hI579 (by decide)) (cRx hX580 (by decide))
            have hX_599 := hX9.mono (cIx hI579 (by decide)) (cRx hX580 (by decide))
            have hEI600 := hEI571.tr hI579 (by decide)
            have hER601 := hER1.tr hX580 (by decide)
            show pl _ _ _ (465, [(0, .ref m0), (1, .int (nI p)), (2, .int (nI (by2 f pM))), (3, .int (nI f0)), (4, .int (nI ib)), (5, .int (nI k)), (6, .int (nI (by2 f p))), (7, .int (nI a)), (9, .int (nI i9)), (10, .int (nI d)), (11, .int (nI (f0 + k))), (12, .int (nI (f0 + j)))], [.int (-1)], M573) _
            refine ps_st (S' := (467, [(12, .int (-1)), (0, .ref m0), (1, .int (nI p)), (2, .int (nI (by2 f pM))), (3, .int (nI f0)), (4, .int (nI ib)), (5, .int (nI k)), (6, .int (nI (by2 f p))), (7, .int (nI a)), (9, .int (nI i9)), (10, .int (nI d)), (11, .int (nI (f0 + k)))], [], M573)) rfl rfl rfl ?_
            refine ps_st (S' := (469, [(12, .int (-1)), (0, .ref m0), (1, .int (nI p)), (2, .int (nI (by2 f pM))), (3, .int (nI f0)), (4, .int (nI ib)), (5, .int (nI k)), (6, .int (nI (by2 f p))), (7, .int (nI a)), (9, .int (nI i9)), (10, .int (nI d)), (11, .int (nI (f0 + k)))], [.int (-1)], M573)) rfl rfl rfl ?_
            refine ps_if (S1 := (474, [(12, .int (-1)), (0, .ref m0), (1, .int (nI p)), (2, .int (nI (by2 f pM))), (3, .int (nI f0)), (4, .int (nI ib)), (5, .int (nI k)), (6, .int (nI (by2 f p))), (7, .int (nI a)), (9, .int (nI i9)), (10, .int (nI d)), (11, .int (nI (f0 + k)))], [], M573)) (S2 := (472, [(12, .int (-1)), (0, .ref m0), (1, .int (nI p)), (2, .int (nI (by2 f pM))), (3, .int (nI f0)), (4, .int (nI ib)), (5, .int (nI k)), (6, .int (nI (by2 f p))), (7, .int (nI a)), (9, .int (nI i9)), (10, .int (nI d)), (11, .int (nI (f0 + k)))], [], M573)) rfl rfl rfl (fun c_469 => ?_) (fun c_469 => ?_)
            · exact absurd (of_decide_eq_true c_469) (by decide)
            refine ps_st (S' := (473, [(12, .int (-1)), (0, .ref m0), (1, .int (nI p)), (2, .int (nI (by2 f pM))), (3, .int (nI f0)), (4, .int (nI ib)), (5, .int (nI k)), (6, .int (nI (by2 f p))), (7, .int (nI a)), (9, .int (nI i9)), (10, .int (nI d)), (11, .int (nI (f0 + k)))], [.int 0], M573)) rfl rfl rfl ?_
            exact ps_ret rfl rfl (Or.inr ⟨e9575, I576, R577, by
                rw [← hs, mtS_st (i := k) (by omega), ← hpk, mh_n hnm hfl hds (by rw [← hd9, show k - j = 0 by omega]; rfl), q462_s], rfl, hR578, hEI600, hER601, hi581, hi582⟩)
          · skip
            obtain ⟨h9602, I603, R604, q462_s, rfl, hR605, hI606, hX607, hC_608⟩ := q574
            have hi609 := (hI606 51 (by decide)).trans hi555
            have hi610 := (hI606 52 (by decide)).trans hi556
            have hi611 := (hI606 53 (by decide)).trans hi557
            have hi612 := (hI606 58 (by decide)).trans hi558
            have hi613 := (hI606 56 (by decide)).trans hi559
            have hi614 := (hI606 9 (by decide)).trans hi560
            have hi615 := (hI606 10 (by decide)).trans hi561
            have hi616 := (hI606 26 (by decide)).trans hi553
            have hF_617 := hF_562.mono (cIx hI606 (by decide)) (cRx hX607 (by decide))
            have hY_618 := hY_563.mono (cIx hI606 (by decide)) (cRx hX607 (by decide))
            have hP_619 := hP_564.mono (cIx hI606 (by decide)) (cRx hX607 (by decide))
            have hK_620 := hK_565.mono (cIx hI606 (by decide)) (cRx hX607 (by decide))
            have hN9_621 := hN9_566.mono (cIx hI606 (by decide)) (cRx hX607 (by decide))
            have c34_622 := c34_567.mono (cIx hI606 (by decide)) (cRx hX607 (by decide))
            have c35_623 := c35_568.mono (cIx hI606 (by decide)) (cRx hX607 (by decide))
            have c36_624 := c36_569.mono (cIx hI606 (by decide)) (cRx hX607 (by decide))
            have hX_625 := hX9.mono (cIx hI606 (by decide)) (cRx hX607 (by decide))
            have hEI626 := hEI571.tr hI606 (by decide)
            have hER627 := hER1.tr hX607 (by decide)
            show pl _ _ _ (465, [(0, .ref m0), (1, .int (nI p)), (2, .int (nI (by2 f pM))), (3, .int (nI f0)), (4, .int (nI ib)), (5, .int (nI k)), (6, .int (nI (by2 f p))), (7, .int (nI a)), (9, .int (nI i9)), (10, .int (nI d)), (11, .int (nI (f0 + k))), (12, .int (nI (f0 + j)))], [.int (nI (E1 k))], M573) _
            have hh1 := maS_h (by decide) q462_s
            obtain ⟨y9, hy9, hyc⟩ := CX.val hC_608
            refine ps_st (S' := (467, [(12, .int (nI (E1 k))), (0, .ref m0), (1, .int (nI p)), (2, .int (nI (by2 f pM))), (3, .int (nI f0)), (4, .int (nI ib)), (5, .int (nI k)), (6, .int (nI (by2 f p))), (7, .int (nI a)), (9, .int (nI i9)), (10, .int (nI d)), (11, .int (nI (f0 + k)))], [], M573)) rfl rfl rfl ?_
            refine ps_st (S' := (469, [(12, .int (nI (E1 k))), (0, .ref m0), (1, .int (nI p)), (2, .int (nI (by2 f pM))), (3, .int (nI f0)), (4, .int (nI ib)), (5, .int (nI k)), (6, .int (nI (by2 f p))), (7, .int (nI a)), (9, .int (nI i9)), (10, .int (nI d)), (11, .int (nI (f0 + k)))], [.int (nI (E1 k))], M573)) rfl rfl rfl ?_
            refine ps_if (S1 := (474, [(12, .int (nI (E1 k))), (0, .ref m0), (1, .int (nI p)), (2, .int (nI (by2 f pM))), (3, .int (nI f0)), (4, .int (nI ib)), (5, .int (nI k)), (6, .int (nI (by2 f p))), (7, .int (nI a)), (9, .int (nI i9)), (10, .int (nI d)), (11, .int (nI (f0 + k)))], [], M573)) (S2 := (472, [(12, .int (nI (E1 k))), (0, .ref m0), (1, .int (nI p)), (2, .int (nI (by2 f pM))), (3, .int (nI f0)), (4, .int (nI ib)), (5, .int (nI k)), (6, .int (nI (by2 f p))), (7, .int (nI a)), (9, .int (nI i9)), (10, .int (nI d)), (11, .int (nI (f0 + k)))], [], M573)) rfl rfl rfl (fun c_469 => ?_) (fun c_469 => ?_)
            rotate_left
            · exact absurd ((le_nI (p := 0) (n := E1 k) (by decide) (by omega)).mpr (by omega)) (of_decide_eq_false c_469)
            refine ps_st (S' := (476, [(12, .int (nI (E1 k))), (0, .ref m0), (1, .int (nI p)), (2, .int (nI (by2 f pM))), (3, .int (nI f0)), (4, .int (nI ib)), (5, .int (nI k)), (6, .int (nI (by2 f p))), (7, .int (nI a)), (9, .int (nI i9)), (10, .int (nI d)), (11, .int (nI (f0 + k)))], [.int (nI (by2 f p))], M573)) rfl rfl rfl ?_
            refine ps_st (S' := (479, [(12, .int (nI (E1 k))), (0, .ref m0), (1, .int (nI p)), (2, .int (nI (by2 f pM))), (3, .int (nI f0)), (4, .int (nI ib)), (5, .int (nI k)), (6, .int (nI (by2 f p))), (7, .int (nI a)), (9, .int (nI i9)), (10, .int (nI d)), (11, .int (nI (f0 + k)))], [.int 1280, .int (nI (by2 f p))], M573)) rfl rfl rfl ?_
            refine ps_st (S' := (480, [(12, .int (nI (E1 k))), (0, .ref m0), (1, .int (nI p)), (2, .int (nI (by2 f pM))), (3, .int (nI f0)), (4, .int (nI ib)), (5, .int (nI k)), (6, .int (nI (by2 f p))), (7, .int (nI a)), (9, .int (nI i9)), (10, .int (nI d)), (11, .int (nI (f0 + k)))], [.int ((nI (by2 f p)) &&& 1280)], M573)) rfl rfl rfl ?_
            rw [nI_an (p := by2 f p) (k := 1280) (x := 1280) rfl]
            show pl _ _ _ (_, [(12, .int (nI (E1 k))), (0, .ref m0), (1, .int (nI p)), (2, .int (nI (by2 f pM))), (3, .int (nI f0)), (4, .int (nI ib)), (5, .int (nI k)), (6, .int (nI (by2 f p))), (7, .int (nI a)), (9, .int (nI i9)), (10, .int (nI d)), (11, .int (nI (f0 + k)))], [.int (nI (aN (by2 f p) 1280))], M573) _
            refine ps_if (S1 := (492, [(0, .ref m0), (1, .int (nI p)), (2, .int (nI (by2 f pM))), (3, .int (nI f0)), (4, .int (nI ib)), (5, .int (nI k)), (11, .int (nI (f0 + k))), (12, .int (nI (E1 k)))], [], M573)) (S2 := (483, [(12, .int (nI (E1 k))), (0, .ref m0), (1, .int (nI p)), (2, .int (nI (by2 f pM))), (3, .int (nI f0)), (4, .int (nI ib)), (5, .int (nI k)), (6, .int (nI (by2 f p))), (7, .int (nI a)), (9, .int (nI i9)), (10, .int (nI d)), (11, .int (nI (f0 + k)))], [], M573)) rfl rfl rfl (fun c_480 => ?_) (fun c_480 => ?_)
            · have c_480 : (nI (aN (by2 f p) 1280)) = 0 := of_decide_eq_true c_480
              have n_480 : aN (by2 f p) 1280 = 0 := (eq_nI (p := aN (by2 f p) 1280) (n := 0) (Nat.lt_of_le_of_lt (an_le _ _) (by decide)) (by decide)).mp c_480
              refine ps_st (S' := (493, [(0, .ref m0), (1, .int (nI p)), (2, .int (nI (by2 f pM))), (3, .int (nI f0)), (4, .int (nI ib)), (5, .int (nI k)), (11, .int (nI (f0 + k))), (12, .int (nI (E1 k)))], [.int 0], M573)) rfl rfl rfl ?_
              refine ps_st (S' := (495, [(13, .int 0), (0, .ref m0), (1, .int (nI p)), (2, .int (nI (by2 f pM))), (3, .int (nI f0)), (4, .int (nI ib)), (5, .int (nI k)), (11, .int (nI (f0 + k))), (12, .int (nI (E1 k)))], [], M573)) rfl rfl rfl ?_
              refine ps_st (S' := (496, [(13, .int 0), (0, .ref m0), (1, .int (nI p)), (2, .int (nI (by2 f pM))), (3, .int (nI f0)), (4, .int (nI ib)), (5, .int (nI k)), (11, .int (nI (f0 + k))), (12, .int (nI (E1 k)))], [.ref m0], M573)) rfl rfl rfl ?_
              refine pr_ref (j := 37) (S' := (499, [(13, .int 0), (0, .ref m0), (1, .int (nI p)), (2, .int (nI (by2 f pM))), (3, .int (nI f0)), (4, .int (nI ib)), (5, .int (nI k)), (11, .int (nI (f0 + k))), (12, .int (nI (E1 k)))], [.ref (q 37)], M573)) rfl hR605 rfl rfl ?_
              refine ps_st (S' := (501, [(13, .int 0), (0, .ref m0), (1, .int (nI p)), (2, .int (nI (by2 f pM))), (3, .int (nI f0)), (4, .int (nI ib)), (5, .int (nI k)), (11, .int (nI (f0 + k))), (12, .int (nI (E1 k)))], [.int (nI (f0 + k)), .ref (q 37)], M573)) rfl rfl rfl ?_
              refine pr_ld (a := 37) (j := f0 + k) (y := y9) (S' := (502, [(13, .int 0), (0, .ref m0), (1, .int (nI p)), (2, .int (nI (by2 f pM))), (3, .int (nI f0)), (4, .int (nI ib)), (5, .int (nI k)), (11, .int (nI (f0 + k))), (12, .int (nI (E1 k)))], [.int y9], M573)) rfl hR605 rfl (by omega) (fun _ => hy9) rfl (fun i1_501 => ?_)
              refine ps_if (S1 := (509, [(13, .int 0), (0, .ref m0), (1, .int (nI p)), (2, .int (nI (by2 f pM))), (3, .int (nI f0)), (4, .int (nI ib)), (5, .int (nI k)), (11, .int (nI (f0 + k))), (12, .int (nI (E1 k)))], [], M573)) (S2 := (505, [(13, .int 0), (0, .ref m0), (1, .int (nI p)), (2, .int (nI (by2 f pM))), (3, .int (nI f0)), (4, .int (nI ib)), (5, .int (nI k)), (11, .int (nI (f0 + k))), (12, .int (nI (E1 k)))], [], M573)) rfl rfl rfl (fun c_502 => ?_) (fun c_502 => ?_)
              · have c_502 : 0 ≤ y9 := of_decide_eq_true c_502
                have hh9 : ¬ h9602 = 0 := by rcases hyc with h8 | h8; exact absurd h8.2 (Int32.not_lt.mpr c_502); exact h8.1
                refine ps_st (S' := (510, [(0, .ref m0), (1, .int (nI p)), (2, .int (nI (by2 f pM))), (3, .int (nI f0)), (4, .int (nI ib)), (5, .int (nI k)), (12, .int (nI (E1 k))), (13, .int 0)], [.int 0], M573)) rfl rfl rfl ?_
                refine ps_st (S' := (512, [(0, .ref m0), (1, .int (nI p)), (2, .int (nI (by2 f pM))), (3, .int (nI f0)), (4, .int (nI ib)), (5, .int (nI k)), (12, .int (nI (E1 k))), (13, .int 0)], [.int 0, .int 0], M573)) rfl rfl rfl ?_
                refine ps_if2 (S1 := (523, [(0, .ref m0), (1, .int (nI p)), (2, .int (nI (by2 f pM))), (3, .int (nI f0)), (4, .int (nI ib)), (5, .int (nI k)), (12, .int (nI (E1 k))), (13, .int 0)], [], M573)) (S2 := (515, [(0, .ref m0), (1, .int (nI p)), (2, .int (nI (by2 f pM))), (3, .int (nI f0)), (4, .int (nI ib)), (5, .int (nI k)), (12, .int (nI (E1 k))), (13, .int 0)], [], M573)) rfl rfl rfl (fun c_512 => ?_) (fun c_512 => ?_)
                rotate_left
                · exact absurd (by decide) (of_decide_eq_false c_512)
                refine ps_st (S' := (525, [(0, .ref m0), (1, .int (nI p)), (2, .int (nI (by2 f pM))), (3, .int (nI f0)), (4, .int (nI ib)), (5, .int (nI k)), (12, .int (nI (E1 k))), (13, .int 0)], [.int (nI (E1 k))], M573)) rfl rfl rfl ?_
                refine ps_st (S' := (526, [(1, .int (nI (E1 k))), (0, .ref m0), (2, .int (nI (by2 f pM))), (3, .int (nI f0)), (4, .int (nI ib)), (5, .int (nI k)), (12, .int (nI (E1 k))), (13, .int 0)], [], M573)) rfl rfl rfl ?_
                refine ps_st (S' := (529, [(5, .int ((nI k) + 1)), (1, .int (nI (E1 k))), (0, .ref m0), (2, .int (nI (by2 f pM))), (3, .int (nI f0)), (4, .int (nI ib)), (12, .int (nI (E1 k))), (13, .int 0)], [], M573)) rfl rfl rfl ?_
                rw [nI_add1 (p := k) (k := 1) (x := 1) rfl (by omega)]
                show pl _ _ _ (_, [(5, .int (nI (k + 1))), (1, .int (nI (E1 k))), (0, .ref m0), (2, .int (nI (by2 f pM))), (3, .int (nI f0)), (4, .int (nI ib)), (12, .int (nI (E1 k))), (13, .int 0)], [], M573) _
                refine ps_st (S' := (40, [(0, .ref m0), (1, .int (nI (E1 k))), (2, .int (nI (by2 f pM))), (3, .int (nI f0)), (4, .int (nI ib)), (5, .int (nI (k + 1)))], [], M573)) rfl rfl rfl ?_
                have hN8 := FN.more hN9_621 hpk c35_623 c36_624 hsa hsd ht1 ht2
                exact ih.1 (k + 1) (E1 k) (ib) M573 I603 R604 hR605 hEI626 hER627 hi609 hi610 hi611 hi612 hi613 hi616 hi614 hi615 hF_617 hY_618 hP_619 hK_620 hN8 (by omega) (fun h9 => (hm9.2.2.2 (by omega)).symm) (hm9.2.1) (by
                    rw [← hs, mtS_st (i := k) (by omega), ← hpk, mh_n hnm hfl hds (by rw [← hd9, show k - j = 0 by omega]; rfl), q462_s]
                    dsimp only
                    rw [cdu_0, if_pos (by omega), if_pos (by omega)]) (hib)
              · have c_502 : ¬ (0 ≤ y9) := of_decide_eq_false c_502
                have hh9 : h9602 = 0 := by rcases hyc with h8 | h8; exact h8.1; exact absurd (Int32.not_le.mp c_502) h8.2
                refine ps_st (S' := (506, [(13, .int 0), (0, .ref m0), (1, .int (nI p)), (2, .int (nI (by2 f pM))), (3, .int (nI f0)), (4, .int (nI ib)), (5, .int (nI k)), (11, .int (nI (f0 + k))), (12, .int (nI (E1 k)))], [.int 1], M573)) rfl rfl rfl ?_
                refine ps_st (S' := (510, [(0, .ref m0), (1, .int (nI p)), (2, .int (nI (by2 f pM))), (3, .int (nI f0)), (4, .int (nI ib)), (5, .int (nI k)), (12, .int (nI (E1 k))), (13, .int 0)], [.int 1], M573)) rfl rfl rfl ?_
                refine ps_st (S' := (512, [(0, .ref m0), (1, .int (nI p)), (2, .int (nI (by2 f pM))), (3, .int (nI f0)), (4, .int (nI ib)), (5, .int (nI k)), (12, .int (nI (E1 k))), (13, .int 0)], [.int 0, .int 1], M573)) rfl rfl rfl ?_
                refine ps_if2 (S1 := (523, [(0, .ref m0), (1, .int (nI p)), (2, .int (nI (by2 f pM))), (3, .int (nI f0)), (4, .int (nI ib)), (5, .int (nI k)), (12, .int (nI (E1 k))), (13, .int 0)], [], M573)) (S2 := (515, [(0, .ref m0), (1, .int (nI p)), (2, .int (nI (by2 f pM))), (3, .int (nI f0)), (4, .int (nI ib)), (5, .int (nI k)), (12, .int (nI (E1 k))), (13, .int 0)], [], M573)) rfl rfl rfl (fun c_512 => ?_) (fun c_512 => ?_)
                · exact absurd (of_decide_eq_true c_512) (by decide)
                refine ps_st (S' := (516, [(0, .ref m0), (1, .int (nI p)), (2, .int (nI (by2 f pM))), (3, .int (nI f0)), (4, .int (nI ib)), (5, .int (nI k)), (12, .int (nI (E1 k))), (13, .int 0)], [.ref m0], M573)) rfl rfl rfl ?_
                refine ps_st (S' := (518, [(0, .ref m0), (1, .int (nI p)), (2, .int (nI (by2 f pM))), (3, .int (nI f0)), (4, .int (nI ib)), (5, .int (nI k)), (12, .int (nI (E1 k))), (13, .int 0)], [.int 27, .ref m0], M573)) rfl rfl rfl ?_
                refine ps_st (S' := (519, [(0, .ref m0), (1, .int (nI p)), (2, .int (nI (by2 f pM))), (3, .int (nI f0)), (4, .int (nI ib)), (5, .int (nI k)), (12, .int (nI (E1 k))), (13, .int 0)], [.int (nI p), .int 27, .ref m0], M573)) rfl rfl rfl ?_
                refine pl_call (a := [.ref m0, .int 27, .int (nI p)]) (rest := []) rfl rfl rfl (rd_wrong (x1 := 27) (x2 := (nI p)) hR605) (fun v628 M629 q630 => ?_)
                obtain ⟨I631, R632, rfl, hR633, hI634, hX635, hi636, hi637⟩ := q630
                have hi638 := (hI634 51 (by decide)).trans hi609
                have hi639 := (hI634 52 (by decide)).trans hi610
                have hi640 := (hI634 53 (by decide)).trans hi611
                have hi641 := (hI634 58 (by decide)).trans hi612
                have hi642 := (hI634 56 (by decide)).trans hi613
                have hi643 := (hI634 9 (by decide)).trans hi614
                have hi644 := (hI634 10 (by decide)).trans hi615
                have hi645 := (hI634 26 (by decide)).trans hi616
                have hF_646 := hF_617.mono (cIx hI634 (by decide)) (cRx hX635 (by decide))
                have hY_647 := hY_618.mono (cIx hI634 (by decide)) (cRx hX635 (by decide))
                have hP_648 := hP_619.mono (cIx hI634 (by decide)) (cRx hX635 (by decide))
                have hK_649 := hK_620.mono (cIx hI634 (by decide)) (cRx hX635 (by decide))
                have hN9_650 := hN9_621.mono (cIx hI634 (by decide)) (cRx hX635 (by decide))
                have c34_651 := c34_622.mono (cIx hI634 (by decide)) (cRx hX635 (by decide))
                have c35_652 := c35_623.mono (cIx hI634 (by decide)) (cRx hX635 (by decide))
                have c36_653 := c36_624.mono (cIx hI634 (by decide)) (cRx hX635 (by decide))
                have hX_654 := hX_625.mono (cIx hI634 (by decide)) (cRx hX635 (by decide))
                have hC_655 := hC_608.mono (cIx hI634 (by decide)) (cRx hX635 (by decide))
                have hEI656 := hEI626.tr hI634 (by decide)
                have hER657 := hER627.tr hX635 (by decide)
                show pl _ _ _ (522, [(0, .ref m0), (1, .int (nI p)), (2, .int (nI (by2 f pM))), (3, .int (nI f0)), (4, .int (nI ib)), (5, .int (nI k)), (12, .int (nI (E1 k))), (13, .int 0)], [.int 0], M629) _
                exact ps_ret rfl rfl (Or.inr ⟨(27, p), I631, R632, by
                    rw [← hs, mtS_st (i := k) (by omega), ← hpk, mh_n hnm hfl hds (by rw [← hd9, show k - j = 0 by omega]; rfl), q462_s]
                    dsimp only
                    rw [cdu_0, if_pos (by omega), if_neg (by omega)], rfl, hR633, hEI656, hER657, hi636, hi637⟩)
            · have c_480 : ¬ ((nI (aN (by2 f p) 1280)) = 0) := of_decide_eq_false c_480
              have n_480 : ¬ (aN (by2 f p) 1280 = 0) := fun h9 => c_480 ((eq_nI (p := aN (by2 f p) 1280) (n := 0) (Nat.lt_of_le_of_lt (an_le _ _) (by decide)) (by decide)).mpr h9)
              refine ps_st (S' := (485, [(12, .int (nI (E1 k))), (0, .ref m0), (1, .int (nI p)), (2, .int (nI (by2 f pM))), (3, .int (nI f0)), (4, .int (nI ib)), (5, .int (nI k)), (6, .int (nI (by2 f p))), (7, .int (nI a)), (9, .int (nI i9)), (10, .int (nI d)), (11, .int (nI (f0 + k)))], [.int (nI i9)], M573)) rfl rfl rfl ?_
              refine ps_if (S1 := (492, [(0, .ref m0), (1, .int (nI p)), (2, .int (nI (by2 f pM))), (3, .int (nI f0)), (4, .int (nI ib)), (5, .int (nI k)), (11, .int (nI (f0 + k))), (12, .int (nI (E1 k)))], [], M573)) (S2 := (488, [(12, .int (nI (E1 k))), (0, .ref m0), (1, .int (nI p)), (2, .int (nI (by2 f pM))), (3, .int (nI f0)), (4, .int (nI ib)), (5, .int (nI k)), (6, .int (nI (by2 f p))), (7, .int (nI a)), (9, .int (nI i9)), (10, .int (nI d)), (11, .int (nI (f0 + k)))], [], M573)) rfl rfl rfl (fun c_485 => ?_) (fun c_485 => ?_)
              · have c_485 : ¬ (nI i9) = 0 := of_decide_eq_true c_485
                have n_485 : ¬ (i9 = 0) := fun h9 => c_485 ((eq_nI (p := i9) (n := 0) (by omega) (by decide)).mpr h9)
                refine ps_st (S' := (493, [(0, .ref m0), (1, .int (nI p)), (2, .int (nI (by2 f pM))), (3, .int (nI f0)), (4, .int (nI ib)), (5, .int (nI k)), (11, .int (nI (f0 + k))), (12, .int (nI (E1 k)))], [.int 0], M573)) rfl rfl rfl ?_
                refine ps_st (S' := (495, [(13, .int 0), (0, .ref m0), (1, .int (nI p)), (2, .int (nI (by2 f pM))), (3, .int (nI f0)), (4, .int (nI ib)), (5, .int (nI k)), (11, .int (nI (f0 + k))), (12, .int (nI (E1 k)))], [], M573)) rfl rfl rfl ?_
                refine ps_st (S' := (496, [(13, .int 0), (0, .ref m0), (1, .int (nI p)), (2, .int (nI (by2 f pM))), (3, .int (nI f0)), (4, .int (nI ib)), (5, .int (nI k)), (11, .int (nI (f0 + k))), (12, .int (nI (E1 k)))], [.ref m0], M573)) rfl rfl rfl ?_
                refine pr_ref (j := 37) (S' := (499, [(13, .int 0), (0, .ref m0), (1, .int (nI p)), (2, .int (nI (by2 f pM))), (3, .int (nI f0)), (4, .int (nI ib)), (5, .int (nI k)), (11, .int (nI (f0 + k))), (12, .int (nI (E1 k)))], [.ref (q 37)], M573)) rfl hR605 rfl rfl ?_
                refine ps_st (S' := (501, [(13, .int 0), (0, .ref m0), (1, .int (nI p)), (2, .int (nI (by2 f pM))), (3, .int (nI f0)), (4, .int (nI ib)), (5, .int (nI k)), (11, .int (nI (f0 + k))), (12, .int (nI (E1 k)))], [.int (nI (f0 + k)), .ref (q 37)], M573)) rfl rfl rfl ?_
                refine pr_ld (a := 37) (j := f0 + k) (y := y9) (S' := (502, [(13, .int 0), (0, .ref m0), (1, .int (nI p)), (2, .int (nI (by2 f pM))), (3, .int (nI f0)), (4, .int (nI ib)), (5, .int (nI k)), (11, .int (nI (f0 + k))), (12, .int (nI (E1 k)))], [.int y9], M573)) rfl hR605 rfl (by omega) (fun _ => hy9) rfl (fun i1_501 => ?_)
                refine ps_if (S1 := (509, [(13, .int 0), (0, .ref m0), (1, .int (nI p)), (2, .int (nI (by2 f pM))), (3, .int (nI f0)), (4, .int (nI ib)), (5, .int (nI k)), (11, .int (nI (f0 + k))), (12, .int (nI (E1 k)))], [], M573)) (S2 := (505, [(13, .int 0), (0, .ref m0), (1, .int (nI p)), (2, .int (nI (by2 f pM))), (3, .int (nI f0)), (4, .int (nI ib)), (5, .int (nI k)), (11, .int (nI (f0 + k))), (12, .int (nI (E1 k)))], [], M573)) rfl rfl rfl (fun c_502 => ?_) (fun c_502 => ?_)
                · have c_502 : 0 ≤ y9 := of_decide_eq_true c_502
                  have hh9 : ¬ h9602 = 0 := by rcases hyc with h8 | h8; exact absurd h8.2 (Int32.not_lt.mpr c_502); exact h8.1
                  refine ps_st (S' := (510, [(0, .ref m0), (1, .int (nI p)), (2, .int (nI (by2 f pM))), (3, .int (nI f0)), (4, .int (nI ib)), (5, .int (nI k)), (12, .int (nI (E1 k))), (13, .int 0)], [.int 0], M573)) rfl rfl rfl ?_
                  refine ps_st (S' := (512, [(0, .ref m0), (1, .int (nI p)), (2, .int (nI (by2 f pM))), (3, .int (nI f0)), (4, .int (nI ib)), (5, .int (nI k)), (12, .int (nI (E1 k))), (13, .int 0)], [.int 0, .int 0], M573)) rfl rfl rfl ?_
                  refine ps_if2 (S1 := (523, [(0, .ref m0), (1, .int (nI p)), (2, .int (nI (by2 f pM))), (3, .int (nI f0)), (4, .int (nI ib)), (5, .int (nI k)), (12, .int (nI (E1 k))), (13, .int 0)], [], M573)) (S2 := (515, [(0, .ref m0), (1, .int (nI p)), (2, .int (nI (by2 f pM))), (3, .int (nI f0)), (4, .int (nI ib)), (5, .int (nI k)), (12, .int (nI (E1 k))), (13, .int 0)], [], M573)) rfl rfl rfl (fun c_512 => ?_) (fun c_512 => ?_)
                  rotate_left
                  · exact absurd (by decide) (of_decide_eq_false c_512)
                  refine ps_st (S' := (525, [(0, .ref m0), (1, .int (nI p)), (2, .int (nI (by2 f pM))), (3, .int (nI f0)), (4, .int (nI ib)), (5, .int (nI k)), (12, .int (nI (E1 k))), (13, .int 0)], [.int (nI (E1 k))], M573)) rfl rfl rfl ?_
                  refine ps_st (S' := (526, [(1, .int (nI (E1 k))), (0, .ref m0), (2, .int (nI (by2 f pM))), (3, .int (nI f0)), (4, .int (nI ib)), (5, .int (nI k)), (12, .int (nI (E1 k))), (13, .int 0)], [], M573)) rfl rfl rfl ?_
                  refine ps_st (S' := (529, [(5, .int ((nI k) + 1)), (1, .int (nI (E1 k))), (0, .ref m0), (2, .int (nI (by2 f pM))), (3, .int (nI f0)), (4, .int (nI ib)), (12, .int (nI (E1 k))), (13, .int 0)], [], M573)) rfl rfl rfl ?_
                  rw [nI_add1 (p := k) (k := 1) (x := 1) rfl (by omega)]
                  show pl _ _ _ (_, [(5, .int (nI (k + 1))), (1, .int (nI (E1 k))), (0, .ref m0), (2, .int (nI (by2 f pM))), (3, .int (nI f0)), (4, .int (nI ib)), (12, .int (nI (E1 k))), (13, .int 0)], [], M573) _
                  refine ps_st (S' := (40, [(0, .ref m0), (1, .int (nI (E1 k))), (2, .int (nI (by2 f pM))), (3, .int (nI f0)), (4, .int (nI ib)), (5, .int (nI (k + 1)))], [], M573)) rfl rfl rfl ?_
                  have hN8 := FN.more hN9_621 hpk c35_623 c36_624 hsa hsd ht1 ht2
                  exact ih.1 (k + 1) (E1 k) (ib) M573 I603 R604 hR605 hEI626 hER627 hi609 hi610 hi611 hi612 hi613 hi616 hi614 hi615 hF_617 hY_618 hP_619 hK_620 hN8 (by omega) (fun h9 => (hm9.2.2.2 (by omega)).symm) (hm9.2.1) (by
                      rw [← hs, mtS_st (i := k) (by omega), ← hpk, mh_n hnm hfl hds (by rw [← hd9, show k - j = 0 by omega]; rfl), q462_s]
                      dsimp only
                      rw [cdu_0, if_pos (by omega), if_pos (by omega)]) (hib)
                · have c_502 : ¬ (0 ≤ y9) := of_decide_eq_false c_502
                  have hh9 : h9602 = 0 := by rcases hyc with h8 | h8; exact h8.1; exact absurd (Int32.not_le.mp c_502) h8.2
                  refine ps_st (S' := (506, [(13, .int 0), (0, .ref m0), (1, .int (nI p)), (2, .int (nI (by2 f pM))), (3, .int (nI f0)), (4, .int (nI ib)), (5, .int (nI k)), (11, .int (nI (f0 + k))), (12, .int (nI (E1 k)))], [.int 1], M573)) rfl rfl rfl ?_
                  refine ps_st (S' := (510, [(0, .ref m0), (1, .int (nI p)), (2, .int (nI (by2 f pM))), (3, .int (nI f0)), (4, .int (nI ib)), (5, .int (nI k)), (12, .int (nI (E1 k))), (13, .int 0)], [.int 1], M573)) rfl rfl rfl ?_
                  refine ps_st (S' := (512, [(0, .ref m0), (1, .int (nI p)), (2, .int (nI (by2 f pM))), (3, .int (nI f0)), (4, .int (nI ib)), (5, .int (nI k)), (12, .int (nI (E1 k))), (13, .int 0)], [.int 0, .int 1], M573)) rfl rfl rfl ?_
                  refine ps_if2 (S1 := (523, [(0, .ref m0), (1, .int (nI p)), (2, .int (nI (by2 f pM))), (3, .int (nI f0)), (4, .int (nI ib)), (5, .int (nI k)), (12, .int (nI (E1 k))), (13, .int 0)], [], M573)) (S2 := (515, [(0, .ref m0), (1, .int (nI p)), (2, .int (nI (by2 f pM))), (3, .int (nI f0)), (4, .int (nI ib)), (5, .int (nI k)), (12, .int (nI (E1 k))), (13, .int 0)], [], M573)) rfl rfl rfl (fun c_512 => ?_) (fun c_512 => ?_)
                  · exact absurd (of_decide_eq_true c_512) (by decide)
                  refine ps_st (S' := (516, [(0, .ref m0), (1, .int (nI p)), (2, .int (nI (by2 f pM))), (3, .int (nI f0)), (4, .int (nI ib)), (5, .int (nI k)), (12, .int (nI (E1 k))), (13, .int 0)], [.ref m0], M573)) rfl rfl rfl ?_
                  refine ps_st (S' := (518, [(0, .ref m0), (1, .int (nI p)), (2, .int (nI (by2 f pM))), (3, .int (nI f0)), (4, .int (nI ib)), (5, .int (nI k)), (12, .int (nI (E1 k))), (13, .int 0)], [.int 27, .ref m0], M573)) rfl rfl rfl ?_
                  refine ps_st (S' := (519, [(0, .ref m0), (1, .int (nI p)), (2, .int (nI (by2 f pM))), (3, .int (nI f0)), (4, .int (nI ib)), (5, .int (nI k)), (12, .int (nI (E1 k))), (13, .int 0)], [.int (nI p), .int 27, .ref m0], M573)) rfl rfl rfl ?_
                  refine pl_call (a := [.ref m0, .int 27, .int (nI p)]) (rest := []) rfl rfl rfl (rd_wrong (x1 := 27) (x2 := (nI p)) hR605) (fun v658 M659 q660 => ?_)
                  obtain ⟨I661, R662, rfl, hR663, hI664, hX665, hi666, hi667⟩ := q660
                  have hi668 := (hI664 51 (by decide)).trans hi609
                  have hi669 := (hI664 52 (by decide)).trans hi610
                  have hi670 := (hI664 53 (by decide)).trans hi611
                  have hi671 := (hI664 58 (by decide)).trans hi612
                  have hi672 := (hI664 56 (by decide)).trans hi613
                  have hi673 := (hI664 9 (by decide)).trans hi614
                  have hi674 := (hI664 10 (by decide)).trans hi615
                  have hi675 := (hI664 26 (by decide)).trans hi616
                  have hF_676 := hF_617.mono (cIx hI664 (by decide)) (cRx hX665 (by decide))
                  have hY_677 := hY_618.mono (cIx hI664 (by decide)) (cRx hX665 (by decide))
                  have hP_678 := hP_619.mono (cIx hI664 (by decide)) (cRx hX665 (by decide))
                  have hK_679 := hK_620.mono (cIx hI664 (by decide)) (cRx hX665 (by decide))
                  have hN9_680 := hN9_621.mono (cIx hI664 (by decide)) (cRx hX665 (by decide))
                  have c34_681 := c34_622.mono (cIx hI664 (by decide)) (cRx hX665 (by decide))
                  have c35_682 := c35_623.mono (cIx hI664 (by decide)) (cRx hX665 (by decide))
                  have c36_683 := c36_624.mono (cIx hI664 (by decide)) (cRx hX665 (by decide))
                  have hX_684 := hX_625.mono (cIx hI664 (by decide)) (cRx hX665 (by decide))
                  have hC_685 := hC_608.mono (cIx hI664 (by decide)) (cRx hX665 (by decide))
                  have hEI686 := hEI626.tr hI664 (by decide)
                  have hER687 := hER627.tr hX665 (by decide)
                  show pl _ _ _ (522, [(0, .ref m0), (1, .int (nI p)), (2, .int (nI (by2 f pM))), (3, .int (nI f0)), (4, .int (nI ib)), (5, .int (nI k)), (12, .int (nI (E1 k))), (13, .int 0)], [.int 0], M659) _
                  exact ps_ret rfl rfl (Or.inr ⟨(27, p), I661, R662, by
                      rw [← hs, mtS_st (i := k) (by omega), ← hpk, mh_n hnm hfl hds (by rw [← hd9, show k - j = 0 by omega]; rfl), q462_s]
                      dsimp only
                      rw [cdu_0, if_pos (by omega), if_neg (by omega)], rfl, hR663, hEI686, hER687, hi666, hi667⟩)
              · have c_485 : ¬ (¬ (nI i9) = 0) := of_decide_eq_false c_485
                have n_485 : i9 = 0 := (eq_nI (p := i9) (n := 0) (by omega) (by decide)).mp (Decidable.not_not.mp c_485)
                refine ps_st (S' := (489, [(12, .int (nI (E1 k))), (0, .ref m0), (1, .int (nI p)), (2, .int (nI (by2 f pM))), (3, .int (nI f0)), (4, .int (nI ib)), (5, .int (nI k)), (6, .int (nI (by2 f p))), (7, .int (nI a)), (9, .int (nI i9)), (10, .int (nI d)), (11, .int (nI (f0 + k)))], [.int 1], M573)) rfl rfl rfl ?_
                refine ps_st (S' := (493, [(0, .ref m0), (1, .int (nI p)), (2, .int (nI (by2 f pM))), (3, .int (nI f0)), (4, .int (nI ib)), (5, .int (nI k)), (11, .int (nI (f0 + k))), (12, .int (nI (E1 k)))], [.int 1], M573)) rfl rfl rfl ?_
                refine ps_st (S' := (495, [(13, .int 1), (0, .ref m0), (1, .int (nI p)), (2, .int (nI (by2 f pM))), (3, .int (nI f0)), (4, .int (nI ib)), (5, .int (nI k)), (11, .int (nI (f0 + k))), (12, .int (nI (E1 k)))], [], M573)) rfl rfl rfl ?_
                refine ps_st (S' := (496, [(13, .int 1), (0, .ref m0), (1, .int (nI p)), (2, .int (nI (by2 f pM))), (3, .int (nI f0)), (4, .int (nI ib)), (5, .int (nI k)), (11, .int (nI (f0 + k))), (12, .int (nI (E1 k)))], [.ref m0], M573)) rfl rfl rfl ?_
                refine pr_ref (j := 37) (S' := (499, [(13, .int 1), (0, .ref m0), (1, .int (nI p)), (2, .int (nI (by2 f pM))), (3, .int (nI f0)), (4, .int (nI ib)), (5, .int (nI k)), (11, .int (nI (f0 + k))), (12, .int (nI (E1 k)))], [.ref (q 37)], M573)) rfl hR605 rfl rfl ?_
                refine ps_st (S' := (501, [(13, .int 1), (0, .ref m0), (1, .int (nI p)), (2, .int (nI (by2 f pM))), (3, .int (nI f0)), (4, .int (nI ib)), (5, .int (nI k)), (11, .int (nI (f0 + k))), (12, .int (nI (E1 k)))], [.int (nI (f0 + k)), .ref (q 37)], M573)) rfl rfl rfl ?_
                refine pr_ld (a := 37) (j := f0 + k) (y := y9) (S' := (502, [(13, .int 1), (0, .ref m0), (1, .int (nI p)), (2, .int (nI (by2 f pM))), (3, .int (nI f0)), (4, .int (nI ib)), (5, .int (nI k)), (11, .int (nI (f0 + k))), (12, .int (nI (E1 k)))], [.int y9], M573)) rfl hR605 rfl (by omega) (fun _ => hy9) rfl (fun i1_501 => ?_)
                refine ps_if (S1 := (509, [(13, .int 1), (0, .ref m0), (1, .int (nI p)), (2, .int (nI (by2 f pM))), (3, .int (nI f0)), (4, .int (nI ib)), (5, .int (nI k)), (11, .int (nI (f0 + k))), (12, .int (nI (E1 k)))], [], M573)) (S2 := (505, [(13, .int 1), (0, .ref m0), (1, .int (nI p)), (2, .int (nI (by2 f pM))), (3, .int (nI f0)), (4, .int (nI ib)), (5, .int (nI k)), (11, .int (nI (f0 + k))), (12, .int (nI (E1 k)))], [], M573)) rfl rfl rfl (fun c_502 => ?_) (fun c_502 => ?_)
                · have c_502 : 0 ≤ y9 := of_decide_eq_true c_502
                  have hh9 : ¬ h9602 = 0 := by rcases hyc with h8 | h8; exact absurd h8.2 (Int32.not_lt.mpr c_502); exact h8.1
                  refine ps_st (S' := (510, [(0, .ref m0), (1, .int (nI p)), (2, .int (nI (by2 f pM))), (3, .int (nI f0)), (4, .int (nI ib)), (5, .int (nI k)), (12, .int (nI (E1 k))), (13, .int 1)], [.int 0], M573)) rfl rfl rfl ?_
                  refine ps_st (S' := (512, [(0, .ref m0), (1, .int (nI p)), (2, .int (nI (by2 f pM))), (3, .int (nI f0)), (4, .int (nI ib)), (5, .int (nI k)), (12, .int (nI (E1 k))), (13, .int 1)], [.int 1, .int 0], M573)) rfl rfl rfl ?_
                  refine ps_if2 (S1 := (523, [(0, .ref m0), (1, .int (nI p)), (2, .int (nI (by2 f pM))), (3, .int (nI f0)), (4, .int (nI ib)), (5, .int (nI k)), (12, .int (nI (E1 k))), (13, .int 1)], [], M573)) (S2 := (515, [(0, .ref m0), (1, .int (nI p)), (2, .int (nI (by2 f pM))), (3, .int (nI f0)), (4, .int (nI ib)), (5, .int (nI k)), (12, .int (nI (E1 k))), (13, .int 1)], [], M573)) rfl rfl rfl (fun c_512 => ?_) (fun c_512 => ?_)
                  · exact absurd (of_decide_eq_true c_512) (by decide)
                  refine ps_st (S' := (516, [(0, .ref m0), (1, .int (nI p)), (2, .int (nI (by2 f pM))), (3, .int (nI f0)), (4, .int (nI ib)), (5, .int (nI k)), (12, .int (nI (E1 k))), (13, .int 1)], [.ref m0], M573)) rfl rfl rfl ?_
                  refine ps_st (S' := (518, [(0, .ref m0), (1, .int (nI p)), (2, .int (nI (by2 f pM))), (3, .int (nI f0)), (4, .int (nI ib)), (5, .int (nI k)), (12, .int (nI (E1 k))), (13, .int 1)], [.int 27, .ref m0], M573)) rfl rfl rfl ?_
                  refine ps_st (S' := (519, [(0, .ref m0), (1, .int (nI p)), (2, .int (nI (by2 f pM))), (3, .int (nI f0)), (4, .int (nI ib)), (5, .int (nI k)), (12, .int (nI (E1 k))), (13, .int 1)], [.int (nI p), .int 27, .ref m0], M573)) rfl rfl rfl ?_
                  refine pl_call (a := [.ref m0, .int 27, .int (nI p)]) (rest := []) rfl rfl rfl (rd_wrong (x1 := 27) (x2 := (nI p)) hR605) (fun v688 M689 q690 => ?_)
                  obtain ⟨I691, R692, rfl, hR693, hI694, hX695, hi696, hi697⟩ := q690
                  have hi698 := (hI694 51 (by decide)).trans hi609
                  have hi699 := (hI694 52 (by decide)).trans hi610
                  have hi700 := (hI694 53 (by decide)).trans hi611
                  have hi701 := (hI694 58 (by decide)).trans hi612
                  have hi702 := (hI694 56 (by decide)).trans hi613
                  have hi703 := (hI694 9 (by decide)).trans hi614
                  have hi704 := (hI694 10 (by decide)).trans hi615
                  have hi705 := (hI694 26 (by decide)).trans hi616
                  have hF_706 := hF_617.mono (cIx hI694 (by decide)) (cRx hX695 (by decide))
                  have hY_707 := hY_618.mono (cIx hI694 (by decide)) (cRx hX695 (by decide))
                  have hP_708 := hP_619.mono (cIx hI694 (by decide)) (cRx hX695 (by decide))
                  have hK_709 := hK_620.mono (cIx hI694 (by decide)) (cRx hX695 (by decide))
                  have hN9_710 := hN9_621.mono (cIx hI694 (by decide)) (cRx hX695 (by decide))
                  have c34_711 := c34_622.mono (cIx hI694 (by decide)) (cRx hX695 (by decide))
                  have c35_712 := c35_623.mono (cIx hI694 (by decide)) (cRx hX695 (by decide))
                  have c36_713 := c36_624.mono (cIx hI694 (by decide)) (cRx hX695 (by decide))
                  have hX_714 := hX_625.mono (cIx hI694 (by decide)) (cRx hX695 (by decide))
                  have hC_715 := hC_608.mono (cIx hI694 (by decide)) (cRx hX695 (by decide))
                  have hEI716 := hEI626.tr hI694 (by decide)
                  have hER717 := hER627.tr hX695 (by decide)
                  show pl _ _ _ (522, [(0, .ref m0), (1, .int (nI p)), (2, .int (nI (by2 f pM))), (3, .int (nI f0)), (4, .int (nI ib)), (5, .int (nI k)), (12, .int (nI (E1 k))), (13, .int 1)], [.int 0], M689) _
                  exact ps_ret rfl rfl (Or.inr ⟨(27, p), I691, R692, by
                      rw [← hs, mtS_st (i := k) (by omega), ← hpk, mh_n hnm hfl hds (by rw [← hd9, show k - j = 0 by omega]; rfl), q462_s]
                      dsimp only
                      rw [cdu_0, if_neg (by omega), if_neg (by omega)], rfl, hR693, hEI716, hER717, hi696, hi697⟩)
                · have c_502 : ¬ (0 ≤ y9) := of_decide_eq_false c_502
                  have hh9 : h9602 = 0 := by rcases hyc with h8 | h8; exact h8.1; exact absurd (Int32.not_le.mp c_502) h8.2
                  refine ps_st (S' := (506, [(13, .int 1), (0, .ref m0), (1, .int (nI p)), (2, .int (nI (by2 f pM))), (3, .int (nI f0)), (4, .int (nI ib)), (5, .int (nI k)), (11, .int (nI (f0 + k))), (12, .int (nI (E1 k)))], [.int 1], M573)) rfl rfl rfl ?_
                  refine ps_st (S' := (510, [(0, .ref m0), (1, .int (nI p)), (2, .int (nI (by2 f pM))), (3, .int (nI f0)), (4, .int (nI ib)), (5, .int (nI k)), (12, .int (nI (E1 k))), (13, .int 1)], [.int 1], M573)) rfl rfl rfl ?_
                  refine ps_st (S' := (512, [(0, .ref m0), (1, .int (nI p)), (2, .int (nI (by2 f pM))), (3, .int (nI f0)), (4, .int (nI ib)), (5, .int (nI k)), (12, .int (nI (E1 k))), (13, .int 1)], [.int 1, .int 1], M573)) rfl rfl rfl ?_
                  refine ps_if2 (S1 := (523, [(0, .ref m0), (1, .int (nI p)), (2, .int (nI (by2 f pM))), (3, .int (nI f0)), (4, .int (nI ib)), (5, .int (nI k)), (12, .int (nI (E1 k))), (13, .int 1)], [], M573)) (S2 := (515, [(0, .ref m0), (1, .int (nI p)), (2, .int (nI (by2 f pM))), (3, .int (nI f0)), (4, .int (nI ib)), (5, .int (nI k)), (12, .int (nI (E1 k))), (13, .int 1)], [], M573)) rfl rfl rfl (fun c_512 => ?_) (fun c_512 => ?_)
                  rotate_left
                  · exact absurd (by decide) (of_decide_eq_false c_512)
                  refine ps_st (S' := (525, [(0, .ref m0), (1, .int (nI p)), (2, .int (nI (by2 f pM))), (3, .int (nI f0)), (4, .int (nI ib)), (5, .int (nI k)), (12, .int (nI (E1 k))), (13, .int 1)], [.int (nI (E1 k))], M573)) rfl rfl rfl ?_
                  refine ps_st (S' := (526, [(1, .int (nI (E1 k))), (0, .ref m0), (2, .int (nI (by2 f pM))), (3, .int (nI f0)), (4, .int (nI ib)), (5, .int (nI k)), (12, .int (nI (E1 k))), (13, .int 1)], [], M573)) rfl rfl rfl ?_
                  refine ps_st (S' := (529, [(5, .int ((nI k) + 1)), (1, .int (nI (E1 k))), (0, .ref m0), (2, .int (nI (by2 f pM))), (3, .int (nI f0)), (4, .int (nI ib)), (12, .int (nI (E1 k))), (13, .int 1)], [], M573)) rfl rfl rfl ?_
                  rw [nI_add1 (p := k) (k := 1) (x := 1) rfl (by omega)]
                  show pl _ _ _ (_, [(5, .int (nI (k + 1))), (1, .int (nI (E1 k))), (0, .ref m0), (2, .int (nI (by2 f pM))), (3, .int (nI f0)), (4, .int (nI ib)), (12, .int (nI (E1 k))), (13, .int 1)], [], M573) _
                  refine ps_st (S' := (40, [(0, .ref m0), (1, .int (nI (E1 k))), (2, .int (nI (by2 f pM))), (3, .int (nI f0)), (4, .int (nI ib)), (5, .int (nI (k + 1)))], [], M573)) rfl rfl rfl ?_
                  have hN8 := FN.more hN9_621 hpk c35_623 c36_624 hsa hsd ht1 ht2
                  exact ih.1 (k + 1) (E1 k) (ib) M573 I603 R604 hR605 hEI626 hER627 hi609 hi610 hi611 hi612 hi613 hi616 hi614 hi615 hF_617 hY_618 hP_619 hK_620 hN8 (by omega) (fun h9 => (hm9.2.2.2 (by omega)).symm) (hm9.2.1) (by
                      rw [← hs, mtS_st (i := k) (by omega), ← hpk, mh_n hnm hfl hds (by rw [← hd9, show k - j = 0 by omega]; rfl), q462_s]
                      dsimp only
                      rw [cdu_0, if_neg (by omega), if_pos (by omega)]) (hib)
        · have c_403 : ¬ ((nI (f0 + k)) ≤ (nI (f0 + j))) := of_decide_eq_false c_403
          have n_403 : ¬ (f0 + k ≤ f0 + j) := fun h9 => c_403 ((le_nI (p := f0 + k) (n := f0 + j) (by omega) (by omega)).mpr h9)
          obtain ⟨a9, d9, g1, g2, g3, g4, g5, g6⟩ := hN91 j (by omega)
          have g7 := g3.1
          have g8 := g4.1
          have sm1 := sm_sym (k := by2 f (B.getD j 0 + 2)) (m := by2 f (p + 2)) hY1 g3 hsa g5 ht1
          have sm2 := sm_sym (k := by2 f (B.getD j 0 + 4)) (m := by2 f (p + 4)) hY1 g4 hsd g6 ht2
          refine ps_st (S' := (407, [(0, .ref m0), (1, .int (nI p)), (2, .int (nI (by2 f pM))), (3, .int (nI f0)), (4, .int (nI ib)), (5, .int (nI k)), (6, .int (nI (by2 f p))), (7, .int (nI a)), (9, .int (nI i9)), (10, .int (nI d)), (11, .int (nI (f0 + k))), (12, .int (nI (f0 + j)))], [.ref m0], M1)) rfl rfl rfl ?_
          refine pr_ref (j := 35) (S' := (410, [(0, .ref m0), (1, .int (nI p)), (2, .int (nI (by2 f pM))), (3, .int (nI f0)), (4, .int (nI ib)), (5, .int (nI k)), (6, .int (nI (by2 f p))), (7, .int (nI a)), (9, .int (nI i9)), (10, .int (nI d)), (11, .int (nI (f0 + k))), (12, .int (nI (f0 + j)))], [.ref (q 35)], M1)) rfl hR1 rfl rfl ?_
          refine ps_st (S' := (412, [(0, .ref m0), (1, .int (nI p)), (2, .int (nI (by2 f pM))), (3, .int (nI f0)), (4, .int (nI ib)), (5, .int (nI k)), (6, .int (nI (by2 f p))), (7, .int (nI a)), (9, .int (nI i9)), (10, .int (nI d)), (11, .int (nI (f0 + k))), (12, .int (nI (f0 + j)))], [.int (nI (f0 + j)), .ref (q 35)], M1)) rfl rfl rfl ?_
          refine pr_ld (a := 35) (j := f0 + j) (y := (nI a9)) (S' := (413, [(0, .ref m0), (1, .int (nI p)), (2, .int (nI (by2 f pM))), (3, .int (nI f0)), (4, .int (nI ib)), (5, .int (nI k)), (6, .int (nI (by2 f p))), (7, .int (nI a)), (9, .int (nI i9)), (10, .int (nI d)), (11, .int (nI (f0 + k))), (12, .int (nI (f0 + j)))], [.int (nI a9)], M1)) rfl hR1 rfl (by omega) (fun _ => g1) rfl (fun i1_412 => ?_)
          refine ps_st (S' := (415, [(0, .ref m0), (1, .int (nI p)), (2, .int (nI (by2 f pM))), (3, .int (nI f0)), (4, .int (nI ib)), (5, .int (nI k)), (6, .int (nI (by2 f p))), (7, .int (nI a)), (9, .int (nI i9)), (10, .int (nI d)), (11, .int (nI (f0 + k))), (12, .int (nI (f0 + j)))], [.int (nI a), .int (nI a9)], M1)) rfl rfl rfl ?_
          refine ps_if2 (S1 := (438, [(0, .ref m0), (1, .int (nI p)), (2, .int (nI (by2 f pM))), (3, .int (nI f0)), (4, .int (nI ib)), (5, .int (nI k)), (6, .int (nI (by2 f p))), (7, .int (nI a)), (9, .int (nI i9)), (10, .int (nI d)), (11, .int (nI (f0 + k))), (12, .int (nI (f0 + j)))], [], M1)) (S2 := (418, [(0, .ref m0), (1, .int (nI p)), (2, .int (nI (by2 f pM))), (3, .int (nI f0)), (4, .int (nI ib)), (5, .int (nI k)), (6, .int (nI (by2 f p))), (7, .int (nI a)), (9, .int (nI i9)), (10, .int (nI d)), (11, .int (nI (f0 + k))), (12, .int (nI (f0 + j)))], [], M1)) rfl rfl rfl (fun c_415 => ?_) (fun c_415 => ?_)
          · have c_415 : ¬ (nI a9) = (nI a) := of_decide_eq_true c_415
            have n_415 : ¬ (a9 = a) := fun h9 => c_415 ((eq_nI (p := a9) (n := a) (by omega) (by omega)).mpr h9)
            refine ps_st (S' := (441, [(12, .int ((nI (f0 + j)) + 1)), (0, .ref m0), (1, .int (nI p)), (2, .int (nI (by2 f pM))), (3, .int (nI f0)), (4, .int (nI ib)), (5, .int (nI k)), (6, .int (nI (by2 f p))), (7, .int (nI a)), (9, .int (nI i9)), (10, .int (nI d)), (11, .int (nI (f0 + k)))], [], M1)) rfl rfl rfl ?_
            rw [nI_add1 (p := f0 + j) (k := 1) (x := 1) rfl (by omega)]
            show pl _ _ _ (_, [(12, .int (nI (f0 + j + 1))), (0, .ref m0), (1, .int (nI p)), (2, .int (nI (by2 f pM))), (3, .int (nI f0)), (4, .int (nI ib)), (5, .int (nI k)), (6, .int (nI (by2 f p))), (7, .int (nI a)), (9, .int (nI i9)), (10, .int (nI d)), (11, .int (nI (f0 + k)))], [], M1) _
            refine ps_st (S' := (399, [(0, .ref m0), (1, .int (nI p)), (2, .int (nI (by2 f pM))), (3, .int (nI f0)), (4, .int (nI ib)), (5, .int (nI k)), (6, .int (nI (by2 f p))), (7, .int (nI a)), (9, .int (nI i9)), (10, .int (nI d)), (11, .int (nI (f0 + k))), (12, .int (nI (f0 + j + 1)))], [], M1)) rfl rfl rfl ?_
            exact ih.2.2.2 (k) (p) (ib) (a) (i9) (d) (j + 1) M1 I1 R1 hR1 hEI1 hER1 hl51 hl52 hl53 hl58 hl56 hl26 hl9 hl10 hF1 hY1 hP1 hK1 hN91 c341 c351 c361 hC1 (hk0) (hpk) (hpe) (hs) (hib) (hsa) (ht1) (hnm) (hfl) (h9c) (hsd) (ht2) (hmt) (hds) (by omega) (hx) (by
                rw [← hd9, smeS_st (i := j) (by omega), if_neg (by omega)])
          · have c_415 : ¬ (¬ (nI a9) = (nI a)) := of_decide_eq_false c_415
            have n_415 : a9 = a := (eq_nI (p := a9) (n := a) (by omega) (by omega)).mp (Decidable.not_not.mp c_415)
            refine ps_st (S' := (419, [(0, .ref m0), (1, .int (nI p)), (2, .int (nI (by2 f pM))), (3, .int (nI f0)), (4, .int (nI ib)), (5, .int (nI k)), (6, .int (nI (by2 f p))), (7, .int (nI a)), (9, .int (nI i9)), (10, .int (nI d)), (11, .int (nI (f0 + k))), (12, .int (nI (f0 + j)))], [.ref m0], M1)) rfl rfl rfl ?_
            refine pr_ref (j := 36) (S' := (422, [(0, .ref m0), (1, .int (nI p)), (2, .int (nI (by2 f pM))), (3, .int (nI f0)), (4, .int (nI ib)), (5, .int (nI k)), (6, .int (nI (by2 f p))), (7, .int (nI a)), (9, .int (nI i9)), (10, .int (nI d)), (11, .int (nI (f0 + k))), (12, .int (nI (f0 + j)))], [.ref (q 36)], M1)) rfl hR1 rfl rfl ?_
            refine ps_st (S' := (424, [(0, .ref m0), (1, .int (nI p)), (2, .int (nI (by2 f pM))), (3, .int (nI f0)), (4, .int (nI ib)), (5, .int (nI k)), (6, .int (nI (by2 f p))), (7, .int (nI a)), (9, .int (nI i9)), (10, .int (nI d)), (11, .int (nI (f0 + k))), (12, .int (nI (f0 + j)))], [.int (nI (f0 + j)), .ref (q 36)], M1)) rfl rfl rfl ?_
            refine pr_ld (a := 36) (j := f0 + j) (y := (nI d9)) (S' := (425, [(0, .ref m0), (1, .int (nI p)), (2, .int (nI (by2 f pM))), (3, .int (nI f0)), (4, .int (nI ib)), (5, .int (nI k)), (6, .int (nI (by2 f p))), (7, .int (nI a)), (9, .int (nI i9)), (10, .int (nI d)), (11, .int (nI (f0 + k))), (12, .int (nI (f0 + j)))], [.int (nI d9)], M1)) rfl hR1 rfl (by omega) (fun _ => g2) rfl (fun i1_424 => ?_)
            refine ps_st (S' := (427, [(0, .ref m0), (1, .int (nI p)), (2, .int (nI (by2 f pM))), (3, .int (nI f0)), (4, .int (nI ib)), (5, .int (nI k)), (6, .int (nI (by2 f p))), (7, .int (nI a)), (9, .int (nI i9)), (10, .int (nI d)), (11, .int (nI (f0 + k))), (12, .int (nI (f0 + j)))], [.int (nI d), .int (nI d9)], M1)) rfl rfl rfl ?_
            refine ps_if2 (S1 := (438, [(0, .ref m0), (1, .int (nI p)), (2, .int (nI (by2 f pM))), (3, .int (nI f0)), (4, .int (nI ib)), (5, .int (nI k)), (6, .int (nI (by2 f p))), (7, .int (nI a)), (9, .int (nI i9)), (10, .int (nI d)), (11, .int (nI (f0 + k))), (12, .int (nI (f0 + j)))], [], M1)) (S2 := (430, [(0, .ref m0), (1, .int (nI p)), (2, .int (nI (by2 f pM))), (3, .int (nI f0)), (4, .int (nI ib)), (5, .int (nI k)), (6, .int (nI (by2 f p))), (7, .int (nI a)), (9, .int (nI i9)), (10, .int (nI d)), (11, .int (nI (f0 + k))), (12, .int (nI (f0 + j)))], [], M1)) rfl rfl rfl (fun c_427 => ?_) (fun c_427 => ?_)
            · have c_427 : ¬ (nI d9) = (nI d) := of_decide_eq_true c_427
              have n_427 : ¬ (d9 = d) := fun h9 => c_427 ((eq_nI (p := d9) (n := d) (by omega) (by omega)).mpr h9)
              refine ps_st (S' := (441, [(12, .int ((nI (f0 + j)) + 1)), (0, .ref m0), (1, .int (nI p)), (2, .int (nI (by2 f pM))), (3, .int (nI f0)), (4, .int (nI ib)), (5, .int (nI k)), (6, .int (nI (by2 f p))), (7, .int (nI a)), (9, .int (nI i9)), (10, .int (nI d)), (11, .int (nI (f0 + k)))], [], M1)) rfl rfl rfl ?_
              rw [nI_add1 (p := f0 + j) (k := 1) (x := 1) rfl (by omega)]
              show pl _ _ _ (_, [(12, .int (nI (f0 + j + 1))), (0, .ref m0), (1, .int (nI p)), (2, .int (nI (by2 f pM))), (3, .int (nI f0)), (4, .int (nI ib)), (5, .int (nI k)), (6, .int (nI (by2 f p))), (7, .int (nI a)), (9, .int (nI i9)), (10, .int (nI d)), (11, .int (nI (f0 + k)))], [], M1) _
              refine ps_st (S' := (399, [(0, .ref m0), (1, .int (nI p)), (2, .int (nI (by2 f pM))), (3, .int (nI f0)), (4, .int (nI ib)), (5, .int (nI k)), (6, .int (nI (by2 f p))), (7, .int (nI a)), (9, .int (nI i9)), (10, .int (nI d)), (11, .int (nI (f0 + k))), (12, .int (nI (f0 + j + 1)))], [], M1)) rfl rfl rfl ?_
              exact ih.2.2.2 (k) (p) (ib) (a) (i9) (d) (j + 1) M1 I1 R1 hR1 hEI1 hER1 hl51 hl52 hl53 hl58 hl56 hl26 hl9 hl10 hF1 hY1 hP1 hK1 hN91 c341 c351 c361 hC1 (hk0) (hpk) (hpe) (hs) (hib) (hsa) (ht1) (hnm) (hfl) (h9c) (hsd) (ht2) (hmt) (hds) (by omega) (hx) (by
                  rw [← hd9, smeS_st (i := j) (by omega), if_neg (by omega)])
            · have c_427 : ¬ (¬ (nI d9) = (nI d)) := of_decide_eq_false c_427
              have n_427 : d9 = d := (eq_nI (p := d9) (n := d) (by omega) (by omega)).mp (Decidable.not_not.mp c_427)
              refine ps_st (S' := (431, [(0, .ref m0), (1, .int (nI p)), (2, .int (nI (by2 f pM))), (3, .int (nI f0)), (4, .int (nI ib)), (5, .int (nI k)), (6, .int (nI (by2 f p))), (7, .int (nI a)), (9, .int (nI i9)), (10, .int (nI d)), (11, .int (nI (f0 + k))), (12, .int (nI (f0 + j)))], [.ref m0], M1)) rfl rfl rfl ?_
              refine ps_st (S' := (433, [(0, .ref m0), (1, .int (nI p)), (2, .int (nI (by2 f pM))), (3, .int (nI f0)), (4, .int (nI ib)), (5, .int (nI k)), (6, .int (nI (by2 f p))), (7, .int (nI a)), (9, .int (nI i9)), (10, .int (nI d)), (11, .int (nI (f0 + k))), (12, .int (nI (f0 + j)))], [.int 26, .ref m0], M1)) rfl rfl rfl ?_
              refine ps_st (S' := (434, [(0, .ref m0), (1, .int (nI p)), (2, .int (nI (by2 f pM))), (3, .int (nI f0)), (4, .int (nI ib)), (5, .int (nI k)), (6, .int (nI (by2 f p))), (7, .int (nI a)), (9, .int (nI i9)), (10, .int (nI d)), (11, .int (nI (f0 + k))), (12, .int (nI (f0 + j)))], [.int (nI p), .int 26, .ref m0], M1)) rfl rfl rfl ?_
              refine pl_call (a := [.ref m0, .int 26, .int (nI p)]) (rest := []) rfl rfl rfl (rd_wrong (x1 := 26) (x2 := (nI p)) hR1) (fun v718 M719 q720 => ?_)
              obtain ⟨I721, R722, rfl, hR723, hI724, hX725, hi726, hi727⟩ := q720
              have hi728 := (hI724 51 (by decide)).trans hl51
              have hi729 := (hI724 52 (by decide)).trans hl52
              have hi730 := (hI724 53 (by decide)).trans hl53
              have hi731 := (hI724 58 (by decide)).trans hl58
              have hi732 := (hI724 56 (by decide)).trans hl56
              have hi733 := (hI724 26 (by decide)).trans hl26
              have hi734 := (hI724 9 (by decide)).trans hl9
              have hi735 := (hI724 10 (by decide)).trans hl10
              have hF_736 := hF1.mono (cIx hI724 (by decide)) (cRx hX725 (by decide))
              have hY_737 := hY1.mono (cIx hI724 (by decide)) (cRx hX725 (by decide))
              have hP_738 := hP1.mono (cIx hI724 (by decide)) (cRx hX725 (by decide))
              have hK_739 := hK1.mono (cIx hI724 (by decide)) (cRx hX725 (by decide))
              have hN9_740 := hN91.mono (cIx hI724 (by decide)) (cRx hX725 (by decide))
              have c34_741 := c341.mono (cIx hI724 (by decide)) (cRx hX725 (by decide))
              have c35_742 := c351.mono (cIx hI724 (by decide)) (cRx hX725 (by decide))
              have c36_743 := c361.mono (cIx hI724 (by decide)) (cRx hX725 (by decide))
              have hC_744 := hC1.mono (cIx hI724 (by decide)) (cRx hX725 (by decide))
              have hEI745 := hEI1.tr hI724 (by decide)
              have hER746 := hER1.tr hX725 (by decide)
              show pl _ _ _ (437, [(0, .ref m0), (1, .int (nI p)), (2, .int (nI (by2 f pM))), (3, .int (nI f0)), (4, .int (nI ib)), (5, .int (nI k)), (6, .int (nI (by2 f p))), (7, .int (nI a)), (9, .int (nI i9)), (10, .int (nI d)), (11, .int (nI (f0 + k))), (12, .int (nI (f0 + j)))], [.int 0], M719) _
              exact ps_ret rfl rfl (Or.inr ⟨(26, p), I721, R722, by
                  rw [← hs, mtS_st (i := k) (by omega), ← hpk, mh_26 hnm hfl hds (by rw [← hd9, smeS_st (i := j) (by omega), if_pos (by omega)]; exact fun h9 => by cases h9)], rfl, hR723, hEI745, hER746, hi726, hi727⟩)
  refine ps_st (S' := (1, [(0, .ref m0)], [.ref m0], M)) rfl rfl rfl ?_
  refine pr_int (j := 56) (S' := (4, [(0, .ref m0)], [.int (nI pM)], M)) rfl hR rfl hi56 rfl ?_
  refine ps_st (S' := (5, [(1, .int (nI pM)), (0, .ref m0)], [], M)) rfl rfl rfl ?_
  refine ps_st (S' := (6, [(1, .int (nI pM)), (0, .ref m0)], [.ref m0], M)) rfl rfl rfl ?_
  refine ps_st (S' := (7, [(1, .int (nI pM)), (0, .ref m0)], [.int (nI pM), .ref m0], M)) rfl rfl rfl ?_
  refine pl_call (a := [.ref m0, .int (nI pM)]) (rest := []) rfl rfl rfl (rd_u2 (n := n) (f := f) (p := pM) hR hF (by omega)) (fun v747 M748 q749 => ?_)
  obtain ⟨rfl, rfl⟩ := q749
  show pl _ _ _ (10, [(1, .int (nI pM)), (0, .ref m0)], [.int (nI (by2 f pM))], M) _
  have hu_7 := by2_lt f pM
  refine ps_st (S' := (11, [(2, .int (nI (by2 f pM))), (1, .int (nI pM)), (0, .ref m0)], [], M)) rfl rfl rfl ?_
  refine ps_st (S' := (14, [(1, .int ((nI pM) + 2)), (2, .int (nI (by2 f pM))), (0, .ref m0)], [], M)) rfl rfl rfl ?_
  rw [nI_add1 (p := pM) (k := 2) (x := 2) rfl (by omega)]
  show pl _ _ _ (_, [(1, .int (nI (pM + 2))), (2, .int (nI (by2 f pM))), (0, .ref m0)], [], M) _
  refine ps_st (S' := (15, [(1, .int (nI (pM + 2))), (2, .int (nI (by2 f pM))), (0, .ref m0)], [.ref m0], M)) rfl rfl rfl ?_
  refine pr_int (j := 26) (S' := (18, [(1, .int (nI (pM + 2))), (2, .int (nI (by2 f pM))), (0, .ref m0)], [.int (nI f0)], M)) rfl hR rfl hi26 rfl ?_
  refine ps_st (S' := (19, [(3, .int (nI f0)), (1, .int (nI (pM + 2))), (2, .int (nI (by2 f pM))), (0, .ref m0)], [], M)) rfl rfl rfl ?_
  refine ps_st (S' := (20, [(3, .int (nI f0)), (1, .int (nI (pM + 2))), (2, .int (nI (by2 f pM))), (0, .ref m0)], [.ref m0], M)) rfl rfl rfl ?_
  refine pr_int (j := 58) (S' := (23, [(3, .int (nI f0)), (1, .int (nI (pM + 2))), (2, .int (nI (by2 f pM))), (0, .ref m0)], [.int (nI cf)], M)) rfl hR rfl hi58 rfl ?_
  refine ps_st (S' := (26, [(3, .int (nI f0)), (1, .int (nI (pM + 2))), (2, .int (nI (by2 f pM))), (0, .ref m0)], [.int 512, .int (nI cf)], M)) rfl rfl rfl ?_
  refine ps_st (S' := (27, [(3, .int (nI f0)), (1, .int (nI (pM + 2))), (2, .int (nI (by2 f pM))), (0, .ref m0)], [.int ((nI cf) &&& 512)], M)) rfl rfl rfl ?_
  rw [nI_an (p := cf) (k := 512) (x := 512) rfl]
  show pl _ _ _ (_, [(3, .int (nI f0)), (1, .int (nI (pM + 2))), (2, .int (nI (by2 f pM))), (0, .ref m0)], [.int (nI (aN cf 512))], M) _
  refine ps_if (S1 := (34, [(3, .int (nI f0)), (1, .int (nI (pM + 2))), (2, .int (nI (by2 f pM))), (0, .ref m0)], [], M)) (S2 := (30, [(3, .int (nI f0)), (1, .int (nI (pM + 2))), (2, .int (nI (by2 f pM))), (0, .ref m0)], [], M)) rfl rfl rfl (fun c_27 => ?_) (fun c_27 => ?_)
  · have c_27 : (nI (aN cf 512)) = 0 := of_decide_eq_true c_27
    have n_27 : aN cf 512 = 0 := (eq_nI (p := aN cf 512) (n := 0) (Nat.lt_of_le_of_lt (an_le _ _) (by decide)) (by decide)).mp c_27
    refine ps_st (S' := (35, [(0, .ref m0), (1, .int (nI (pM + 2))), (2, .int (nI (by2 f pM))), (3, .int (nI f0))], [.int 0], M)) rfl rfl rfl ?_
    refine ps_st (S' := (37, [(4, .int 0), (0, .ref m0), (1, .int (nI (pM + 2))), (2, .int (nI (by2 f pM))), (3, .int (nI f0))], [], M)) rfl rfl rfl ?_
    refine ps_st (S' := (38, [(4, .int 0), (0, .ref m0), (1, .int (nI (pM + 2))), (2, .int (nI (by2 f pM))), (3, .int (nI f0))], [.int 0], M)) rfl rfl rfl ?_
    refine ps_st (S' := (40, [(0, .ref m0), (1, .int (nI (pM + 2))), (2, .int (nI (by2 f pM))), (3, .int (nI f0)), (4, .int 0), (5, .int 0)], [], M)) rfl rfl rfl ?_
    exact (LL kf).1 (0) (pM + 2) (0) M I R hR hEI hER hi51 hi52 hi53 hi58 hi56 hi26 hi9 hi10 hF hY hP hK hFN0 (by omega) (fun h9 => (hMB.2.2.1 (by omega)).symm) (by omega) (rfl) (by omega)
  · have c_27 : ¬ ((nI (aN cf 512)) = 0) := of_decide_eq_false c_27
    have n_27 : ¬ (aN cf 512 = 0) := fun h9 => c_27 ((eq_nI (p := aN cf 512) (n := 0) (Nat.lt_of_le_of_lt (an_le _ _) (by decide)) (by decide)).mpr h9)
    refine ps_st (S' := (31, [(3, .int (nI f0)), (1, .int (nI (pM + 2))), (2, .int (nI (by2 f pM))), (0, .ref m0)], [.int 1], M)) rfl rfl rfl ?_
    refine ps_st (S' := (35, [(0, .ref m0), (1, .int (nI (pM + 2))), (2, .int (nI (by2 f pM))), (3, .int (nI f0))], [.int 1], M)) rfl rfl rfl ?_
    refine ps_st (S' := (37, [(4, .int 1), (0, .ref m0), (1, .int (nI (pM + 2))), (2, .int (nI (by2 f pM))), (3, .int (nI f0))], [], M)) rfl rfl rfl ?_
    refine ps_st (S' := (38, [(4, .int 1), (0, .ref m0), (1, .int (nI (pM + 2))), (2, .int (nI (by2 f pM))), (3, .int (nI f0))], [.int 0], M)) rfl rfl rfl ?_
    refine ps_st (S' := (40, [(0, .ref m0), (1, .int (nI (pM + 2))), (2, .int (nI (by2 f pM))), (3, .int (nI f0)), (4, .int 1), (5, .int 0)], [], M)) rfl rfl rfl ?_
    exact (LL kf).1 (0) (pM + 2) (1) M I R hR hEI hER hi51 hi52 hi53 hi58 hi56 hi26 hi9 hi10 hF hY hP hK hFN0 (by omega) (fun h9 => (hMB.2.2.1 (by omega)).symm) (by omega) (rfl) (by omega)

