/-! what the reference keeps (my own text) -/
section XKA
variable {f : Nat → Int32} {n : Nat} {I I' : rI} {R R' : rR}
/-- a file that is kept, as it was parsed -/
def XKV (f : Nat → Int32) (n : Nat) (I : rI) (R : rR) : Prop := ∃ (tx : List (List Nat)) (cN : Nat) (A : Nat → Nat) (E : List (Nat × Nat)) (N mj p1 pF pM pA : Nat), FK n f I R ∧ SYT tx cN A I R ∧ RPV f n E tx N I R ∧ I 51 = some 0 ∧ I 52 = some (nI N) ∧ I 53 = some (nI mj) ∧ s_whole f n = .inr (E, p1, pF, pM, pA) ∧ N = by2 f 8 ∧ mj = by2 f 6
theorem XKV.mono (h : XKV f n I R) (hI : ∀ k, k ∈ [3, 8, 16, 49, 51, 52, 53] → I' k = I k) (hR : ∀ k, k ∈ [1, 4, 5, 6, 7, 12, 21, 22] → R' k = R k) : XKV f n I' R' := by
  obtain ⟨tx, cN, A, E, N, mj, p1, pF, pM, pA, h1, h2, h3, h4, h5, h6, h7⟩ := h
  refine ⟨tx, cN, A, E, N, mj, p1, pF, pM, pA, h1.mono (fun k hk => hI k (by revert k; decide)) (fun k hk => hR k (by revert k; decide)), h2.mono (fun k hk => hI k (by revert k; decide)) (fun k hk => hR k (by revert k; decide)), h3.mono (fun k hk => by cases hk) (fun k hk => hR k (by revert k; decide)), (hI 51 (by decide)).trans h4, (hI 52 (by decide)).trans h5, (hI 53 (by decide)).trans h6, h7⟩
/-- what is kept, if anything is -/
def KPR (ko : Option (Nat × (Nat → Int32))) (I : rI) (R : rR) : Prop := match ko with
  | none => ∃ kn : Int32, I 18 = some kn ∧ kn < 0
  | some p => I 18 = some (nI p.1) ∧ p.1 ≤ 65540 ∧ BX 14 p.1 p.2 I R ∧ s_read p.2 p.1 = none ∧ XKV p.2 p.1 I R
theorem KPR.mono {ko : Option (Nat × (Nat → Int32))} (h : KPR ko I R) (hI : ∀ k, k ∈ [18, 3, 8, 16, 49, 51, 52, 53] → I' k = I k) (hR : ∀ k, k ∈ [14, 1, 4, 5, 6, 7, 12, 21, 22] → R' k = R k) : KPR ko I' R' := by
  cases ko with
  | none =>
    obtain ⟨kn, h1, h2⟩ := h
    exact ⟨kn, (hI 18 (by decide)).trans h1, h2⟩
  | some p =>
    obtain ⟨h1, h2, h3, h4, h5⟩ := h
    exact ⟨(hI 18 (by decide)).trans h1, h2, h3.mono (fun k hk => by cases hk) (fun k hk => hR k (by revert k; decide)), h4, h5.mono (fun k hk => hI k (by revert k; decide)) (fun k hk => hR k (by revert k; decide))⟩
end XKA
set_option maxHeartbeats 4000000 in
theorem rd_checkFile2 {g : xe_G} {m0 : Nat} {q : Nat → Nat} {z : Nat × Nat} {I : rI} {R : rR} {M : mi_H} {n : Nat} {f : Nat → Int32} {tx : List (List Nat)} {cN : Nat} {A : Nat → Nat} {s1 s2 s3 : Nat} (hR : RS g m0 q z I R M) (hi20 : I 20 = some 0) (hi25 : I 25 = some 0) (hi26 : I 26 = some 0) (hi9 : I 9 = some (nI s1)) (hi10 : I 10 = some (nI s2)) (hi11 : I 11 = some (nI s3)) (hF : FK n f I R) (hY : SYT tx cN A I R) (hK : KX I R) (hs1 : s1 < tx.length ∧ tx.getD s1 [] = ltx 25) (hs2 : s2 < tx.length ∧ tx.getD s2 [] = ltx 26) (hs3 : s3 < tx.length ∧ tx.getD s3 [] = ltx 27) : pt (mT g) 190 [.ref m0] M (fun v M' => (∃  (I' : rI) (R' : rR), (s_read f n = none) ∧ v = some (.int 1) ∧ RS g m0 q z I' R' M' ∧ eqI [3, 8, 20, 25, 26, 47, 48, 50, 51, 52, 53, 54, 55, 56, 57, 58, 59, 60, 61, 65, 66, 67, 68, 69, 70, 71, 72] I I' ∧ eqR [1, 2, 4, 5, 6, 7, 21, 22, 27, 28, 29, 30, 31, 32, 33, 34, 35, 36, 37, 38, 39, 40, 41, 42, 43, 44, 45, 46] R R' ∧ XKV f n I' R') ∨ (∃ (e9 : Nat × Nat) (I' : rI) (R' : rR), (s_read f n = some e9) ∧ v = some (.int 0) ∧ RS g m0 q z I' R' M' ∧ eqI [3, 8, 20, 25, 26, 47, 48, 50, 51, 52, 53, 54, 55, 56, 57, 58, 59, 60, 61, 65, 66, 67, 68, 69, 70, 71, 72] I I' ∧ eqR [1, 2, 4, 5, 6, 7, 21, 22, 27, 28, 29, 30, 31, 32, 33, 34, 35, 36, 37, 38, 39, 40, 41, 42, 43, 44, 45, 46] R R' ∧ I' 47 = some (nI e9.1) ∧ I' 48 = some (nI e9.2))) := by
  refine pt_in (b := mb_190 g) rfl (fun kf => ?_)
  show pl (mT g) kf (mb_190 g).2 (0, [(0, .ref m0)], [], M) _
  have hEI : eqI [3, 8, 20, 25, 26, 47, 48, 50, 51, 52, 53, 54, 55, 56, 57, 58, 59, 60, 61, 65, 66, 67, 68, 69, 70, 71, 72] I I := eqI.rf
  have hER : eqR [1, 2, 4, 5, 6, 7, 21, 22, 27, 28, 29, 30, 31, 32, 33, 34, 35, 36, 37, 38, 39, 40, 41, 42, 43, 44, 45, 46] R R := eqR.rf
  have hn := hF.1
  have LL : ∀ (kf : Nat), (∀ (N mj p1 pF pM pA : Nat) (E : List (Nat × Nat)) (tx : List (List Nat)) (cN : Nat) (A : Nat → Nat) (M1 : mi_H) (I1 : rI) (R1 : rR), (RS g m0 q z I1 R1 M1) → (eqI [3, 8, 20, 25, 26, 47, 48, 50, 51, 52, 53, 54, 55, 56, 57, 58, 59, 60, 61, 65, 66, 67, 68, 69, 70, 71, 72] I I1) → (eqR [1, 2, 4, 5, 6, 7, 21, 22, 27, 28, 29, 30, 31, 32, 33, 34, 35, 36, 37, 38, 39, 40, 41, 42, 43, 44, 45, 46] R R1) → (I1 51 = some 0) → (I1 52 = some (nI N)) → (I1 53 = some (nI mj)) → (I1 54 = some (nI p1)) → (I1 55 = some (nI pF)) → (I1 56 = some (nI pM)) → (I1 57 = some (nI pA)) → (I1 25 = some (nI 0)) → (I1 26 = some (nI 0)) → (I1 71 = some (nI 0)) → (I1 66 = some 0) → (I1 9 = some (nI s1)) → (I1 10 = some (nI s2)) → (I1 11 = some (nI s3)) → (FK n f I1 R1) → (SYT tx cN A I1 R1) → (RPV f n E tx N I1 R1) → (KX I1 R1) → (N = by2 f 8) → (mj = by2 f 6) → (s_whole f n = .inr (E, p1, pF, pM, pA)) → (s1 < tx.length ∧ tx.getD s1 [] = ltx 25) → (s2 < tx.length ∧ tx.getD s2 [] = ltx 26) → (s3 < tx.length ∧ tx.getD s3 [] = ltx 27) → (s_class f n p1 = .inr pF) → (s_mbs f n pF = .inr pM) → (s_mbs f n pM = .inr pA) → (s_attributes f n pA = .inr n) →  pl (mT g) kf (mb_190 g).2 (47, [(0, .ref m0)], [], M1) (fun v M' => (∃  (I' : rI) (R' : rR), (s_read f n = none) ∧ v = some (.int 1) ∧ RS g m0 q z I' R' M' ∧ eqI [3, 8, 20, 25, 26, 47, 48, 50, 51, 52, 53, 54, 55, 56, 57, 58, 59, 60, 61, 65, 66, 67, 68, 69, 70, 71, 72] I I' ∧ eqR [1, 2, 4, 5, 6, 7, 21, 22, 27, 28, 29, 30, 31, 32, 33, 34, 35, 36, 37, 38, 39, 40, 41, 42, 43, 44, 45, 46] R R' ∧ XKV f n I' R') ∨ (∃ (e9 : Nat × Nat) (I' : rI) (R' : rR), (s_read f n = some e9) ∧ v = some (.int 0) ∧ RS g m0 q z I' R' M' ∧ eqI [3, 8, 20, 25, 26, 47, 48, 50, 51, 52, 53, 54, 55, 56, 57, 58, 59, 60, 61, 65, 66, 67, 68, 69, 70, 71, 72] I I' ∧ eqR [1, 2, 4, 5, 6, 7, 21, 22, 27, 28, 29, 30, 31, 32, 33, 34, 35, 36, 37, 38, 39, 40, 41, 42, 43, 44, 45, 46] R R' ∧ I' 47 = some (nI e9.1) ∧ I' 48 = some (nI e9.2)))) ∧ (∀ (N mj bc k p1 pF pM pA : Nat) (E : List (Nat × Nat)) (tx : List (List Nat)) (cN : Nat) (A : Nat → Nat) (M1 : mi_H) (I1 : rI) (R1 : rR), (RS g m0 q z I1 R1 M1) → (eqI [3, 8, 20, 25, 26, 47, 48, 50, 51, 52, 53, 54, 55, 56, 57, 58, 59, 60, 61, 65, 66, 67, 68, 69, 70, 71, 72] I I1) → (eqR [1, 2, 4, 5, 6, 7, 21, 22, 27, 28, 29, 30, 31, 32, 33, 34, 35, 36, 37, 38, 39, 40, 41, 42, 43, 44, 45, 46] R R1) → (I1 51 = some 0) → (I1 52 = some (nI N)) → (I1 53 = some (nI mj)) → (I1 71 = some (nI bc)) → (FK n f I1 R1) → (SYT tx cN A I1 R1) → (RPV f n E tx N I1 R1) → (EP f n E) → (N < 65536) → (mj < 65536) → (bc < 65536) → (1 ≤ k ∧ k ≤ N) → (s_read f n = chkB f E bc (N - 1) 1) → (chkB f E bc (N - k) k = chkB f E bc (N - 1) 1) → (N = by2 f 8) → (mj = by2 f 6) → (s_whole f n = .inr (E, p1, pF, pM, pA)) →  pl (mT g) kf (mb_190 g).2 (94, [(0, .ref m0), (1, .int (nI k))], [], M1) (fun v M' => (∃  (I' : rI) (R' : rR), (s_read f n = none) ∧ v = some (.int 1) ∧ RS g m0 q z I' R' M' ∧ eqI [3, 8, 20, 25, 26, 47, 48, 50, 51, 52, 53, 54, 55, 56, 57, 58, 59, 60, 61, 65, 66, 67, 68, 69, 70, 71, 72] I I' ∧ eqR [1, 2, 4, 5, 6, 7, 21, 22, 27, 28, 29, 30, 31, 32, 33, 34, 35, 36, 37, 38, 39, 40, 41, 42, 43, 44, 45, 46] R R' ∧ XKV f n I' R') ∨ (∃ (e9 : Nat × Nat) (I' : rI) (R' : rR), (s_read f n = some e9) ∧ v = some (.int 0) ∧ RS g m0 q z I' R' M' ∧ eqI [3, 8, 20, 25, 26, 47, 48, 50, 51, 52, 53, 54, 55, 56, 57, 58, 59, 60, 61, 65, 66, 67, 68, 69, 70, 71, 72] I I' ∧ eqR [1, 2, 4, 5, 6, 7, 21, 22, 27, 28, 29, 30, 31, 32, 33, 34, 35, 36, 37, 38, 39, 40, 41, 42, 43, 44, 45, 46] R R' ∧ I' 47 = some (nI e9.1) ∧ I' 48 = some (nI e9.2)))) := by
    intro kf
    induction kf with
    | zero => exact ⟨by intros; exact pl_0, by intros; exact pl_0⟩
    | succ kf ih =>
      refine ⟨?_, ?_⟩
      · skip
        intro N mj p1 pF pM pA E tx cN A M1 I1 R1 hR1 hEI1 hER1 hl51 hl52 hl53 hl54 hl55 hl56 hl57 hl25 hl26 hl71 hl66 hl9 hl10 hl11 hF1 hY1 hP1 hK1 hN8 hm6 hwh hs1 hs2 hs3 hc hf hm ha
        have hn := hF1.1
        obtain ⟨hEP, hN0⟩ := EP_of (whole_in hwh)
        have hN : N < 65536 := by rw [hN8]; exact by2_lt _ _
        have hmj : mj < 65536 := by rw [hm6]; exact by2_lt _ _
        have hN1 : 1 ≤ N := by omega
        have hin := (s_class_in hc).1
        have hMF := MBS_of hf
        have hMM := MBS_of hm
        have hat := atE_at ha
        have hb1 := by2_lt f pF
        have hb2 := by2_lt f pM
        have hcf := by2_lt f p1
        refine ps_st1 (S' := (48, [(0, .ref m0)], [.ref m0], M1)) rfl rfl rfl ?_
        refine pl_call (a := [.ref m0]) (rest := []) rfl rfl rfl (rd_checkPool (n := n) (f := f) (tx := tx) (cN := cN) (A := A) (N := N) (mj := mj) (E := E) (s1 := s1) hR1 hl51 hl52 hl53 hl9 hF1 hY1 hP1 (hEP) (hN) (hmj) (hs1) (hN1)) (fun v1 M2 q3 => ?_)
        rcases q3 with q3 | q3
        · skip
          obtain ⟨I4, R5, q48_s, rfl, hR6, hI7, hX8⟩ := q3
          have hi9 := (hI7 51 (by decide)).trans hl51
          have hi10 := (hI7 52 (by decide)).trans hl52
          have hi11 := (hI7 53 (by decide)).trans hl53
          have hi12 := (hI7 54 (by decide)).trans hl54
          have hi13 := (hI7 55 (by decide)).trans hl55
          have hi14 := (hI7 56 (by decide)).trans hl56
          have hi15 := (hI7 57 (by decide)).trans hl57
          have hi16 := (hI7 25 (by decide)).trans hl25
          have hi17 := (hI7 26 (by decide)).trans hl26
          have hi18 := (hI7 71 (by decide)).trans hl71
          have hi19 := (hI7 66 (by decide)).trans hl66
          have hi20 := (hI7 9 (by decide)).trans hl9
          have hi21 := (hI7 10 (by decide)).trans hl10
          have hi22 := (hI7 11 (by decide)).trans hl11
          have hF_23 := hF1.mono (cIx hI7 (by decide)) (cRx hX8 (by decide))
          have hY_24 := hY1.mono (cIx hI7 (by decide)) (cRx hX8 (by decide))
          have hP_25 := hP1.mono (cIx hI7 (by decide)) (cRx hX8 (by decide))
          have hK_26 := hK1.mono (cIx hI7 (by decide)) (cRx hX8 (by decide))
          have hEI27 := hEI1.tr hI7 (by decide)
          have hER28 := hER1.tr hX8 (by decide)
          show pl _ _ _ (51, [(0, .ref m0)], [.int 1], M2) _
          have hCP := CP_of q48_s hP1.1
          refine ps_if (S1 := (75, [], [], M2)) (S2 := (54, [(0, .ref m0)], [], M2)) rfl rfl rfl (fun c_51 => ?_) (fun c_51 => ?_)
          · exact absurd (of_decide_eq_true c_51) (by decide)
          refine ps_st (S' := (55, [(0, .ref m0)], [.ref m0], M2)) rfl rfl rfl ?_
          refine pl_call (a := [.ref m0]) (rest := []) rfl rfl rfl (rd_checkClass (n := n) (f := f) (tx := tx) (cN := cN) (A := A) (N := N) (mj := mj) (E := E) (hA := p1) (s3 := s3) hR6 hi12 hi22 hi9 hi10 hi11 hF_23 hY_24 hP_25 (hEP) (hN) (hmj) (hs3) (hCP) (hin)) (fun v29 M30 q31 => ?_)
          rcases q31 with q31 | q31
          · skip
            obtain ⟨I32, R33, q55_s, rfl, hR34, hI35, hX36, hi37⟩ := q31
            have hi38 := (hI35 51 (by decide)).trans hi9
            have hi39 := (hI35 52 (by decide)).trans hi10
            have hi40 := (hI35 53 (by decide)).trans hi11
            have hi41 := (hI35 54 (by decide)).trans hi12
            have hi42 := (hI35 55 (by decide)).trans hi13
            have hi43 := (hI35 56 (by decide)).trans hi14
            have hi44 := (hI35 57 (by decide)).trans hi15
            have hi45 := (hI35 25 (by decide)).trans hi16
            have hi46 := (hI35 26 (by decide)).trans hi17
            have hi47 := (hI35 71 (by decide)).trans hi18
            have hi48 := (hI35 66 (by decide)).trans hi19
            have hi49 := (hI35 9 (by decide)).trans hi20
            have hi50 := (hI35 10 (by decide)).trans hi21
            have hi51 := (hI35 11 (by decide)).trans hi22
            have hF_52 := hF_23.mono (cIx hI35 (by decide)) (cRx hX36 (by decide))
            have hY_53 := hY_24.mono (cIx hI35 (by decide)) (cRx hX36 (by decide))
            have hP_54 := hP_25.mono (cIx hI35 (by decide)) (cRx hX36 (by decide))
            have hK_55 := hK_26.mono (cIx hI35 (by decide)) (cRx hX36 (by decide))
            have hEI56 := hEI27.tr hI35 (by decide)
            have hER57 := hER28.tr hX36 (by decide)
            show pl _ _ _ (58, [(0, .ref m0)], [.int 1], M30) _
            refine ps_if (S1 := (75, [], [], M30)) (S2 := (61, [(0, .ref m0)], [], M30)) rfl rfl rfl (fun c_58 => ?_) (fun c_58 => ?_)
            · exact absurd (of_decide_eq_true c_58) (by decide)
            refine ps_st (S' := (62, [(0, .ref m0)], [.ref m0], M30)) rfl rfl rfl ?_
            refine pl_call (a := [.ref m0]) (rest := []) rfl rfl rfl (rd_checkFields (n := n) (f := f) (tx := tx) (cN := cN) (A := A) (N := N) (mj := mj) (E := E) (pF := pF) (f0 := 0) (cf := (by2 f p1)) (B := (mbs f n (by2 f pF) (pF + 2))) (E1 := (fun i => mE f n ((mbs f n (by2 f pF) (pF + 2)).getD i 0))) hR34 hi38 hi39 hi40 hi37 hi42 hi45 hF_52 hY_53 hP_54 hK_55 (hEP) (hN) (hmj) (hMF) (by omega) (hcf)) (fun v58 M59 q60 => ?_)
            rcases q60 with q60 | q60
            · skip
              obtain ⟨I61, R62, q62_s, rfl, hR63, hI64, hX65, hi66⟩ := q60
              have hi67 := (hI64 51 (by decide)).trans hi38
              have hi68 := (hI64 52 (by decide)).trans hi39
              have hi69 := (hI64 53 (by decide)).trans hi40
              have hi70 := (hI64 54 (by decide)).trans hi41
              have hi71 := (hI64 55 (by decide)).trans hi42
              have hi72 := (hI64 56 (by decide)).trans hi43
              have hi73 := (hI64 57 (by decide)).trans hi44
              have hi74 := (hI64 26 (by decide)).trans hi46
              have hi75 := (hI64 71 (by decide)).trans hi47
              have hi76 := (hI64 66 (by decide)).trans hi48
              have hi77 := (hI64 9 (by decide)).trans hi49
              have hi78 := (hI64 10 (by decide)).trans hi50
              have hi79 := (hI64 11 (by decide)).trans hi51
              have hi80 := (hI64 58 (by decide)).trans hi37
              have hF_81 := hF_52.mono (cIx hI64 (by decide)) (cRx hX65 (by decide))
              have hY_82 := hY_53.mono (cIx hI64 (by decide)) (cRx hX65 (by decide))
              have hP_83 := hP_54.mono (cIx hI64 (by decide)) (cRx hX65 (by decide))
              have hK_84 := hK_55.mono (cIx hI64 (by decide)) (cRx hX65 (by decide))
              have hEI85 := hEI56.tr hI64 (by decide)
              have hER86 := hER57.tr hX65 (by decide)
              show pl _ _ _ (65, [(0, .ref m0)], [.int 1], M59) _
              refine ps_if (S1 := (75, [], [], M59)) (S2 := (68, [(0, .ref m0)], [], M59)) rfl rfl rfl (fun c_65 => ?_) (fun c_65 => ?_)
              · exact absurd (of_decide_eq_true c_65) (by decide)
              refine ps_st (S' := (69, [(0, .ref m0)], [.ref m0], M59)) rfl rfl rfl ?_
              refine pl_call (a := [.ref m0]) (rest := []) rfl rfl rfl (rd_checkMethods (n := n) (f := f) (tx := tx) (cN := cN) (A := A) (N := N) (mj := mj) (E := E) (pM := pM) (f0 := 0) (cf := (by2 f p1)) (si := s1) (sc := s2) (B := (mbs f n (by2 f pM) (pM + 2))) (E1 := (fun i => mE f n ((mbs f n (by2 f pM) (pM + 2)).getD i 0))) hR63 hi67 hi68 hi69 hi80 hi72 hi74 hi77 hi78 hF_81 hY_82 hP_83 hK_84 (hEP) (hN) (hmj) (hMM) (by omega) (hcf) (⟨hs1.1, hs1.2.trans lt_eq.2.1⟩) (⟨hs2.1, hs2.2.trans lt_eq.2.2.1⟩)) (fun v87 M88 q89 => ?_)
              rcases q89 with q89 | q89
              · skip
                obtain ⟨I90, R91, q69_s, rfl, hR92, hI93, hX94, hi95⟩ := q89
                have hi96 := (hI93 51 (by decide)).trans hi67
                have hi97 := (hI93 52 (by decide)).trans hi68
                have hi98 := (hI93 53 (by decide)).trans hi69
                have hi99 := (hI93 54 (by decide)).trans hi70
                have hi100 := (hI93 55 (by decide)).trans hi71
                have hi101 := (hI93 56 (by decide)).trans hi72
                have hi102 := (hI93 57 (by decide)).trans hi73
                have hi103 := (hI93 71 (by decide)).trans hi75
                have hi104 := (hI93 66 (by decide)).trans hi76
                have hi105 := (hI93 9 (by decide)).trans hi77
                have hi106 := (hI93 10 (by decide)).trans hi78
                have hi107 := (hI93 11 (by decide)).trans hi79
                have hi108 := (hI93 58 (by decide)).trans hi80
                have hi109 := (hI93 25 (by decide)).trans hi66
                have hF_110 := hF_81.mono (cIx hI93 (by decide)) (cRx hX94 (by decide))
                have hY_111 := hY_82.mono (cIx hI93 (by decide)) (cRx hX94 (by decide))
                have hP_112 := hP_83.mono (cIx hI93 (by decide)) (cRx hX94 (by decide))
                have hK_113 := hK_84.mono (cIx hI93 (by decide)) (cRx hX94 (by decide))
                have hEI114 := hEI85.tr hI93 (by decide)
                have hER115 := hER86.tr hX94 (by decide)
                show pl _ _ _ (72, [(0, .ref m0)], [.int 1], M88) _
                refine ps_if (S1 := (77, [(0, .ref m0)], [], M88)) (S2 := (75, [], [], M88)) rfl rfl rfl (fun c_72 => ?_) (fun c_72 => ?_)
                rotate_left
                · exact absurd (by decide) (of_decide_eq_false c_72)
                refine ps_st (S' := (78, [(0, .ref m0)], [.ref m0], M88)) rfl rfl rfl ?_
                refine ps_st (S' := (79, [(0, .ref m0)], [.ref m0, .ref m0], M88)) rfl rfl rfl ?_
                refine pr_int (j := 57) (S' := (82, [(0, .ref m0)], [.int (nI pA), .ref m0], M88)) rfl hR92 rfl hi102 rfl ?_
                refine ps_st (S' := (83, [(0, .ref m0)], [.int 4, .int (nI pA), .ref m0], M88)) rfl rfl rfl ?_
                refine ps_st (S' := (84, [(0, .ref m0)], [.int 0, .int 4, .int (nI pA), .ref m0], M88)) rfl rfl rfl ?_
                refine pl_call (a := [.ref m0, .int (nI pA), .int 4, .int 0]) (rest := []) rfl rfl rfl (rd_checkAttributes4 (n := n) (f := f) (tx := tx) (cN := cN) (A := A) (N := N) (mj := mj) (E := E) (p1 := pA) (e := n) (x := 0) (fl := (by2 f p1)) (nk0 := 0) hR92 hi96 hi97 hi98 hi108 hi103 hi104 hF_110 hY_111 hP_112 hK_113 (hEP) (hN) (hmj) (⟨hat.1, hat.2.1⟩) (hat.2.2) (hcf)) (fun v116 M117 q118 => ?_)
                rcases q118 with q118 | q118
                · skip
                  obtain ⟨e9119, I120, R121, q84_s, rfl, hR122, hI123, hX124, hi125, hi126⟩ := q118
                  have hi127 := (hI123 51 (by decide)).trans hi96
                  have hi128 := (hI123 52 (by decide)).trans hi97
                  have hi129 := (hI123 53 (by decide)).trans hi98
                  have hi130 := (hI123 54 (by decide)).trans hi99
                  have hi131 := (hI123 55 (by decide)).trans hi100
                  have hi132 := (hI123 56 (by decide)).trans hi101
                  have hi133 := (hI123 57 (by decide)).trans hi102
                  have hi134 := (hI123 9 (by decide)).trans hi105
                  have hi135 := (hI123 10 (by decide)).trans hi106
                  have hi136 := (hI123 11 (by decide)).trans hi107
                  have hi137 := (hI123 58 (by decide)).trans hi108
                  have hi138 := (hI123 25 (by decide)).trans hi109
                  have hi139 := (hI123 26 (by decide)).trans hi95
                  have hF_140 := hF_110.mono (cIx hI123 (by decide)) (cRx hX124 (by decide))
                  have hY_141 := hY_111.mono (cIx hI123 (by decide)) (cRx hX124 (by decide))
                  have hP_142 := hP_112.mono (cIx hI123 (by decide)) (cRx hX124 (by decide))
                  have hK_143 := hK_113.mono (cIx hI123 (by decide)) (cRx hX124 (by decide))
                  have hEI144 := hEI114.tr hI123 (by decide)
                  have hER145 := hER115.tr hX124 (by decide)
                  show pl _ _ _ (87, [(0, .ref m0)], [.int (-1)], M117) _
                  refine ps_if (S1 := (92, [(0, .ref m0)], [], M117)) (S2 := (90, [(0, .ref m0)], [], M117)) rfl rfl rfl (fun c_87 => ?_) (fun c_87 => ?_)
                  · exact absurd (of_decide_eq_true c_87) (by decide)
                  refine ps_st (S' := (91, [(0, .ref m0)], [.int 0], M117)) rfl rfl rfl ?_
                  exact ps_ret rfl rfl (Or.inr ⟨e9119, I120, R121, by
                      refine s_read_2 hwh ?_
                      rw [← hN8, ← hm6]
                      unfold s_chk
                      rw [q48_s]
                      dsimp only
                      obtain ⟨hh9, hh8⟩ := cc_none q55_s
                      rw [hh9]
                      dsimp only
                      rw [hh8]
                      dsimp only
                      rw [q62_s]
                      dsimp only
                      rw [q69_s]
                      dsimp only
                      rw [q84_s], rfl, hR122, hEI144, hER145, hi125, hi126⟩)
                · skip
                  obtain ⟨bc146, I147, R148, q84_s, rfl, hR149, hI150, hX151, hi152⟩ := q118
                  have hi153 := (hI150 51 (by decide)).trans hi96
                  have hi154 := (hI150 52 (by decide)).trans hi97
                  have hi155 := (hI150 53 (by decide)).trans hi98
                  have hi156 := (hI150 54 (by decide)).trans hi99
                  have hi157 := (hI150 55 (by decide)).trans hi100
                  have hi158 := (hI150 56 (by decide)).trans hi101
                  have hi159 := (hI150 57 (by decide)).trans hi102
                  have hi160 := (hI150 9 (by decide)).trans hi105
                  have hi161 := (hI150 10 (by decide)).trans hi106
                  have hi162 := (hI150 11 (by decide)).trans hi107
                  have hi163 := (hI150 58 (by decide)).trans hi108
                  have hi164 := (hI150 25 (by decide)).trans hi109
                  have hi165 := (hI150 26 (by decide)).trans hi95
                  have hF_166 := hF_110.mono (cIx hI150 (by decide)) (cRx hX151 (by decide))
                  have hY_167 := hY_111.mono (cIx hI150 (by decide)) (cRx hX151 (by decide))
                  have hP_168 := hP_112.mono (cIx hI150 (by decide)) (cRx hX151 (by decide))
                  have hK_169 := hK_113.mono (cIx hI150 (by decide)) (cRx hX151 (by decide))
                  have hEI170 := hEI114.tr hI150 (by decide)
                  have hER171 := hER115.tr hX151 (by decide)
                  show pl _ _ _ (87, [(0, .ref m0)], [.int (nI n)], M117) _
                  refine ps_if (S1 := (92, [(0, .ref m0)], [], M117)) (S2 := (90, [(0, .ref m0)], [], M117)) rfl rfl rfl (fun c_87 => ?_) (fun c_87 => ?_)
                  rotate_left
                  · exact absurd ((le_nI (p := 0) (n := n) (by decide) (by omega)).mpr (by omega)) (of_decide_eq_false c_87)
                  refine ps_st (S' := (93, [(0, .ref m0)], [.int 1], M117)) rfl rfl rfl ?_
                  refine ps_st (S' := (94, [(0, .ref m0), (1, .int 1)], [], M117)) rfl rfl rfl ?_
                  exact ih.2 (N) (mj) (bc146) (1) (p1) (pF) (pM) (pA) (E) (tx) (cN) (A) M117 I147 R148 hR149 hEI170 hER171 hi153 hi154 hi155 hi152 hF_166 hY_167 hP_168 (hEP) (hN) (hmj) (clS_bc q84_s) (⟨Nat.le_refl _, hN1⟩) (by
                      refine s_read_2 hwh ?_
                      rw [← hN8, ← hm6]
                      unfold s_chk
                      rw [q48_s]
                      dsimp only
                      obtain ⟨hh9, hh8⟩ := cc_none q55_s
                      rw [hh9]
                      dsimp only
                      rw [hh8]
                      dsimp only
                      rw [q62_s]
                      dsimp only
                      rw [q69_s]
                      dsimp only
                      rw [q84_s]) (rfl) (hN8) (hm6) (hwh)
              · skip
                obtain ⟨e9172, I173, R174, q69_s, rfl, hR175, hI176, hX177, hi178, hi179⟩ := q89
                have hi180 := (hI176 51 (by decide)).trans hi67
                have hi181 := (hI176 52 (by decide)).trans hi68
                have hi182 := (hI176 53 (by decide)).trans hi69
                have hi183 := (hI176 54 (by decide)).trans hi70
                have hi184 := (hI176 55 (by decide)).trans hi71
                have hi185 := (hI176 56 (by decide)).trans hi72
                have hi186 := (hI176 57 (by decide)).trans hi73
                have hi187 := (hI176 71 (by decide)).trans hi75
                have hi188 := (hI176 66 (by decide)).trans hi76
                have hi189 := (hI176 9 (by decide)).trans hi77
                have hi190 := (hI176 10 (by decide)).trans hi78
                have hi191 := (hI176 11 (by decide)).trans hi79
                have hi192 := (hI176 58 (by decide)).trans hi80
                have hi193 := (hI176 25 (by decide)).trans hi66
                have hF_194 := hF_81.mono (cIx hI176 (by decide)) (cRx hX177 (by decide))
                have hY_195 := hY_82.mono (cIx hI176 (by decide)) (cRx hX177 (by decide))
                have hP_196 := hP_83.mono (cIx hI176 (by decide)) (cRx hX177 (by decide))
                have hK_197 := hK_84.mono (cIx hI176 (by decide)) (cRx hX177 (by decide))
                have hEI198 := hEI85.tr hI176 (by decide)
                have hER199 := hER86.tr hX177 (by decide)
                show pl _ _ _ (72, [(0, .ref m0)], [.int 0], M88) _
                refine ps_if (S1 := (77, [(0, .ref m0)], [], M88)) (S2 := (75, [], [], M88)) rfl rfl rfl (fun c_72 => ?_) (fun c_72 => ?_)
                · exact absurd (of_decide_eq_true c_72) (by decide)
                refine ps_st (S' := (76, [], [.int 0], M88)) rfl rfl rfl ?_
                exact ps_ret rfl rfl (Or.inr ⟨e9172, I173, R174, by
                    refine s_read_2 hwh ?_
                    rw [← hN8, ← hm6]
                    unfold s_chk
                    rw [q48_s]
                    dsimp only
                    obtain ⟨hh9, hh8⟩ := cc_none q55_s
                    rw [hh9]
                    dsimp only
                    rw [hh8]
                    dsimp only
                    rw [q62_s]
                    dsimp only
                    rw [q69_s], rfl, hR175, hEI198, hER199, hi178, hi179⟩)
            · skip
              obtain ⟨e9200, I201, R202, q62_s, rfl, hR203, hI204, hX205, hi206, hi207⟩ := q60
              have hi208 := (hI204 51 (by decide)).trans hi38
              have hi209 := (hI204 52 (by decide)).trans hi39
              have hi210 := (hI204 53 (by decide)).trans hi40
              have hi211 := (hI204 54 (by decide)).trans hi41
              have hi212 := (hI204 55 (by decide)).trans hi42
              have hi213 := (hI204 56 (by decide)).trans hi43
              have hi214 := (hI204 57 (by decide)).trans hi44
              have hi215 := (hI204 26 (by decide)).trans hi46
              have hi216 := (hI204 71 (by decide)).trans hi47
              have hi217 := (hI204 66 (by decide)).trans hi48
              have hi218 := (hI204 9 (by decide)).trans hi49
              have hi219 := (hI204 10 (by decide)).trans hi50
              have hi220 := (hI204 11 (by decide)).trans hi51
              have hi221 := (hI204 58 (by decide)).trans hi37
              have hF_222 := hF_52.mono (cIx hI204 (by decide)) (cRx hX205 (by decide))
              have hY_223 := hY_53.mono (cIx hI204 (by decide)) (cRx hX205 (by decide))
              have hP_224 := hP_54.mono (cIx hI204 (by decide)) (cRx hX205 (by decide))
              have hK_225 := hK_55.mono (cIx hI204 (by decide)) (cRx hX205 (by decide))
              have hEI226 := hEI56.tr hI204 (by decide)
              have hER227 := hER57.tr hX205 (by decide)
              show pl _ _ _ (65, [(0, .ref m0)], [.int 0], M59) _
              refine ps_if (S1 := (75, [], [], M59)) (S2 := (68, [(0, .ref m0)], [], M59)) rfl rfl rfl (fun c_65 => ?_) (fun c_65 => ?_)
              rotate_left
              · exact absurd (by decide) (of_decide_eq_false c_65)
              refine ps_st (S' := (76, [], [.int 0], M59)) rfl rfl rfl ?_
              exact ps_ret rfl rfl (Or.inr ⟨e9200, I201, R202, by
                  refine s_read_2 hwh ?_
                  rw [← hN8, ← hm6]
                  unfold s_chk
                  rw [q48_s]
                  dsimp only
                  obtain ⟨hh9, hh8⟩ := cc_none q55_s
                  rw [hh9]
                  dsimp only
                  rw [hh8]
                  dsimp only
                  rw [q62_s], rfl, hR203, hEI226, hER227, hi206, hi207⟩)
          · skip
            obtain ⟨e228, I229, R230, q55_s, rfl, hR231, hI232, hX233, hi234, hi235⟩ := q31
            have hi236 := (hI232 51 (by decide)).trans hi9
            have hi237 := (hI232 52 (by decide)).trans hi10
            have hi238 := (hI232 53 (by decide)).trans hi11
            have hi239 := (hI232 54 (by decide)).trans hi12
            have hi240 := (hI232 55 (by decide)).trans hi13
            have hi241 := (hI232 56 (by decide)).trans hi14
            have hi242 := (hI232 57 (by decide)).trans hi15
            have hi243 := (hI232 25 (by decide)).trans hi16
            have hi244 := (hI232 26 (by decide)).trans hi17
            have hi245 := (hI232 71 (by decide)).trans hi18
            have hi246 := (hI232 66 (by decide)).trans hi19
            have hi247 := (hI232 9 (by decide)).trans hi20
            have hi248 := (hI232 10 (by decide)).trans hi21
            have hi249 := (hI232 11 (by decide)).trans hi22
            have hF_250 := hF_23.mono (cIx hI232 (by decide)) (cRx hX233 (by decide))
            have hY_251 := hY_24.mono (cIx hI232 (by decide)) (cRx hX233 (by decide))
            have hP_252 := hP_25.mono (cIx hI232 (by decide)) (cRx hX233 (by decide))
            have hK_253 := hK_26.mono (cIx hI232 (by decide)) (cRx hX233 (by decide))
            have hEI254 := hEI27.tr hI232 (by decide)
            have hER255 := hER28.tr hX233 (by decide)
            show pl _ _ _ (58, [(0, .ref m0)], [.int 0], M30) _
            refine ps_if (S1 := (75, [], [], M30)) (S2 := (61, [(0, .ref m0)], [], M30)) rfl rfl rfl (fun c_58 => ?_) (fun c_58 => ?_)
            rotate_left
            · exact absurd (by decide) (of_decide_eq_false c_58)
            refine ps_st (S' := (76, [], [.int 0], M30)) rfl rfl rfl ?_
            exact ps_ret rfl rfl (Or.inr ⟨e228, I229, R230, by
                refine s_read_2 hwh ?_
                rw [← hN8, ← hm6]
                unfold s_chk
                rw [q48_s]
                dsimp only
                exact cc_some q55_s, rfl, hR231, hEI254, hER255, hi234, hi235⟩)
        · skip
          obtain ⟨e256, I257, R258, q48_s, rfl, hR259, hI260, hX261, hi262, hi263⟩ := q3
          have hi264 := (hI260 51 (by decide)).trans hl51
          have hi265 := (hI260 52 (by decide)).trans hl52
          have hi266 := (hI260 53 (by decide)).trans hl53
          have hi267 := (hI260 54 (by decide)).trans hl54
          have hi268 := (hI260 55 (by decide)).trans hl55
          have hi269 := (hI260 56 (by decide)).trans hl56
          have hi270 := (hI260 57 (by decide)).trans hl57
          have hi271 := (hI260 25 (by decide)).trans hl25
          have hi272 := (hI260 26 (by decide)).trans hl26
          have hi273 := (hI260 71 (by decide)).trans hl71
          have hi274 := (hI260 66 (by decide)).trans hl66
          have hi275 := (hI260 9 (by decide)).trans hl9
          have hi276 := (hI260 10 (by decide)).trans hl10
          have hi277 := (hI260 11 (by decide)).trans hl11
          have hF_278 := hF1.mono (cIx hI260 (by decide)) (cRx hX261 (by decide))
          have hY_279 := hY1.mono (cIx hI260 (by decide)) (cRx hX261 (by decide))
          have hP_280 := hP1.mono (cIx hI260 (by decide)) (cRx hX261 (by decide))
          have hK_281 := hK1.mono (cIx hI260 (by decide)) (cRx hX261 (by decide))
          have hEI282 := hEI1.tr hI260 (by decide)
          have hER283 := hER1.tr hX261 (by decide)
          show pl _ _ _ (51, [(0, .ref m0)], [.int 0], M2) _
          refine ps_if (S1 := (75, [], [], M2)) (S2 := (54, [(0, .ref m0)], [], M2)) rfl rfl rfl (fun c_51 => ?_) (fun c_51 => ?_)
          rotate_left
          · exact absurd (by decide) (of_decide_eq_false c_51)
          refine ps_st (S' := (76, [], [.int 0], M2)) rfl rfl rfl ?_
          exact ps_ret rfl rfl (Or.inr ⟨e256, I257, R258, by
              refine s_read_2 hwh ?_
              rw [← hN8, ← hm6]
              unfold s_chk
              rw [q48_s], rfl, hR259, hEI282, hER283, hi262, hi263⟩)
      · skip
        intro N mj bc k p1 pF pM pA E tx cN A M1 I1 R1 hR1 hEI1 hER1 hl51 hl52 hl53 hl71 hF1 hY1 hP1 hEP hN hmj hbc hk hr hs hN8 hm6 hwh
        have hn := hF1.1
        refine ps_st1 (S' := (95, [(0, .ref m0), (1, .int (nI k))], [.int (nI k)], M1)) rfl rfl rfl ?_
        refine ps_st (S' := (96, [(0, .ref m0), (1, .int (nI k))], [.ref m0, .int (nI k)], M1)) rfl rfl rfl ?_
        refine pr_int (j := 52) (S' := (99, [(0, .ref m0), (1, .int (nI k))], [.int (nI N), .int (nI k)], M1)) rfl hR1 rfl hl52 rfl ?_
        refine ps_if2 (S1 := (157, [(0, .ref m0), (1, .int (nI k))], [], M1)) (S2 := (102, [(0, .ref m0), (1, .int (nI k))], [], M1)) rfl rfl rfl (fun c_99 => ?_) (fun c_99 => ?_)
        · have c_99 : (nI N) ≤ (nI k) := of_decide_eq_true c_99
          have n_99 : N ≤ k := (le_nI (p := N) (n := k) (by omega) (by omega)).mp c_99
          refine ps_st (S' := (158, [(0, .ref m0), (1, .int (nI k))], [.int 1], M1)) rfl rfl rfl ?_
          exact ps_ret rfl rfl (Or.inl ⟨I1, R1, by
              rw [hr, ← hs, show N - k = 0 by omega]
              rfl, rfl, hR1, hEI1, hER1, ⟨tx, cN, A, E, N, mj, p1, pF, pM, pA, hF1, hY1, hP1, hl51, hl52, hl53, hwh, hN8, hm6⟩⟩)
        · have c_99 : ¬ ((nI N) ≤ (nI k)) := of_decide_eq_false c_99
          have n_99 : ¬ (N ≤ k) := fun h9 => c_99 ((le_nI (p := N) (n := k) (by omega) (by omega)).mpr h9)
          refine ps_st (S' := (103, [(0, .ref m0), (1, .int (nI k))], [.ref m0], M1)) rfl rfl rfl ?_
          refine ps_st (S' := (104, [(0, .ref m0), (1, .int (nI k))], [.int (nI k), .ref m0], M1)) rfl rfl rfl ?_
          refine pl_call (a := [.ref m0, .int (nI k)]) (rest := []) rfl rfl rfl (rd_tag (n := n) (f := f) (tx := tx) (cN := cN) (A := A) (N := N) (mj := mj) (E := E) (k := k) hR1 hl51 hl52 hl53 hF1 hY1 hP1 (hEP) (hN) (hmj) (by omega)) (fun v284 M285 q286 => ?_)
          obtain ⟨rfl, rfl⟩ := q286
          show pl _ _ _ (107, [(0, .ref m0), (1, .int (nI k))], [.int (nI (tg f E k))], M1) _
          have htg_104 := tg_lt f E k
          refine ps_st (S' := (108, [(2, .int (nI (tg f E k))), (0, .ref m0), (1, .int (nI k))], [], M1)) rfl rfl rfl ?_
          refine ps_st (S' := (109, [(2, .int (nI (tg f E k))), (0, .ref m0), (1, .int (nI k))], [.int (nI (tg f E k))], M1)) rfl rfl rfl ?_
          refine ps_st (S' := (111, [(2, .int (nI (tg f E k))), (0, .ref m0), (1, .int (nI k))], [.int 17, .int (nI (tg f E k))], M1)) rfl rfl rfl ?_
          refine ps_if2 (S1 := (120, [(0, .ref m0), (1, .int (nI k))], [], M1)) (S2 := (114, [(2, .int (nI (tg f E k))), (0, .ref m0), (1, .int (nI k))], [], M1)) rfl rfl rfl (fun c_111 => ?_) (fun c_111 => ?_)
          · have c_111 : (nI (tg f E k)) = 17 := of_decide_eq_true c_111
            have n_111 : tg f E k = 17 := (eq_nI (p := tg f E k) (n := 17) (Nat.lt_trans (tg_lt _ _ _) (by decide)) (by decide)).mp c_111
            refine ps_st (S' := (121, [(0, .ref m0), (1, .int (nI k))], [.ref m0], M1)) rfl rfl rfl ?_
            refine ps_st (S' := (122, [(0, .ref m0), (1, .int (nI k))], [.int (nI k), .ref m0], M1)) rfl rfl rfl ?_
            refine ps_st (S' := (123, [(0, .ref m0), (1, .int (nI k))], [.int 1, .int (nI k), .ref m0], M1)) rfl rfl rfl ?_
            refine pl_call (a := [.ref m0, .int (nI k), .int 1]) (rest := []) rfl rfl rfl (rd_idx1 (n := n) (f := f) (tx := tx) (cN := cN) (A := A) (N := N) (mj := mj) (E := E) (k := k) hR1 hl51 hl52 hl53 hF1 hY1 hP1 (hEP) (hN) (hmj) (by omega)) (fun v287 M288 q289 => ?_)
            obtain ⟨rfl, rfl⟩ := q289
            show pl _ _ _ (126, [(0, .ref m0), (1, .int (nI k))], [.int (nI (fi f E k))], M1) _
            have hix_123 := fi_lt f E k
            refine ps_st (S' := (127, [(0, .ref m0), (1, .int (nI k))], [.ref m0, .int (nI (fi f E k))], M1)) rfl rfl rfl ?_
            refine pr_int (j := 71) (S' := (130, [(0, .ref m0), (1, .int (nI k))], [.int (nI bc), .int (nI (fi f E k))], M1)) rfl hR1 rfl hl71 rfl ?_
            refine ps_if2 (S1 := (151, [(0, .ref m0), (1, .int (nI k))], [], M1)) (S2 := (133, [(0, .ref m0), (1, .int (nI k))], [], M1)) rfl rfl rfl (fun c_130 => ?_) (fun c_130 => ?_)
            · have c_130 : (nI (fi f E k)) < (nI bc) := of_decide_eq_true c_130
              have n_130 : fi f E k < bc := (lt_nI (p := fi f E k) (n := bc) (Nat.lt_trans (fi_lt _ _ _) (by decide)) (by omega)).mp c_130
              refine ps_st (S' := (154, [(1, .int ((nI k) + 1)), (0, .ref m0)], [], M1)) rfl rfl rfl ?_
              rw [nI_add1 (p := k) (k := 1) (x := 1) rfl (by omega)]
              show pl _ _ _ (_, [(1, .int (nI (k + 1))), (0, .ref m0)], [], M1) _
              refine ps_st (S' := (94, [(0, .ref m0), (1, .int (nI (k + 1)))], [], M1)) rfl rfl rfl ?_
              exact ih.2 (N) (mj) (bc) (k + 1) (p1) (pF) (pM) (pA) (E) (tx) (cN) (A) M1 I1 R1 hR1 hEI1 hER1 hl51 hl52 hl53 hl71 hF1 hY1 hP1 (hEP) (hN) (hmj) (hbc) (by omega) (hr) (by
                  rw [← hs, chkB_st (k := k) (by omega), if_neg (by omega)]) (hN8) (hm6) (hwh)
            · have c_130 : ¬ ((nI (fi f E k)) < (nI bc)) := of_decide_eq_false c_130
              have n_130 : ¬ (fi f E k < bc) := fun h9 => c_130 ((lt_nI (p := fi f E k) (n := bc) (Nat.lt_trans (fi_lt _ _ _) (by decide)) (by omega)).mpr h9)
              obtain ⟨p, hk9, hb9⟩ := tg_lk (f := f) (E := E) (k := k) (by omega)
              have hep9 := hEP k p hk9
              refine ps_st (S' := (134, [(0, .ref m0), (1, .int (nI k))], [.ref m0], M1)) rfl rfl rfl ?_
              refine ps_st (S' := (136, [(0, .ref m0), (1, .int (nI k))], [.int 40, .ref m0], M1)) rfl rfl rfl ?_
              refine ps_st (S' := (137, [(0, .ref m0), (1, .int (nI k))], [.ref m0, .int 40, .ref m0], M1)) rfl rfl rfl ?_
              refine pr_ref (j := 21) (S' := (140, [(0, .ref m0), (1, .int (nI k))], [.ref (q 21), .int 40, .ref m0], M1)) rfl hR1 rfl rfl ?_
              refine ps_st (S' := (141, [(0, .ref m0), (1, .int (nI k))], [.ref m0, .ref (q 21), .int 40, .ref m0], M1)) rfl rfl rfl ?_
              refine pr_int (j := 51) (S' := (144, [(0, .ref m0), (1, .int (nI k))], [.int 0, .ref (q 21), .int 40, .ref m0], M1)) rfl hR1 rfl hl51 rfl ?_
              refine ps_st (S' := (145, [(0, .ref m0), (1, .int (nI k))], [.int (nI k), .int 0, .ref (q 21), .int 40, .ref m0], M1)) rfl rfl rfl ?_
              refine ps_st (S' := (146, [(0, .ref m0), (1, .int (nI k))], [.int (0 + (nI k)), .ref (q 21), .int 40, .ref m0], M1)) rfl rfl rfl ?_
              rw [show (0 : Int32) + (nI k) = (nI k) from Int32.zero_add _]
              show pl _ _ _ (_, [(0, .ref m0), (1, .int (nI k))], [.int (nI k), .ref (q 21), .int 40, .ref m0], M1) _
              refine pr_ld (a := 21) (j := k) (y := (nI p)) (S' := (147, [(0, .ref m0), (1, .int (nI k))], [.int (nI p), .int 40, .ref m0], M1)) rfl hR1 rfl (by omega) (fun _ => by rw [hP1.2.1 k (by omega), hk9]; rfl) rfl (fun i1_146 => ?_)
              refine pl_call (a := [.ref m0, .int 40, .int (nI p)]) (rest := []) rfl rfl rfl (rd_wrong (x1 := 40) (x2 := (nI p)) hR1) (fun v290 M291 q292 => ?_)
              obtain ⟨I293, R294, rfl, hR295, hI296, hX297, hi298, hi299⟩ := q292
              have hi300 := (hI296 51 (by decide)).trans hl51
              have hi301 := (hI296 52 (by decide)).trans hl52
              have hi302 := (hI296 53 (by decide)).trans hl53
              have hi303 := (hI296 71 (by decide)).trans hl71
              have hF_304 := hF1.mono (cIx hI296 (by decide)) (cRx hX297 (by decide))
              have hY_305 := hY1.mono (cIx hI296 (by decide)) (cRx hX297 (by decide))
              have hP_306 := hP1.mono (cIx hI296 (by decide)) (cRx hX297 (by decide))
              have hEI307 := hEI1.tr hI296 (by decide)
              have hER308 := hER1.tr hX297 (by decide)
              show pl _ _ _ (150, [(0, .ref m0), (1, .int (nI k))], [.int 0], M291) _
              exact ps_ret rfl rfl (Or.inr ⟨(40, p), I293, R294, by
                  rw [hr, ← hs, chkB_st (k := k) (by omega), if_pos (by omega), tp_is hk9], rfl, hR295, hEI307, hER308, hi298, hi299⟩)
          · have c_111 : ¬ ((nI (tg f E k)) = 17) := of_decide_eq_false c_111
            have n_111 : ¬ (tg f E k = 17) := fun h9 => c_111 ((eq_nI (p := tg f E k) (n := 17) (Nat.lt_trans (tg_lt _ _ _) (by decide)) (by decide)).mpr h9)
            refine ps_st (S' := (115, [(2, .int (nI (tg f E k))), (0, .ref m0), (1, .int (nI k))], [.int (nI (tg f E k))], M1)) rfl rfl rfl ?_
            refine ps_st (S' := (117, [(2, .int (nI (tg f E k))), (0, .ref m0), (1, .int (nI k))], [.int 18, .int (nI (tg f E k))], M1)) rfl rfl rfl ?_
            refine ps_if2 (S1 := (151, [(0, .ref m0), (1, .int (nI k))], [], M1)) (S2 := (120, [(0, .ref m0), (1, .int (nI k))], [], M1)) rfl rfl rfl (fun c_117 => ?_) (fun c_117 => ?_)
            · have c_117 : ¬ (nI (tg f E k)) = 18 := of_decide_eq_true c_117
              have n_117 : ¬ (tg f E k = 18) := fun h9 => c_117 ((eq_nI (p := tg f E k) (n := 18) (Nat.lt_trans (tg_lt _ _ _) (by decide)) (by decide)).mpr h9)
              refine ps_st (S' := (154, [(1, .int ((nI k) + 1)), (0, .ref m0)], [], M1)) rfl rfl rfl ?_
              rw [nI_add1 (p := k) (k := 1) (x := 1) rfl (by omega)]
              show pl _ _ _ (_, [(1, .int (nI (k + 1))), (0, .ref m0)], [], M1) _
              refine ps_st (S' := (94, [(0, .ref m0), (1, .int (nI (k + 1)))], [], M1)) rfl rfl rfl ?_
              exact ih.2 (N) (mj) (bc) (k + 1) (p1) (pF) (pM) (pA) (E) (tx) (cN) (A) M1 I1 R1 hR1 hEI1 hER1 hl51 hl52 hl53 hl71 hF1 hY1 hP1 (hEP) (hN) (hmj) (hbc) (by omega) (hr) (by
                  rw [← hs, chkB_st (k := k) (by omega), if_neg (by omega)]) (hN8) (hm6) (hwh)
            · have c_117 : ¬ (¬ (nI (tg f E k)) = 18) := of_decide_eq_false c_117
              have n_117 : tg f E k = 18 := (eq_nI (p := tg f E k) (n := 18) (Nat.lt_trans (tg_lt _ _ _) (by decide)) (by decide)).mp (Decidable.not_not.mp c_117)
              refine ps_st (S' := (121, [(0, .ref m0), (1, .int (nI k))], [.ref m0], M1)) rfl rfl rfl ?_
              refine ps_st (S' := (122, [(0, .ref m0), (1, .int (nI k))], [.int (nI k), .ref m0], M1)) rfl rfl rfl ?_
              refine ps_st (S' := (123, [(0, .ref m0), (1, .int (nI k))], [.int 1, .int (nI k), .ref m0], M1)) rfl rfl rfl ?_
              refine pl_call (a := [.ref m0, .int (nI k), .int 1]) (rest := []) rfl rfl rfl (rd_idx1 (n := n) (f := f) (tx := tx) (cN := cN) (A := A) (N := N) (mj := mj) (E := E) (k := k) hR1 hl51 hl52 hl53 hF1 hY1 hP1 (hEP) (hN) (hmj) (by omega)) (fun v309 M310 q311 => ?_)
              obtain ⟨rfl, rfl⟩ := q311
              show pl _ _ _ (126, [(0, .ref m0), (1, .int (nI k))], [.int (nI (fi f E k))], M1) _
              have hix_123 := fi_lt f E k
              refine ps_st (S' := (127, [(0, .ref m0), (1, .int (nI k))], [.ref m0, .int (nI (fi f E k))], M1)) rfl rfl rfl ?_
              refine pr_int (j := 71) (S' := (130, [(0, .ref m0), (1, .int (nI k))], [.int (nI bc), .int (nI (fi f E k))], M1)) rfl hR1 rfl hl71 rfl ?_
              refine ps_if2 (S1 := (151, [(0, .ref m0), (1, .int (nI k))], [], M1)) (S2 := (133, [(0, .ref m0), (1, .int (nI k))], [], M1)) rfl rfl rfl (fun c_130 => ?_) (fun c_130 => ?_)
              · have c_130 : (nI (fi f E k)) < (nI bc) := of_decide_eq_true c_130
                have n_130 : fi f E k < bc := (lt_nI (p := fi f E k) (n := bc) (Nat.lt_trans (fi_lt _ _ _) (by decide)) (by omega)).mp c_130
                refine ps_st (S' := (154, [(1, .int ((nI k) + 1)), (0, .ref m0)], [], M1)) rfl rfl rfl ?_
                rw [nI_add1 (p := k) (k := 1) (x := 1) rfl (by omega)]
                show pl _ _ _ (_, [(1, .int (nI (k + 1))), (0, .ref m0)], [], M1) _
                refine ps_st (S' := (94, [(0, .ref m0), (1, .int (nI (k + 1)))], [], M1)) rfl rfl rfl ?_
                exact ih.2 (N) (mj) (bc) (k + 1) (p1) (pF) (pM) (pA) (E) (tx) (cN) (A) M1 I1 R1 hR1 hEI1 hER1 hl51 hl52 hl53 hl71 hF1 hY1 hP1 (hEP) (hN) (hmj) (hbc) (by omega) (hr) (by
                    rw [← hs, chkB_st (k := k) (by omega), if_neg (by omega)]) (hN8) (hm6) (hwh)
              · have c_130 : ¬ ((nI (fi f E k)) < (nI bc)) := of_decide_eq_false c_130
                have n_130 : ¬ (fi f E k < bc) := fun h9 => c_130 ((lt_nI (p := fi f E k) (n := bc) (Nat.lt_trans (fi_lt _ _ _) (by decide)) (by omega)).mpr h9)
                obtain ⟨p, hk9, hb9⟩ := tg_lk (f := f) (E := E) (k := k) (by omega)
                have hep9 := hEP k p hk9
                refine ps_st (S' := (134, [(0, .ref m0), (1, .int (nI k))], [.ref m0], M1)) rfl rfl rfl ?_
                refine ps_st (S' := (136, [(0, .ref m0), (1, .int (nI k))], [.int 40, .ref m0], M1)) rfl rfl rfl ?_
                refine ps_st (S' := (137, [(0, .ref m0), (1, .int (nI k))], [.ref m0, .int 40, .ref m0], M1)) rfl rfl rfl ?_
                refine pr_ref (j := 21) (S' := (140, [(0, .ref m0), (1, .int (nI k))], [.ref (q 21), .int 40, .ref m0], M1)) rfl hR1 rfl rfl ?_
                refine ps_st (S' := (141, [(0, .ref m0), (1, .int (nI k))], [.ref m0, .ref (q 21), .int 40, .ref m0], M1)) rfl rfl rfl ?_
                refine pr_int (j := 51) (S' := (144, [(0, .ref m0), (1, .int (nI k))], [.int 0, .ref (q 21), .int 40, .ref m0], M1)) rfl hR1 rfl hl51 rfl ?_
                refine ps_st (S' := (145, [(0, .ref m0), (1, .int (nI k))], [.int (nI k), .int 0, .ref (q 21), .int 40, .ref m0], M1)) rfl rfl rfl ?_
                refine ps_st (S' := (146, [(0, .ref m0), (1, .int (nI k))], [.int (0 + (nI k)), .ref (q 21), .int 40, .ref m0], M1)) rfl rfl rfl ?_
                rw [show (0 : Int32) + (nI k) = (nI k) from Int32.zero_add _]
                show pl _ _ _ (_, [(0, .ref m0), (1, .int (nI k))], [.int (nI k), .ref (q 21), .int 40, .ref m0], M1) _
                refine pr_ld (a := 21) (j := k) (y := (nI p)) (S' := (147, [(0, .ref m0), (1, .int (nI k))], [.int (nI p), .int 40, .ref m0], M1)) rfl hR1 rfl (by omega) (fun _ => by rw [hP1.2.1 k (by omega), hk9]; rfl) rfl (fun i1_146 => ?_)
                refine pl_call (a := [.ref m0, .int 40, .int (nI p)]) (rest := []) rfl rfl rfl (rd_wrong (x1 := 40) (x2 := (nI p)) hR1) (fun v312 M313 q314 => ?_)
                obtain ⟨I315, R316, rfl, hR317, hI318, hX319, hi320, hi321⟩ := q314
                have hi322 := (hI318 51 (by decide)).trans hl51
                have hi323 := (hI318 52 (by decide)).trans hl52
                have hi324 := (hI318 53 (by decide)).trans hl53
                have hi325 := (hI318 71 (by decide)).trans hl71
                have hF_326 := hF1.mono (cIx hI318 (by decide)) (cRx hX319 (by decide))
                have hY_327 := hY1.mono (cIx hI318 (by decide)) (cRx hX319 (by decide))
                have hP_328 := hP1.mono (cIx hI318 (by decide)) (cRx hX319 (by decide))
                have hEI329 := hEI1.tr hI318 (by decide)
                have hER330 := hER1.tr hX319 (by decide)
                show pl _ _ _ (150, [(0, .ref m0), (1, .int (nI k))], [.int 0], M313) _
                exact ps_ret rfl rfl (Or.inr ⟨(40, p), I315, R316, by
                    rw [hr, ← hs, chkB_st (k := k) (by omega), if_pos (by omega), tp_is hk9], rfl, hR317, hEI329, hER330, hi320, hi321⟩)
  refine ps_st (S' := (1, [(0, .ref m0)], [.ref m0], M)) rfl rfl rfl ?_
  refine ps_st (S' := (2, [(0, .ref m0)], [.int (-1), .ref m0], M)) rfl rfl rfl ?_
  refine pr_put (j := 67) rfl hR rfl (fun M331 I332 hR333 hi334 hI335 => ?_)
  have hi336 := (hI335 20 (by decide)).trans hi20
  have hi337 := (hI335 25 (by decide)).trans hi25
  have hi338 := (hI335 26 (by decide)).trans hi26
  have hi339 := (hI335 9 (by decide)).trans hi9
  have hi340 := (hI335 10 (by decide)).trans hi10
  have hi341 := (hI335 11 (by decide)).trans hi11
  have hF_342 := hF.mono (pIx hI335 (by decide)) (fun _ _ => rfl)
  have hY_343 := hY.mono (pIx hI335 (by decide)) (fun _ _ => rfl)
  have hK_344 := hK.mono (pIx hI335 (by decide)) (fun _ _ => rfl)
  have hEI345 := hEI.put hI335 (by decide)
  show pl _ _ _ (5, [(0, .ref m0)], [], M331) _
  refine ps_st (S' := (6, [(0, .ref m0)], [.ref m0], M331)) rfl rfl rfl ?_
  refine ps_st (S' := (7, [(0, .ref m0)], [.int 0, .ref m0], M331)) rfl rfl rfl ?_
  refine pr_put (j := 68) rfl hR333 rfl (fun M346 I347 hR348 hi349 hI350 => ?_)
  have hi351 := (hI350 20 (by decide)).trans hi336
  have hi352 := (hI350 25 (by decide)).trans hi337
  have hi353 := (hI350 26 (by decide)).trans hi338
  have hi354 := (hI350 9 (by decide)).trans hi339
  have hi355 := (hI350 10 (by decide)).trans hi340
  have hi356 := (hI350 11 (by decide)).trans hi341
  have hi357 := (hI350 67 (by decide)).trans hi334
  have hF_358 := hF_342.mono (pIx hI350 (by decide)) (fun _ _ => rfl)
  have hY_359 := hY_343.mono (pIx hI350 (by decide)) (fun _ _ => rfl)
  have hK_360 := hK_344.mono (pIx hI350 (by decide)) (fun _ _ => rfl)
  have hEI361 := hEI345.put hI350 (by decide)
  show pl _ _ _ (10, [(0, .ref m0)], [], M346) _
  refine ps_st (S' := (11, [(0, .ref m0)], [.ref m0], M346)) rfl rfl rfl ?_
  refine ps_st (S' := (12, [(0, .ref m0)], [.int 0, .ref m0], M346)) rfl rfl rfl ?_
  refine pr_put (j := 69) rfl hR348 rfl (fun M362 I363 hR364 hi365 hI366 => ?_)
  have hi367 := (hI366 20 (by decide)).trans hi351
  have hi368 := (hI366 25 (by decide)).trans hi352
  have hi369 := (hI366 26 (by decide)).trans hi353
  have hi370 := (hI366 9 (by decide)).trans hi354
  have hi371 := (hI366 10 (by decide)).trans hi355
  have hi372 := (hI366 11 (by decide)).trans hi356
  have hi373 := (hI366 67 (by decide)).trans hi357
  have hi374 := (hI366 68 (by decide)).trans hi349
  have hF_375 := hF_358.mono (pIx hI366 (by decide)) (fun _ _ => rfl)
  have hY_376 := hY_359.mono (pIx hI366 (by decide)) (fun _ _ => rfl)
  have hK_377 := hK_360.mono (pIx hI366 (by decide)) (fun _ _ => rfl)
  have hEI378 := hEI361.put hI366 (by decide)
  show pl _ _ _ (15, [(0, .ref m0)], [], M362) _
  refine ps_st (S' := (16, [(0, .ref m0)], [.ref m0], M362)) rfl rfl rfl ?_
  refine ps_st (S' := (17, [(0, .ref m0)], [.int 0, .ref m0], M362)) rfl rfl rfl ?_
  refine pr_put (j := 65) rfl hR364 rfl (fun M379 I380 hR381 hi382 hI383 => ?_)
  have hi384 := (hI383 20 (by decide)).trans hi367
  have hi385 := (hI383 25 (by decide)).trans hi368
  have hi386 := (hI383 26 (by decide)).trans hi369
  have hi387 := (hI383 9 (by decide)).trans hi370
  have hi388 := (hI383 10 (by decide)).trans hi371
  have hi389 := (hI383 11 (by decide)).trans hi372
  have hi390 := (hI383 67 (by decide)).trans hi373
  have hi391 := (hI383 68 (by decide)).trans hi374
  have hi392 := (hI383 69 (by decide)).trans hi365
  have hF_393 := hF_375.mono (pIx hI383 (by decide)) (fun _ _ => rfl)
  have hY_394 := hY_376.mono (pIx hI383 (by decide)) (fun _ _ => rfl)
  have hK_395 := hK_377.mono (pIx hI383 (by decide)) (fun _ _ => rfl)
  have hEI396 := hEI378.put hI383 (by decide)
  show pl _ _ _ (20, [(0, .ref m0)], [], M379) _
  refine ps_st (S' := (21, [(0, .ref m0)], [.ref m0], M379)) rfl rfl rfl ?_
  refine ps_st (S' := (22, [(0, .ref m0)], [.int 0, .ref m0], M379)) rfl rfl rfl ?_
  refine pr_put (j := 66) rfl hR381 rfl (fun M397 I398 hR399 hi400 hI401 => ?_)
  have hi402 := (hI401 20 (by decide)).trans hi384
  have hi403 := (hI401 25 (by decide)).trans hi385
  have hi404 := (hI401 26 (by decide)).trans hi386
  have hi405 := (hI401 9 (by decide)).trans hi387
  have hi406 := (hI401 10 (by decide)).trans hi388
  have hi407 := (hI401 11 (by decide)).trans hi389
  have hi408 := (hI401 67 (by decide)).trans hi390
  have hi409 := (hI401 68 (by decide)).trans hi391
  have hi410 := (hI401 69 (by decide)).trans hi392
  have hi411 := (hI401 65 (by decide)).trans hi382
  have hF_412 := hF_393.mono (pIx hI401 (by decide)) (fun _ _ => rfl)
  have hY_413 := hY_394.mono (pIx hI401 (by decide)) (fun _ _ => rfl)
  have hK_414 := hK_395.mono (pIx hI401 (by decide)) (fun _ _ => rfl)
  have hEI415 := hEI396.put hI401 (by decide)
  show pl _ _ _ (25, [(0, .ref m0)], [], M397) _
  refine ps_st (S' := (26, [(0, .ref m0)], [.ref m0], M397)) rfl rfl rfl ?_
  refine ps_st (S' := (27, [(0, .ref m0)], [.int (-1), .ref m0], M397)) rfl rfl rfl ?_
  refine pr_put (j := 70) rfl hR399 rfl (fun M416 I417 hR418 hi419 hI420 => ?_)
  have hi421 := (hI420 20 (by decide)).trans hi402
  have hi422 := (hI420 25 (by decide)).trans hi403
  have hi423 := (hI420 26 (by decide)).trans hi404
  have hi424 := (hI420 9 (by decide)).trans hi405
  have hi425 := (hI420 10 (by decide)).trans hi406
  have hi426 := (hI420 11 (by decide)).trans hi407
  have hi427 := (hI420 67 (by decide)).trans hi408
  have hi428 := (hI420 68 (by decide)).trans hi409
  have hi429 := (hI420 69 (by decide)).trans hi410
  have hi430 := (hI420 65 (by decide)).trans hi411
  have hi431 := (hI420 66 (by decide)).trans hi400
  have hF_432 := hF_412.mono (pIx hI420 (by decide)) (fun _ _ => rfl)
  have hY_433 := hY_413.mono (pIx hI420 (by decide)) (fun _ _ => rfl)
  have hK_434 := hK_414.mono (pIx hI420 (by decide)) (fun _ _ => rfl)
  have hEI435 := hEI415.put hI420 (by decide)
  show pl _ _ _ (30, [(0, .ref m0)], [], M416) _
  refine ps_st (S' := (31, [(0, .ref m0)], [.ref m0], M416)) rfl rfl rfl ?_
  refine ps_st (S' := (32, [(0, .ref m0)], [.int 0, .ref m0], M416)) rfl rfl rfl ?_
  refine pr_put (j := 71) rfl hR418 rfl (fun M436 I437 hR438 hi439 hI440 => ?_)
  have hi441 := (hI440 20 (by decide)).trans hi421
  have hi442 := (hI440 25 (by decide)).trans hi422
  have hi443 := (hI440 26 (by decide)).trans hi423
  have hi444 := (hI440 9 (by decide)).trans hi424
  have hi445 := (hI440 10 (by decide)).trans hi425
  have hi446 := (hI440 11 (by decide)).trans hi426
  have hi447 := (hI440 67 (by decide)).trans hi427
  have hi448 := (hI440 68 (by decide)).trans hi428
  have hi449 := (hI440 69 (by decide)).trans hi429
  have hi450 := (hI440 65 (by decide)).trans hi430
  have hi451 := (hI440 66 (by decide)).trans hi431
  have hi452 := (hI440 70 (by decide)).trans hi419
  have hF_453 := hF_432.mono (pIx hI440 (by decide)) (fun _ _ => rfl)
  have hY_454 := hY_433.mono (pIx hI440 (by decide)) (fun _ _ => rfl)
  have hK_455 := hK_434.mono (pIx hI440 (by decide)) (fun _ _ => rfl)
  have hEI456 := hEI435.put hI440 (by decide)
  show pl _ _ _ (35, [(0, .ref m0)], [], M436) _
  refine ps_st (S' := (36, [(0, .ref m0)], [.ref m0], M436)) rfl rfl rfl ?_
  refine ps_st (S' := (37, [(0, .ref m0)], [.int (-1), .ref m0], M436)) rfl rfl rfl ?_
  refine pr_put (j := 72) rfl hR438 rfl (fun M457 I458 hR459 hi460 hI461 => ?_)
  have hi462 := (hI461 20 (by decide)).trans hi441
  have hi463 := (hI461 25 (by decide)).trans hi442
  have hi464 := (hI461 26 (by decide)).trans hi443
  have hi465 := (hI461 9 (by decide)).trans hi444
  have hi466 := (hI461 10 (by decide)).trans hi445
  have hi467 := (hI461 11 (by decide)).trans hi446
  have hi468 := (hI461 67 (by decide)).trans hi447
  have hi469 := (hI461 68 (by decide)).trans hi448
  have hi470 := (hI461 69 (by decide)).trans hi449
  have hi471 := (hI461 65 (by decide)).trans hi450
  have hi472 := (hI461 66 (by decide)).trans hi451
  have hi473 := (hI461 70 (by decide)).trans hi452
  have hi474 := (hI461 71 (by decide)).trans hi439
  have hF_475 := hF_453.mono (pIx hI461 (by decide)) (fun _ _ => rfl)
  have hY_476 := hY_454.mono (pIx hI461 (by decide)) (fun _ _ => rfl)
  have hK_477 := hK_455.mono (pIx hI461 (by decide)) (fun _ _ => rfl)
  have hEI478 := hEI456.put hI461 (by decide)
  show pl _ _ _ (40, [(0, .ref m0)], [], M457) _
  refine ps_st (S' := (41, [(0, .ref m0)], [.ref m0], M457)) rfl rfl rfl ?_
  refine pl_call (a := [.ref m0]) (rest := []) rfl rfl rfl (rd_readFile (n := n) (f := f) (tx := tx) (cN := cN) (A := A) hR459 hi462 hF_475 hY_476) (fun v479 M480 q481 => ?_)
  rcases q481 with q481 | q481
  · skip
    obtain ⟨E482, p1483, pF484, pM485, pA486, tx1487, cN1488, A1489, I490, R491, q41_s, q41_k, q41_c, q41_f, q41_m, q41_a, rfl, hR492, hI493, hX494, hi495, hi496, hi497, hi498, hi499, hi500, hi501, hY_502, hP_503⟩ := q481
    have hi504 := (hI493 25 (by decide)).trans hi463
    have hi505 := (hI493 26 (by decide)).trans hi464
    have hi506 := (hI493 9 (by decide)).trans hi465
    have hi507 := (hI493 10 (by decide)).trans hi466
    have hi508 := (hI493 11 (by decide)).trans hi467
    have hi509 := (hI493 67 (by decide)).trans hi468
    have hi510 := (hI493 68 (by decide)).trans hi469
    have hi511 := (hI493 69 (by decide)).trans hi470
    have hi512 := (hI493 65 (by decide)).trans hi471
    have hi513 := (hI493 66 (by decide)).trans hi472
    have hi514 := (hI493 70 (by decide)).trans hi473
    have hi515 := (hI493 71 (by decide)).trans hi474
    have hi516 := (hI493 72 (by decide)).trans hi460
    have hF_517 := hF_475.mono (cIx hI493 (by decide)) (cRx hX494 (by decide))
    have hK_518 := hK_477.mono (cIx hI493 (by decide)) (cRx hX494 (by decide))
    have hEI519 := hEI478.tr hI493 (by decide)
    have hER520 := hER.tr hX494 (by decide)
    show pl _ _ _ (44, [(0, .ref m0)], [.int 1], M480) _
    refine ps_if (S1 := (75, [], [], M480)) (S2 := (47, [(0, .ref m0)], [], M480)) rfl rfl rfl (fun c_44 => ?_) (fun c_44 => ?_)
    · exact absurd (of_decide_eq_true c_44) (by decide)
    exact (LL kf).1 (by2 f 8) (by2 f 6) (p1483) (pF484) (pM485) (pA486) (E482) (tx1487) (cN1488) (A1489) M480 I490 R491 hR492 hEI519 hER520 hi495 hi496 hi497 hi498 hi499 hi500 hi501 hi504 hi505 hi515 hi513 hi506 hi507 hi508 hF_517 hY_502 hP_503 hK_518 (rfl) (rfl) (q41_s) (⟨Nat.lt_of_lt_of_le hs1.1 q41_k.1, (q41_k.2 _ hs1.1).trans hs1.2⟩) (⟨Nat.lt_of_lt_of_le hs2.1 q41_k.1, (q41_k.2 _ hs2.1).trans hs2.2⟩) (⟨Nat.lt_of_lt_of_le hs3.1 q41_k.1, (q41_k.2 _ hs3.1).trans hs3.2⟩) (q41_c) (q41_f) (q41_m) (q41_a)
  · skip
    obtain ⟨e521, I522, R523, q41_s, rfl, hR524, hI525, hX526, hi527, hi528⟩ := q481
    have hi529 := (hI525 25 (by decide)).trans hi463
    have hi530 := (hI525 26 (by decide)).trans hi464
    have hi531 := (hI525 9 (by decide)).trans hi465
    have hi532 := (hI525 10 (by decide)).trans hi466
    have hi533 := (hI525 11 (by decide)).trans hi467
    have hi534 := (hI525 67 (by decide)).trans hi468
    have hi535 := (hI525 68 (by decide)).trans hi469
    have hi536 := (hI525 69 (by decide)).trans hi470
    have hi537 := (hI525 65 (by decide)).trans hi471
    have hi538 := (hI525 66 (by decide)).trans hi472
    have hi539 := (hI525 70 (by decide)).trans hi473
    have hi540 := (hI525 71 (by decide)).trans hi474
    have hi541 := (hI525 72 (by decide)).trans hi460
    have hF_542 := hF_475.mono (cIx hI525 (by decide)) (cRx hX526 (by decide))
    have hK_543 := hK_477.mono (cIx hI525 (by decide)) (cRx hX526 (by decide))
    have hEI544 := hEI478.tr hI525 (by decide)
    have hER545 := hER.tr hX526 (by decide)
    show pl _ _ _ (44, [(0, .ref m0)], [.int 0], M480) _
    refine ps_if (S1 := (75, [], [], M480)) (S2 := (47, [(0, .ref m0)], [], M480)) rfl rfl rfl (fun c_44 => ?_) (fun c_44 => ?_)
    rotate_left
    · exact absurd (by decide) (of_decide_eq_false c_44)
    refine ps_st (S' := (76, [], [.int 0], M480)) rfl rfl rfl ?_
    exact ps_ret rfl rfl (Or.inr ⟨e521, I522, R523, by
        exact s_read_1 q41_s, rfl, hR524, hEI544, hER545, hi527, hi528⟩)
set_option maxHeartbeats 4000000 in
theorem rd_parse13b {g : xe_G} {m0 : Nat} {q : Nat → Nat} {z : Nat × Nat} {I : rI} {R : rR} {M : mi_H} {n : Nat} {f : Nat → Int32} (hR : RS g m0 q z I R M) (hi49 : I 49 = some 0) (hB : BX 13 n f I R) (hK : KX I R) (hn : n ≤ 65540) : pt (mT g) 230 [.ref m0, .ref (q 13), .int (nI n)] M (fun v M' => (∃  (I' : rI) (R' : rR), (s_read f n = none) ∧ v = some (.int 1) ∧ RS g m0 q z I' R' M' ∧ eqI [3, 8, 9, 10, 11, 16, 20, 25, 26, 47, 48, 50, 51, 52, 53, 54, 55, 56, 57, 58, 59, 60, 61, 65, 66, 67, 68, 69, 70, 71, 72] I I' ∧ eqR [1, 2, 4, 5, 6, 7, 12, 21, 22, 27, 28, 29, 30, 31, 32, 33, 34, 35, 36, 37, 38, 39, 40, 41, 42, 43, 44, 45, 46] R R' ∧ XKV f n I' R') ∨ (∃ (e9 : Nat × Nat) (I' : rI) (R' : rR), (s_read f n = some e9) ∧ v = some (.int 0) ∧ RS g m0 q z I' R' M' ∧ eqI [3, 8, 9, 10, 11, 16, 20, 25, 26, 47, 48, 50, 51, 52, 53, 54, 55, 56, 57, 58, 59, 60, 61, 65, 66, 67, 68, 69, 70, 71, 72] I I' ∧ eqR [1, 2, 4, 5, 6, 7, 12, 21, 22, 27, 28, 29, 30, 31, 32, 33, 34, 35, 36, 37, 38, 39, 40, 41, 42, 43, 44, 45, 46] R R' ∧ I' 47 = some (nI e9.1) ∧ I' 48 = some (nI e9.2))) := by
  refine pt_in (b := mb_230 g) rfl (fun kf => ?_)
  show pl (mT g) kf (mb_230 g).2 (0, [(0, .ref m0), (1, .ref (q 13)), (2, .int (nI n))], [], M) _
  have hEI : eqI [3, 8, 9, 10, 11, 16, 20, 25, 26, 47, 48, 50, 51, 52, 53, 54, 55, 56, 57, 58, 59, 60, 61, 65, 66, 67, 68, 69, 70, 71, 72] I I := eqI.rf
  have hER : eqR [1, 2, 4, 5, 6, 7, 12, 21, 22, 27, 28, 29, 30, 31, 32, 33, 34, 35, 36, 37, 38, 39, 40, 41, 42, 43, 44, 45, 46] R R := eqR.rf
  have LL : ∀ (kf : Nat), (∀ (i : Nat) (tx : List (List Nat)) (cN : Nat) (A : Nat → Nat) (s1 s2 s3 : Nat) (M1 : mi_H) (I1 : rI) (R1 : rR), (RS g m0 q z I1 R1 M1) → (eqI [3, 8, 9, 10, 11, 16, 20, 25, 26, 47, 48, 50, 51, 52, 53, 54, 55, 56, 57, 58, 59, 60, 61, 65, 66, 67, 68, 69, 70, 71, 72] I I1) → (eqR [1, 2, 4, 5, 6, 7, 12, 21, 22, 27, 28, 29, 30, 31, 32, 33, 34, 35, 36, 37, 38, 39, 40, 41, 42, 43, 44, 45, 46] R R1) → (I1 49 = some 0) → (I1 16 = some (nI n)) → (I1 20 = some 0) → (I1 25 = some 0) → (I1 26 = some 0) → (I1 9 = some (nI s1)) → (I1 10 = some (nI s2)) → (I1 11 = some (nI s3)) → (BX 13 n f I1 R1) → (KX I1 R1) → (SYT tx cN A I1 R1) → (BX 12 i f I1 R1) → (i ≤ n) → (s1 < tx.length ∧ tx.getD s1 [] = ltx 25) → (s2 < tx.length ∧ tx.getD s2 [] = ltx 26) → (s3 < tx.length ∧ tx.getD s3 [] = ltx 27) →  pl (mT g) kf (mb_230 g).2 (11, [(0, .ref m0), (1, .ref (q 13)), (2, .int (nI n)), (3, .int (nI i))], [], M1) (fun v M' => (∃  (I' : rI) (R' : rR), (s_read f n = none) ∧ v = some (.int 1) ∧ RS g m0 q z I' R' M' ∧ eqI [3, 8, 9, 10, 11, 16, 20, 25, 26, 47, 48, 50, 51, 52, 53, 54, 55, 56, 57, 58, 59, 60, 61, 65, 66, 67, 68, 69, 70, 71, 72] I I' ∧ eqR [1, 2, 4, 5, 6, 7, 12, 21, 22, 27, 28, 29, 30, 31, 32, 33, 34, 35, 36, 37, 38, 39, 40, 41, 42, 43, 44, 45, 46] R R' ∧ XKV f n I' R') ∨ (∃ (e9 : Nat × Nat) (I' : rI) (R' : rR), (s_read f n = some e9) ∧ v = some (.int 0) ∧ RS g m0 q z I' R' M' ∧ eqI [3, 8, 9, 10, 11, 16, 20, 25, 26, 47, 48, 50, 51, 52, 53, 54, 55, 56, 57, 58, 59, 60, 61, 65, 66, 67, 68, 69, 70, 71, 72] I I' ∧ eqR [1, 2, 4, 5, 6, 7, 12, 21, 22, 27, 28, 29, 30, 31, 32, 33, 34, 35, 36, 37, 38, 39, 40, 41, 42, 43, 44, 45, 46] R R' ∧ I' 47 = some (nI e9.1) ∧ I' 48 = some (nI e9.2)))) := by
    intro kf
    induction kf with
    | zero => exact (by intros; exact pl_0)
    | succ kf ih =>
      intro i tx cN A s1 s2 s3 M1 I1 R1 hR1 hEI1 hER1 hl49 hl16 hl20 hl25 hl26 hl9 hl10 hl11 hB1 hK1 hY1 hC1 hi hs1 hs2 hs3
      refine ps_st1 (S' := (12, [(0, .ref m0), (1, .ref (q 13)), (2, .int (nI n)), (3, .int (nI i))], [.int (nI i)], M1)) rfl rfl rfl ?_
      refine ps_st (S' := (13, [(0, .ref m0), (1, .ref (q 13)), (2, .int (nI n)), (3, .int (nI i))], [.int (nI n), .int (nI i)], M1)) rfl rfl rfl ?_
      refine ps_if2 (S1 := (31, [(0, .ref m0), (1, .ref (q 13)), (2, .int (nI n)), (3, .int (nI i))], [], M1)) (S2 := (16, [(0, .ref m0), (1, .ref (q 13)), (2, .int (nI n)), (3, .int (nI i))], [], M1)) rfl rfl rfl (fun c_13 => ?_) (fun c_13 => ?_)
      · have c_13 : (nI n) ≤ (nI i) := of_decide_eq_true c_13
        have n_13 : n ≤ i := (le_nI (p := n) (n := i) (by omega) (by omega)).mp c_13
        refine ps_st (S' := (32, [(0, .ref m0), (1, .ref (q 13)), (2, .int (nI n)), (3, .int (nI i))], [.ref m0], M1)) rfl rfl rfl ?_
        have hF9 : FK n f I1 R1 := ⟨hn, hl49, hl16, fun i9 h9 => (hC1 i9 (by omega)).1⟩
        refine pl_call (a := [.ref m0]) (rest := []) rfl rfl rfl (rd_checkFile2 (n := n) (f := f) (tx := tx) (cN := cN) (A := A) (s1 := s1) (s2 := s2) (s3 := s3) hR1 hl20 hl25 hl26 hl9 hl10 hl11 hF9 hY1 hK1 (hs1) (hs2) (hs3)) (fun v1 M2 q3 => ?_)
        rcases q3 with q3 | q3
        · skip
          obtain ⟨I4, R5, q32_s, rfl, hR6, hI7, hX8, hX_9⟩ := q3
          have hi10 := (hI7 49 (by decide)).trans hl49
          have hi11 := (hI7 16 (by decide)).trans hl16
          have hi12 := (hI7 9 (by decide)).trans hl9
          have hi13 := (hI7 10 (by decide)).trans hl10
          have hi14 := (hI7 11 (by decide)).trans hl11
          have hB_15 := hB1.mono (cIx hI7 (by decide)) (cRx hX8 (by decide))
          have hK_16 := hK1.mono (cIx hI7 (by decide)) (cRx hX8 (by decide))
          have hC_17 := hC1.mono (cIx hI7 (by decide)) (cRx hX8 (by decide))
          have hF_18 := hF9.mono (cIx hI7 (by decide)) (cRx hX8 (by decide))
          have hEI19 := hEI1.tr hI7 (by decide)
          have hER20 := hER1.tr hX8 (by decide)
          show pl _ _ _ (35, [(0, .ref m0), (1, .ref (q 13)), (2, .int (nI n)), (3, .int (nI i))], [.int 1], M2) _
          exact ps_ret rfl rfl (Or.inl ⟨I4, R5, q32_s, rfl, hR6, hEI19, hER20, hX_9⟩)
        · skip
          obtain ⟨e921, I22, R23, q32_s, rfl, hR24, hI25, hX26, hi27, hi28⟩ := q3
          have hi29 := (hI25 49 (by decide)).trans hl49
          have hi30 := (hI25 16 (by decide)).trans hl16
          have hi31 := (hI25 9 (by decide)).trans hl9
          have hi32 := (hI25 10 (by decide)).trans hl10
          have hi33 := (hI25 11 (by decide)).trans hl11
          have hB_34 := hB1.mono (cIx hI25 (by decide)) (cRx hX26 (by decide))
          have hK_35 := hK1.mono (cIx hI25 (by decide)) (cRx hX26 (by decide))
          have hC_36 := hC1.mono (cIx hI25 (by decide)) (cRx hX26 (by decide))
          have hF_37 := hF9.mono (cIx hI25 (by decide)) (cRx hX26 (by decide))
          have hEI38 := hEI1.tr hI25 (by decide)
          have hER39 := hER1.tr hX26 (by decide)
          show pl _ _ _ (35, [(0, .ref m0), (1, .ref (q 13)), (2, .int (nI n)), (3, .int (nI i))], [.int 0], M2) _
          exact ps_ret rfl rfl (Or.inr ⟨e921, I22, R23, q32_s, rfl, hR24, hEI38, hER39, hi27, hi28⟩)
      · have c_13 : ¬ ((nI n) ≤ (nI i)) := of_decide_eq_false c_13
        have n_13 : ¬ (n ≤ i) := fun h9 => c_13 ((le_nI (p := n) (n := i) (by omega) (by omega)).mpr h9)
        refine ps_st (S' := (17, [(0, .ref m0), (1, .ref (q 13)), (2, .int (nI n)), (3, .int (nI i))], [.ref m0], M1)) rfl rfl rfl ?_
        refine pr_ref (j := 12) (S' := (20, [(0, .ref m0), (1, .ref (q 13)), (2, .int (nI n)), (3, .int (nI i))], [.ref (q 12)], M1)) rfl hR1 rfl rfl ?_
        refine ps_st (S' := (21, [(0, .ref m0), (1, .ref (q 13)), (2, .int (nI n)), (3, .int (nI i))], [.int (nI i), .ref (q 12)], M1)) rfl rfl rfl ?_
        refine ps_st (S' := (22, [(0, .ref m0), (1, .ref (q 13)), (2, .int (nI n)), (3, .int (nI i))], [.ref (q 13), .int (nI i), .ref (q 12)], M1)) rfl rfl rfl ?_
        refine ps_st (S' := (23, [(0, .ref m0), (1, .ref (q 13)), (2, .int (nI n)), (3, .int (nI i))], [.int (nI i), .ref (q 13), .int (nI i), .ref (q 12)], M1)) rfl rfl rfl ?_
        refine pr_ld (a := 13) (j := i) (y := (f i)) (S' := (24, [(0, .ref m0), (1, .ref (q 13)), (2, .int (nI n)), (3, .int (nI i))], [.int (f i), .int (nI i), .ref (q 12)], M1)) rfl hR1 rfl (by omega) (fun _ => (hB1 i (by omega)).1) rfl (fun i1_23 => ?_)
        refine pr_st (a := 12) (j := i) rfl hR1 rfl (by omega) (fun M40 R41 i1_24 hR42 hS43 => ?_)
        have hB_44 := hB1.mono (fun _ _ => rfl) (rRx hS43 (by decide))
        have hK_45 := hK1.mono (fun _ _ => rfl) (rRx hS43 (by decide))
        have hY_46 := hY1.mono (fun _ _ => rfl) (rRx hS43 (by decide))
        have hER47 := hER1.st hS43 (by decide)
        show pl _ _ _ (25, [(0, .ref m0), (1, .ref (q 13)), (2, .int (nI n)), (3, .int (nI i))], [], M40) _
        have hC_48 : BX 12 (i + 1) f I1 R41 := BX.st hC1 hS43 (hB1 i (by omega)).2 rfl
        refine ps_st (S' := (28, [(3, .int ((nI i) + 1)), (0, .ref m0), (1, .ref (q 13)), (2, .int (nI n))], [], M40)) rfl rfl rfl ?_
        rw [nI_add1 (p := i) (k := 1) (x := 1) rfl (by omega)]
        show pl _ _ _ (_, [(3, .int (nI (i + 1))), (0, .ref m0), (1, .ref (q 13)), (2, .int (nI n))], [], M40) _
        refine ps_st (S' := (11, [(0, .ref m0), (1, .ref (q 13)), (2, .int (nI n)), (3, .int (nI (i + 1)))], [], M40)) rfl rfl rfl ?_
        exact ih (i + 1) (tx) (cN) (A) (s1) (s2) (s3) M40 I1 R41 hR42 hEI1 hER47 hl49 hl16 hl20 hl25 hl26 hl9 hl10 hl11 hB_44 hK_45 hY_46 hC_48 (by omega) (hs1) (hs2) (hs3)
  refine ps_st (S' := (1, [(0, .ref m0), (1, .ref (q 13)), (2, .int (nI n))], [.ref m0], M)) rfl rfl rfl ?_
  refine pl_call (a := [.ref m0]) (rest := []) rfl rfl rfl (rd_clear hR) (fun v49 M50 q51 => ?_)
  obtain ⟨tx52, cN53, A54, s155, s256, s357, I58, R59, q1_s, rfl, hR60, hI61, hX62, hi63, hi64, hi65, hi66, hi67, hi68, hY_69⟩ := q51
  have hi70 := (hI61 49 (by decide)).trans hi49
  have hB_71 := hB.mono (cIx hI61 (by decide)) (cRx hX62 (by decide))
  have hK_72 := hK.mono (cIx hI61 (by decide)) (cRx hX62 (by decide))
  have hEI73 := hEI.tr hI61 (by decide)
  have hER74 := hER.tr hX62 (by decide)
  show pl _ _ _ (4, [(0, .ref m0), (1, .ref (q 13)), (2, .int (nI n))], [], M50) _
  refine ps_st (S' := (5, [(0, .ref m0), (1, .ref (q 13)), (2, .int (nI n))], [.ref m0], M50)) rfl rfl rfl ?_
  refine ps_st (S' := (6, [(0, .ref m0), (1, .ref (q 13)), (2, .int (nI n))], [.int (nI n), .ref m0], M50)) rfl rfl rfl ?_
  refine pr_put (j := 16) rfl hR60 rfl (fun M75 I76 hR77 hi78 hI79 => ?_)
  have hi80 := (hI79 49 (by decide)).trans hi70
  have hi81 := (hI79 9 (by decide)).trans hi63
  have hi82 := (hI79 10 (by decide)).trans hi64
  have hi83 := (hI79 11 (by decide)).trans hi65
  have hi84 := (hI79 20 (by decide)).trans hi66
  have hi85 := (hI79 25 (by decide)).trans hi67
  have hi86 := (hI79 26 (by decide)).trans hi68
  have hB_87 := hB_71.mono (pIx hI79 (by decide)) (fun _ _ => rfl)
  have hK_88 := hK_72.mono (pIx hI79 (by decide)) (fun _ _ => rfl)
  have hY_89 := hY_69.mono (pIx hI79 (by decide)) (fun _ _ => rfl)
  have hEI90 := hEI73.put hI79 (by decide)
  show pl _ _ _ (9, [(0, .ref m0), (1, .ref (q 13)), (2, .int (nI n))], [], M75) _
  refine ps_st (S' := (10, [(0, .ref m0), (1, .ref (q 13)), (2, .int (nI n))], [.int 0], M75)) rfl rfl rfl ?_
  refine ps_st (S' := (11, [(0, .ref m0), (1, .ref (q 13)), (2, .int (nI n)), (3, .int 0)], [], M75)) rfl rfl rfl ?_
  have hC0 : BX 12 0 f I76 R59 := fun i9 h9 => absurd h9 (Nat.not_lt_zero _)
  exact (LL kf) (0) (tx52) (cN53) (A54) (s155) (s256) (s357) M75 I76 R59 hR77 hEI90 hER74 hi80 hi78 hi84 hi85 hi86 hi81 hi82 hi83 hB_87 hK_88 hY_89 hC0 (by omega) (⟨q1_s.1, q1_s.2.1⟩) (⟨q1_s.2.2.1, q1_s.2.2.2.1⟩) (⟨q1_s.2.2.2.2.1, q1_s.2.2.2.2.2⟩)
set_option maxHeartbeats 4000000 in
theorem rd_parse14b {g : xe_G} {m0 : Nat} {q : Nat → Nat} {z : Nat × Nat} {I : rI} {R : rR} {M : mi_H} {n : Nat} {f : Nat → Int32} (hR : RS g m0 q z I R M) (hi49 : I 49 = some 0) (hB : BX 14 n f I R) (hK : KX I R) (hn : n ≤ 65540) : pt (mT g) 230 [.ref m0, .ref (q 14), .int (nI n)] M (fun v M' => (∃  (I' : rI) (R' : rR), (s_read f n = none) ∧ v = some (.int 1) ∧ RS g m0 q z I' R' M' ∧ eqI [3, 8, 9, 10, 11, 16, 20, 25, 26, 47, 48, 50, 51, 52, 53, 54, 55, 56, 57, 58, 59, 60, 61, 65, 66, 67, 68, 69, 70, 71, 72] I I' ∧ eqR [1, 2, 4, 5, 6, 7, 12, 21, 22, 27, 28, 29, 30, 31, 32, 33, 34, 35, 36, 37, 38, 39, 40, 41, 42, 43, 44, 45, 46] R R' ∧ XKV f n I' R') ∨ (∃ (e9 : Nat × Nat) (I' : rI) (R' : rR), (s_read f n = some e9) ∧ v = some (.int 0) ∧ RS g m0 q z I' R' M' ∧ eqI [3, 8, 9, 10, 11, 16, 20, 25, 26, 47, 48, 50, 51, 52, 53, 54, 55, 56, 57, 58, 59, 60, 61, 65, 66, 67, 68, 69, 70, 71, 72] I I' ∧ eqR [1, 2, 4, 5, 6, 7, 12, 21, 22, 27, 28, 29, 30, 31, 32, 33, 34, 35, 36, 37, 38, 39, 40, 41, 42, 43, 44, 45, 46] R R' ∧ I' 47 = some (nI e9.1) ∧ I' 48 = some (nI e9.2))) := by
  refine pt_in (b := mb_230 g) rfl (fun kf => ?_)
  show pl (mT g) kf (mb_230 g).2 (0, [(0, .ref m0), (1, .ref (q 14)), (2, .int (nI n))], [], M) _
  have hEI : eqI [3, 8, 9, 10, 11, 16, 20, 25, 26, 47, 48, 50, 51, 52, 53, 54, 55, 56, 57, 58, 59, 60, 61, 65, 66, 67, 68, 69, 70, 71, 72] I I := eqI.rf
  have hER : eqR [1, 2, 4, 5, 6, 7, 12, 21, 22, 27, 28, 29, 30, 31, 32, 33, 34, 35, 36, 37, 38, 39, 40, 41, 42, 43, 44, 45, 46] R R := eqR.rf
  have LL : ∀ (kf : Nat), (∀ (i : Nat) (tx : List (List Nat)) (cN : Nat) (A : Nat → Nat) (s1 s2 s3 : Nat) (M1 : mi_H) (I1 : rI) (R1 : rR), (RS g m0 q z I1 R1 M1) → (eqI [3, 8, 9, 10, 11, 16, 20, 25, 26, 47, 48, 50, 51, 52, 53, 54, 55, 56, 57, 58, 59, 60, 61, 65, 66, 67, 68, 69, 70, 71, 72] I I1) → (eqR [1, 2, 4, 5, 6, 7, 12, 21, 22, 27, 28, 29, 30, 31, 32, 33, 34, 35, 36, 37, 38, 39, 40, 41, 42, 43, 44, 45, 46] R R1) → (I1 49 = some 0) → (I1 16 = some (nI n)) → (I1 20 = some 0) → (I1 25 = some 0) → (I1 26 = some 0) → (I1 9 = some (nI s1)) → (I1 10 = some (nI s2)) → (I1 11 = some (nI s3)) → (BX 14 n f I1 R1) → (KX I1 R1) → (SYT tx cN A I1 R1) → (BX 12 i f I1 R1) → (i ≤ n) → (s1 < tx.length ∧ tx.getD s1 [] = ltx 25) → (s2 < tx.length ∧ tx.getD s2 [] = ltx 26) → (s3 < tx.length ∧ tx.getD s3 [] = ltx 27) →  pl (mT g) kf (mb_230 g).2 (11, [(0, .ref m0), (1, .ref (q 14)), (2, .int (nI n)), (3, .int (nI i))], [], M1) (fun v M' => (∃  (I' : rI) (R' : rR), (s_read f n = none) ∧ v = some (.int 1) ∧ RS g m0 q z I' R' M' ∧ eqI [3, 8, 9, 10, 11, 16, 20, 25, 26, 47, 48, 50, 51, 52, 53, 54, 55, 56, 57, 58, 59, 60, 61, 65, 66, 67, 68, 69, 70, 71, 72] I I' ∧ eqR [1, 2, 4, 5, 6, 7, 12, 21, 22, 27, 28, 29, 30, 31, 32, 33, 34, 35, 36, 37, 38, 39, 40, 41, 42, 43, 44, 45, 46] R R' ∧ XKV f n I' R') ∨ (∃ (e9 : Nat × Nat) (I' : rI) (R' : rR), (s_read f n = some e9) ∧ v = some (.int 0) ∧ RS g m0 q z I' R' M' ∧ eqI [3, 8, 9, 10, 11, 16, 20, 25, 26, 47, 48, 50, 51, 52, 53, 54, 55, 56, 57, 58, 59, 60, 61, 65, 66, 67, 68, 69, 70, 71, 72] I I' ∧ eqR [1, 2, 4, 5, 6, 7, 12, 21, 22, 27, 28, 29, 30, 31, 32, 33, 34, 35, 36, 37, 38, 39, 40, 41, 42, 43, 44, 45, 46] R R' ∧ I' 47 = some (nI e9.1) ∧ I' 48 = some (nI e9.2)))) := by
    intro kf
    induction kf with
    | zero => exact (by intros; exact pl_0)
    | succ kf ih =>
      intro i tx cN A s1 s2 s3 M1 I1 R1 hR1 hEI1 hER1 hl49 hl16 hl20 hl25 hl26 hl9 hl10 hl11 hB1 hK1 hY1 hC1 hi hs1 hs2 hs3
      refine ps_st1 (S' := (12, [(0, .ref m0), (1, .ref (q 14)), (2, .int (nI n)), (3, .int (nI i))], [.int (nI i)], M1)) rfl rfl rfl ?_
      refine ps_st (S' := (13, [(0, .ref m0), (1, .ref (q 14)), (2, .int (nI n)), (3, .int (nI i))], [.int (nI n), .int (nI i)], M1)) rfl rfl rfl ?_
      refine ps_if2 (S1 := (31, [(0, .ref m0), (1, .ref (q 14)), (2, .int (nI n)), (3, .int (nI i))], [], M1)) (S2 := (16, [(0, .ref m0), (1, .ref (q 14)), (2, .int (nI n)), (3, .int (nI i))], [], M1)) rfl rfl rfl (fun c_13 => ?_) (fun c_13 => ?_)
      · have c_13 : (nI n) ≤ (nI i) := of_decide_eq_true c_13
        have n_13 : n ≤ i := (le_nI (p := n) (n := i) (by omega) (by omega)).mp c_13
        refine ps_st (S' := (32, [(0, .ref m0), (1, .ref (q 14)), (2, .int (nI n)), (3, .int (nI i))], [.ref m0], M1)) rfl rfl rfl ?_
        have hF9 : FK n f I1 R1 := ⟨hn, hl49, hl16, fun i9 h9 => (hC1 i9 (by omega)).1⟩
        refine pl_call (a := [.ref m0]) (rest := []) rfl rfl rfl (rd_checkFile2 (n := n) (f := f) (tx := tx) (cN := cN) (A := A) (s1 := s1) (s2 := s2) (s3 := s3) hR1 hl20 hl25 hl26 hl9 hl10 hl11 hF9 hY1 hK1 (hs1) (hs2) (hs3)) (fun v1 M2 q3 => ?_)
        rcases q3 with q3 | q3
        · skip
          obtain ⟨I4, R5, q32_s, rfl, hR6, hI7, hX8, hX_9⟩ := q3
          have hi10 := (hI7 49 (by decide)).trans hl49
          have hi11 := (hI7 16 (by decide)).trans hl16
          have hi12 := (hI7 9 (by decide)).trans hl9
          have hi13 := (hI7 10 (by decide)).trans hl10
          have hi14 := (hI7 11 (by decide)).trans hl11
          have hB_15 := hB1.mono (cIx hI7 (by decide)) (cRx hX8 (by decide))
          have hK_16 := hK1.mono (cIx hI7 (by decide)) (cRx hX8 (by decide))
          have hC_17 := hC1.mono (cIx hI7 (by decide)) (cRx hX8 (by decide))
          have hF_18 := hF9.mono (cIx hI7 (by decide)) (cRx hX8 (by decide))
          have hEI19 := hEI1.tr hI7 (by decide)
          have hER20 := hER1.tr hX8 (by decide)
          show pl _ _ _ (35, [(0, .ref m0), (1, .ref (q 14)), (2, .int (nI n)), (3, .int (nI i))], [.int 1], M2) _
          exact ps_ret rfl rfl (Or.inl ⟨I4, R5, q32_s, rfl, hR6, hEI19, hER20, hX_9⟩)
        · skip
          obtain ⟨e921, I22, R23, q32_s, rfl, hR24, hI25, hX26, hi27, hi28⟩ := q3
          have hi29 := (hI25 49 (by decide)).trans hl49
          have hi30 := (hI25 16 (by decide)).trans hl16
          have hi31 := (hI25 9 (by decide)).trans hl9
          have hi32 := (hI25 10 (by decide)).trans hl10
          have hi33 := (hI25 11 (by decide)).trans hl11
          have hB_34 := hB1.mono (cIx hI25 (by decide)) (cRx hX26 (by decide))
          have hK_35 := hK1.mono (cIx hI25 (by decide)) (cRx hX26 (by decide))
          have hC_36 := hC1.mono (cIx hI25 (by decide)) (cRx hX26 (by decide))
          have hF_37 := hF9.mono (cIx hI25 (by decide)) (cRx hX26 (by decide))
          have hEI38 := hEI1.tr hI25 (by decide)
          have hER39 := hER1.tr hX26 (by decide)
          show pl _ _ _ (35, [(0, .ref m0), (1, .ref (q 14)), (2, .int (nI n)), (3, .int (nI i))], [.int 0], M2) _
          exact ps_ret rfl rfl (Or.inr ⟨e921, I22, R23, q32_s, rfl, hR24, hEI38, hER39, hi27, hi28⟩)
      · have c_13 : ¬ ((nI n) ≤ (nI i)) := of_decide_eq_false c_13
        have n_13 : ¬ (n ≤ i) := fun h9 => c_13 ((le_nI (p := n) (n := i) (by omega) (by omega)).mpr h9)
        refine ps_st (S' := (17, [(0, .ref m0), (1, .ref (q 14)), (2, .int (nI n)), (3, .int (nI i))], [.ref m0], M1)) rfl rfl rfl ?_
        refine pr_ref (j := 12) (S' := (20, [(0, .ref m0), (1, .ref (q 14)), (2, .int (nI n)), (3, .int (nI i))], [.ref (q 12)], M1)) rfl hR1 rfl rfl ?_
        refine ps_st (S' := (21, [(0, .ref m0), (1, .ref (q 14)), (2, .int (nI n)), (3, .int (nI i))], [.int (nI i), .ref (q 12)], M1)) rfl rfl rfl ?_
        refine ps_st (S' := (22, [(0, .ref m0), (1, .ref (q 14)), (2, .int (nI n)), (3, .int (nI i))], [.ref (q 14), .int (nI i), .ref (q 12)], M1)) rfl rfl rfl ?_
        refine ps_st (S' := (23, [(0, .ref m0), (1, .ref (q 14)), (2, .int (nI n)), (3, .int (nI i))], [.int (nI i), .ref (q 14), .int (nI i), .ref (q 12)], M1)) rfl rfl rfl ?_
        refine pr_ld (a := 14) (j := i) (y := (f i)) (S' := (24, [(0, .ref m0), (1, .ref (q 14)), (2, .int (nI n)), (3, .int (nI i))], [.int (f i), .int (nI i), .ref (q 12)], M1)) rfl hR1 rfl (by omega) (fun _ => (hB1 i (by omega)).1) rfl (fun i1_23 => ?_)
        refine pr_st (a := 12) (j := i) rfl hR1 rfl (by omega) (fun M40 R41 i1_24 hR42 hS43 => ?_)
        have hB_44 := hB1.mono (fun _ _ => rfl) (rRx hS43 (by decide))
        have hK_45 := hK1.mono (fun _ _ => rfl) (rRx hS43 (by decide))
        have hY_46 := hY1.mono (fun _ _ => rfl) (rRx hS43 (by decide))
        have hER47 := hER1.st hS43 (by decide)
        show pl _ _ _ (25, [(0, .ref m0), (1, .ref (q 14)), (2, .int (nI n)), (3, .int (nI i))], [], M40) _
        have hC_48 : BX 12 (i + 1) f I1 R41 := BX.st hC1 hS43 (hB1 i (by omega)).2 rfl
        refine ps_st (S' := (28, [(3, .int ((nI i) + 1)), (0, .ref m0), (1, .ref (q 14)), (2, .int (nI n))], [], M40)) rfl rfl rfl ?_
        rw [nI_add1 (p := i) (k := 1) (x := 1) rfl (by omega)]
        show pl _ _ _ (_, [(3, .int (nI (i + 1))), (0, .ref m0), (1, .ref (q 14)), (2, .int (nI n))], [], M40) _
        refine ps_st (S' := (11, [(0, .ref m0), (1, .ref (q 14)), (2, .int (nI n)), (3, .int (nI (i + 1)))], [], M40)) rfl rfl rfl ?_
        exact ih (i + 1) (tx) (cN) (A) (s1) (s2) (s3) M40 I1 R41 hR42 hEI1 hER47 hl49 hl16 hl20 hl25 hl26 hl9 hl10 hl11 hB_44 hK_45 hY_46 hC_48 (by omega) (hs1) (hs2) (hs3)
  refine ps_st (S' := (1, [(0, .ref m0), (1, .ref (q 14)), (2, .int (nI n))], [.ref m0], M)) rfl rfl rfl ?_
  refine pl_call (a := [.ref m0]) (rest := []) rfl rfl rfl (rd_clear hR) (fun v49 M50 q51 => ?_)
  obtain ⟨tx52, cN53, A54, s155, s256, s357, I58, R59, q1_s, rfl, hR60, hI61, hX62, hi63, hi64, hi65, hi66, hi67, hi68, hY_69⟩ := q51
  have hi70 := (hI61 49 (by decide)).trans hi49
  have hB_71 := hB.mono (cIx hI61 (by decide)) (cRx hX62 (by decide))
  have hK_72 := hK.mono (cIx hI61 (by decide)) (cRx hX62 (by decide))
  have hEI73 := hEI.tr hI61 (by decide)
  have hER74 := hER.tr hX62 (by decide)
  show pl _ _ _ (4, [(0, .ref m0), (1, .ref (q 14)), (2, .int (nI n))], [], M50) _
  refine ps_st (S' := (5, [(0, .ref m0), (1, .ref (q 14)), (2, .int (nI n))], [.ref m0], M50)) rfl rfl rfl ?_
  refine ps_st (S' := (6, [(0, .ref m0), (1, .ref (q 14)), (2, .int (nI n))], [.int (nI n), .ref m0], M50)) rfl rfl rfl ?_
  refine pr_put (j := 16) rfl hR60 rfl (fun M75 I76 hR77 hi78 hI79 => ?_)
  have hi80 := (hI79 49 (by decide)).trans hi70
  have hi81 := (hI79 9 (by decide)).trans hi63
  have hi82 := (hI79 10 (by decide)).trans hi64
  have hi83 := (hI79 11 (by decide)).trans hi65
  have hi84 := (hI79 20 (by decide)).trans hi66
  have hi85 := (hI79 25 (by decide)).trans hi67
  have hi86 := (hI79 26 (by decide)).trans hi68
  have hB_87 := hB_71.mono (pIx hI79 (by decide)) (fun _ _ => rfl)
  have hK_88 := hK_72.mono (pIx hI79 (by decide)) (fun _ _ => rfl)
  have hY_89 := hY_69.mono (pIx hI79 (by decide)) (fun _ _ => rfl)
  have hEI90 := hEI73.put hI79 (by decide)
  show pl _ _ _ (9, [(0, .ref m0), (1, .ref (q 14)), (2, .int (nI n))], [], M75) _
  refine ps_st (S' := (10, [(0, .ref m0), (1, .ref (q 14)), (2, .int (nI n))], [.int 0], M75)) rfl rfl rfl ?_
  refine ps_st (S' := (11, [(0, .ref m0), (1, .ref (q 14)), (2, .int (nI n)), (3, .int 0)], [], M75)) rfl rfl rfl ?_
  have hC0 : BX 12 0 f I76 R59 := fun i9 h9 => absurd h9 (Nat.not_lt_zero _)
  exact (LL kf) (0) (tx52) (cN53) (A54) (s155) (s256) (s357) M75 I76 R59 hR77 hEI90 hER74 hi80 hi78 hi84 hi85 hi86 hi81 hi82 hi83 hB_87 hK_88 hY_89 hC0 (by omega) (⟨q1_s.1, q1_s.2.1⟩) (⟨q1_s.2.2.1, q1_s.2.2.2.1⟩) (⟨q1_s.2.2.2.2.1, q1_s.2.2.2.2.2⟩)
set_option maxHeartbeats 4000000 in
theorem rd_read2a {g : xe_G} {m0 : Nat} {q : Nat → Nat} {z : Nat × Nat} {I : rI} {R : rR} {M : mi_H} {n : Nat} {f : Nat → Int32} {kn : Int32} (hR : RS g m0 q z I R M) (hi49 : I 49 = some 0) (hi17 : I 17 = some (nI n)) (hi18 : I 18 = some kn) (hB : BX 13 n f I R) (hK : KX I R) (hn : n ≤ 65540) (hk : kn < 0) : pt (mT g) 236 [.ref m0] M (fun v M' => (∃  (I' : rI) (R' : rR), (s_read f n = none) ∧ v = some (.int 0) ∧ RS g m0 q z I' R' M' ∧ eqI [0, 3, 8, 9, 10, 11, 16, 17, 18, 20, 25, 26, 47, 48, 50, 51, 52, 53, 54, 55, 56, 57, 58, 59, 60, 61, 65, 66, 67, 68, 69, 70, 71, 72, 73, 74] I I' ∧ eqR [1, 2, 4, 5, 6, 7, 12, 14, 21, 22, 27, 28, 29, 30, 31, 32, 33, 34, 35, 36, 37, 38, 39, 40, 41, 42, 43, 44, 45, 46] R R' ∧ I' 73 = some (-1) ∧ I' 17 = some (nI 0) ∧ I' 18 = some (nI n) ∧ XKV f n I' R' ∧ BX 14 n f I' R') ∨ (∃ (e9 : Nat × Nat) (I' : rI) (R' : rR), (s_read f n = some e9) ∧ v = some (.int (nI e9.1)) ∧ RS g m0 q z I' R' M' ∧ eqI [0, 3, 8, 9, 10, 11, 16, 17, 18, 20, 25, 26, 47, 48, 50, 51, 52, 53, 54, 55, 56, 57, 58, 59, 60, 61, 65, 66, 67, 68, 69, 70, 71, 72, 73, 74] I I' ∧ eqR [1, 2, 4, 5, 6, 7, 12, 14, 21, 22, 27, 28, 29, 30, 31, 32, 33, 34, 35, 36, 37, 38, 39, 40, 41, 42, 43, 44, 45, 46] R R' ∧ I' 73 = some (nI e9.2) ∧ I' 17 = some (nI 0) ∧ I' 18 = some kn)) := by
  refine pt_in (b := mb_236 g) rfl (fun kf => ?_)
  show pl (mT g) kf (mb_236 g).2 (0, [(0, .ref m0)], [], M) _
  have hEI : eqI [0, 3, 8, 9, 10, 11, 16, 17, 18, 20, 25, 26, 47, 48, 50, 51, 52, 53, 54, 55, 56, 57, 58, 59, 60, 61, 65, 66, 67, 68, 69, 70, 71, 72, 73, 74] I I := eqI.rf
  have hER : eqR [1, 2, 4, 5, 6, 7, 12, 14, 21, 22, 27, 28, 29, 30, 31, 32, 33, 34, 35, 36, 37, 38, 39, 40, 41, 42, 43, 44, 45, 46] R R := eqR.rf
  have LL : ∀ (kf : Nat), (∀ (i : Nat) (M1 : mi_H) (I1 : rI) (R1 : rR), (RS g m0 q z I1 R1 M1) → (eqI [0, 3, 8, 9, 10, 11, 16, 17, 18, 20, 25, 26, 47, 48, 50, 51, 52, 53, 54, 55, 56, 57, 58, 59, 60, 61, 65, 66, 67, 68, 69, 70, 71, 72, 73, 74] I I1) → (eqR [1, 2, 4, 5, 6, 7, 12, 14, 21, 22, 27, 28, 29, 30, 31, 32, 33, 34, 35, 36, 37, 38, 39, 40, 41, 42, 43, 44, 45, 46] R R1) → (I1 17 = some (nI n)) → (I1 73 = some (-1)) → (BX 13 n f I1 R1) → (BX 14 i f I1 R1) → (XKV f n I1 R1) → (i ≤ n) → (s_read f n = none) →  pl (mT g) kf (mb_236 g).2 (53, [(0, .ref m0), (2, .int 0), (3, .int (nI i))], [], M1) (fun v M' => (∃  (I' : rI) (R' : rR), (s_read f n = none) ∧ v = some (.int 0) ∧ RS g m0 q z I' R' M' ∧ eqI [0, 3, 8, 9, 10, 11, 16, 17, 18, 20, 25, 26, 47, 48, 50, 51, 52, 53, 54, 55, 56, 57, 58, 59, 60, 61, 65, 66, 67, 68, 69, 70, 71, 72, 73, 74] I I' ∧ eqR [1, 2, 4, 5, 6, 7, 12, 14, 21, 22, 27, 28, 29, 30, 31, 32, 33, 34, 35, 36, 37, 38, 39, 40, 41, 42, 43, 44, 45, 46] R R' ∧ I' 73 = some (-1) ∧ I' 17 = some (nI 0) ∧ I' 18 = some (nI n) ∧ XKV f n I' R' ∧ BX 14 n f I' R') ∨ (∃ (e9 : Nat × Nat) (I' : rI) (R' : rR), (s_read f n = some e9) ∧ v = some (.int (nI e9.1)) ∧ RS g m0 q z I' R' M' ∧ eqI [0, 3, 8, 9, 10, 11, 16, 17, 18, 20, 25, 26, 47, 48, 50, 51, 52, 53, 54, 55, 56, 57, 58, 59, 60, 61, 65, 66, 67, 68, 69, 70, 71, 72, 73, 74] I I' ∧ eqR [1, 2, 4, 5, 6, 7, 12, 14, 21, 22, 27, 28, 29, 30, 31, 32, 33, 34, 35, 36, 37, 38, 39, 40, 41, 42, 43, 44, 45, 46] R R' ∧ I' 73 = some (nI e9.2) ∧ I' 17 = some (nI 0) ∧ I' 18 = some kn))) := by
    intro kf
    induction kf with
    | zero => exact (by intros; exact pl_0)
    | succ kf ih =>
      intro i M1 I1 R1 hR1 hEI1 hER1 hl17 hl73 hB1 hD1 hX1 hi hr
      refine ps_st1 (S' := (54, [(0, .ref m0), (2, .int 0), (3, .int (nI i))], [.int (nI i)], M1)) rfl rfl rfl ?_
      refine ps_st (S' := (55, [(0, .ref m0), (2, .int 0), (3, .int (nI i))], [.ref m0, .int (nI i)], M1)) rfl rfl rfl ?_
      refine pr_int (j := 17) (S' := (58, [(0, .ref m0), (2, .int 0), (3, .int (nI i))], [.int (nI n), .int (nI i)], M1)) rfl hR1 rfl hl17 rfl ?_
      refine ps_if2 (S1 := (79, [(0, .ref m0), (2, .int 0), (3, .int (nI i))], [], M1)) (S2 := (61, [(0, .ref m0), (2, .int 0), (3, .int (nI i))], [], M1)) rfl rfl rfl (fun c_58 => ?_) (fun c_58 => ?_)
      · have c_58 : (nI n) ≤ (nI i) := of_decide_eq_true c_58
        have n_58 : n ≤ i := (le_nI (p := n) (n := i) (by omega) (by omega)).mp c_58
        refine ps_st (S' := (80, [(0, .ref m0), (2, .int 0), (3, .int (nI i))], [.ref m0], M1)) rfl rfl rfl ?_
        refine ps_st (S' := (81, [(0, .ref m0), (2, .int 0), (3, .int (nI i))], [.ref m0, .ref m0], M1)) rfl rfl rfl ?_
        refine pr_int (j := 17) (S' := (84, [(0, .ref m0), (2, .int 0), (3, .int (nI i))], [.int (nI n), .ref m0], M1)) rfl hR1 rfl hl17 rfl ?_
        refine pr_put (j := 18) rfl hR1 rfl (fun M1 I2 hR3 hi4 hI5 => ?_)
        have hi6 := (hI5 17 (by decide)).trans hl17
        have hi7 := (hI5 73 (by decide)).trans hl73
        have hB_8 := hB1.mono (pIx hI5 (by decide)) (fun _ _ => rfl)
        have hD_9 := hD1.mono (pIx hI5 (by decide)) (fun _ _ => rfl)
        have hX_10 := hX1.mono (pIx hI5 (by decide)) (fun _ _ => rfl)
        have hEI11 := hEI1.put hI5 (by decide)
        show pl _ _ _ (87, [(0, .ref m0), (2, .int 0), (3, .int (nI i))], [], M1) _
        refine ps_st (S' := (110, [(0, .ref m0), (2, .int 0)], [], M1)) rfl rfl rfl ?_
        refine ps_st (S' := (111, [(0, .ref m0), (2, .int 0)], [.ref m0], M1)) rfl rfl rfl ?_
        refine ps_st (S' := (112, [(0, .ref m0), (2, .int 0)], [.int (-1), .ref m0], M1)) rfl rfl rfl ?_
        refine pr_put (j := 74) rfl hR3 rfl (fun M12 I13 hR14 hi15 hI16 => ?_)
        have hi17 := (hI16 17 (by decide)).trans hi6
        have hi18 := (hI16 73 (by decide)).trans hi7
        have hi19 := (hI16 18 (by decide)).trans hi4
        have hB_20 := hB_8.mono (pIx hI16 (by decide)) (fun _ _ => rfl)
        have hD_21 := hD_9.mono (pIx hI16 (by decide)) (fun _ _ => rfl)
        have hX_22 := hX_10.mono (pIx hI16 (by decide)) (fun _ _ => rfl)
        have hEI23 := hEI11.put hI16 (by decide)
        show pl _ _ _ (115, [(0, .ref m0), (2, .int 0)], [], M12) _
        refine ps_st (S' := (116, [(0, .ref m0), (2, .int 0)], [.ref m0], M12)) rfl rfl rfl ?_
        refine ps_st (S' := (117, [(0, .ref m0), (2, .int 0)], [.int 0, .ref m0], M12)) rfl rfl rfl ?_
        refine pr_put (j := 17) rfl hR14 rfl (fun M24 I25 hR26 hi27 hI28 => ?_)
        have hi29 := (hI28 73 (by decide)).trans hi18
        have hi30 := (hI28 18 (by decide)).trans hi19
        have hi31 := (hI28 74 (by decide)).trans hi15
        have hB_32 := hB_20.mono (pIx hI28 (by decide)) (fun _ _ => rfl)
        have hD_33 := hD_21.mono (pIx hI28 (by decide)) (fun _ _ => rfl)
        have hX_34 := hX_22.mono (pIx hI28 (by decide)) (fun _ _ => rfl)
        have hEI35 := hEI23.put hI28 (by decide)
        show pl _ _ _ (120, [(0, .ref m0), (2, .int 0)], [], M24) _
        refine ps_st (S' := (121, [(0, .ref m0), (2, .int 0)], [.int 0], M24)) rfl rfl rfl ?_
        exact ps_ret rfl rfl (Or.inl ⟨I25, R1, hr, rfl, hR26, hEI35, hER1, hi29, hi27, hi30, hX_34, BX.le hD_33 (by omega)⟩)
      · have c_58 : ¬ ((nI n) ≤ (nI i)) := of_decide_eq_false c_58
        have n_58 : ¬ (n ≤ i) := fun h9 => c_58 ((le_nI (p := n) (n := i) (by omega) (by omega)).mpr h9)
        refine ps_st (S' := (62, [(0, .ref m0), (2, .int 0), (3, .int (nI i))], [.ref m0], M1)) rfl rfl rfl ?_
        refine pr_ref (j := 14) (S' := (65, [(0, .ref m0), (2, .int 0), (3, .int (nI i))], [.ref (q 14)], M1)) rfl hR1 rfl rfl ?_
        refine ps_st (S' := (66, [(0, .ref m0), (2, .int 0), (3, .int (nI i))], [.int (nI i), .ref (q 14)], M1)) rfl rfl rfl ?_
        refine ps_st (S' := (67, [(0, .ref m0), (2, .int 0), (3, .int (nI i))], [.ref m0, .int (nI i), .ref (q 14)], M1)) rfl rfl rfl ?_
        refine pr_ref (j := 13) (S' := (70, [(0, .ref m0), (2, .int 0), (3, .int (nI i))], [.ref (q 13), .int (nI i), .ref (q 14)], M1)) rfl hR1 rfl rfl ?_
        refine ps_st (S' := (71, [(0, .ref m0), (2, .int 0), (3, .int (nI i))], [.int (nI i), .ref (q 13), .int (nI i), .ref (q 14)], M1)) rfl rfl rfl ?_
        refine pr_ld (a := 13) (j := i) (y := (f i)) (S' := (72, [(0, .ref m0), (2, .int 0), (3, .int (nI i))], [.int (f i), .int (nI i), .ref (q 14)], M1)) rfl hR1 rfl (by omega) (fun _ => (hB1 i (by omega)).1) rfl (fun i1_71 => ?_)
        refine pr_st (a := 14) (j := i) rfl hR1 rfl (by omega) (fun M36 R37 i1_72 hR38 hS39 => ?_)
        have hB_40 := hB1.mono (fun _ _ => rfl) (rRx hS39 (by decide))
        have hX_41 := hX1.mono (fun _ _ => rfl) (rRx hS39 (by decide))
        have hER42 := hER1.st hS39 (by decide)
        show pl _ _ _ (73, [(0, .ref m0), (2, .int 0), (3, .int (nI i))], [], M36) _
        have hD_43 : BX 14 (i + 1) f I1 R37 := BX.st hD1 hS39 (hB1 i (by omega)).2 rfl
        refine ps_st (S' := (76, [(3, .int ((nI i) + 1)), (0, .ref m0), (2, .int 0)], [], M36)) rfl rfl rfl ?_
        rw [nI_add1 (p := i) (k := 1) (x := 1) rfl (by omega)]
        show pl _ _ _ (_, [(3, .int (nI (i + 1))), (0, .ref m0), (2, .int 0)], [], M36) _
        refine ps_st (S' := (53, [(0, .ref m0), (2, .int 0), (3, .int (nI (i + 1)))], [], M36)) rfl rfl rfl ?_
        exact ih (i + 1) M36 I1 R37 hR38 hEI1 hER42 hl17 hl73 hB_40 hD_43 hX_41 (by omega) (hr)
  refine ps_st (S' := (1, [(0, .ref m0)], [.ref m0], M)) rfl rfl rfl ?_
  refine ps_st (S' := (2, [(0, .ref m0)], [.int 0, .ref m0], M)) rfl rfl rfl ?_
  refine pr_put (j := 0) rfl hR rfl (fun M44 I45 hR46 hi47 hI48 => ?_)
  have hi49 := (hI48 49 (by decide)).trans hi49
  have hi50 := (hI48 17 (by decide)).trans hi17
  have hi51 := (hI48 18 (by decide)).trans hi18
  have hB_52 := hB.mono (pIx hI48 (by decide)) (fun _ _ => rfl)
  have hK_53 := hK.mono (pIx hI48 (by decide)) (fun _ _ => rfl)
  have hEI54 := hEI.put hI48 (by decide)
  show pl _ _ _ (5, [(0, .ref m0)], [], M44) _
  refine ps_st (S' := (6, [(0, .ref m0)], [.ref m0], M44)) rfl rfl rfl ?_
  refine ps_st (S' := (7, [(0, .ref m0)], [.ref m0, .ref m0], M44)) rfl rfl rfl ?_
  refine pr_ref (j := 13) (S' := (10, [(0, .ref m0)], [.ref (q 13), .ref m0], M44)) rfl hR46 rfl rfl ?_
  refine ps_st (S' := (11, [(0, .ref m0)], [.ref m0, .ref (q 13), .ref m0], M44)) rfl rfl rfl ?_
  refine pr_int (j := 17) (S' := (14, [(0, .ref m0)], [.int (nI n), .ref (q 13), .ref m0], M44)) rfl hR46 rfl hi50 rfl ?_
  refine pl_call (a := [.ref m0, .ref (q 13), .int (nI n)]) (rest := []) rfl rfl rfl (rd_parse13b (n := n) (f := f) hR46 hi49 hB_52 hK_53 (hn)) (fun v55 M56 q57 => ?_)
  rcases q57 with q57 | q57
  · skip
    obtain ⟨I58, R59, q14_s, rfl, hR60, hI61, hX62, hX_63⟩ := q57
    have hi64 := (hI61 49 (by decide)).trans hi49
    have hi65 := (hI61 17 (by decide)).trans hi50
    have hi66 := (hI61 18 (by decide)).trans hi51
    have hi67 := (hI61 0 (by decide)).trans hi47
    have hB_68 := hB_52.mono (cIx hI61 (by decide)) (cRx hX62 (by decide))
    have hK_69 := hK_53.mono (cIx hI61 (by decide)) (cRx hX62 (by decide))
    have hEI70 := hEI54.tr hI61 (by decide)
    have hER71 := hER.tr hX62 (by decide)
    show pl _ _ _ (17, [(0, .ref m0)], [.int 1], M56) _
    refine ps_st (S' := (18, [(1, .int 1), (0, .ref m0)], [], M56)) rfl rfl rfl ?_
    refine ps_st (S' := (19, [(1, .int 1), (0, .ref m0)], [.ref m0], M56)) rfl rfl rfl ?_
    refine ps_st (S' := (20, [(1, .int 1), (0, .ref m0)], [.int 1, .ref m0], M56)) rfl rfl rfl ?_
    refine ps_if (S1 := (27, [(1, .int 1), (0, .ref m0)], [.ref m0], M56)) (S2 := (23, [(1, .int 1), (0, .ref m0)], [.ref m0], M56)) rfl rfl rfl (fun c_20 => ?_) (fun c_20 => ?_)
    · exact absurd (of_decide_eq_true c_20) (by decide)
    refine ps_st (S' := (24, [(1, .int 1), (0, .ref m0)], [.int (-1), .ref m0], M56)) rfl rfl rfl ?_
    refine ps_st (S' := (31, [(0, .ref m0), (1, .int 1)], [.int (-1), .ref m0], M56)) rfl rfl rfl ?_
    refine pr_put (j := 73) rfl hR60 rfl (fun M72 I73 hR74 hi75 hI76 => ?_)
    have hi77 := (hI76 49 (by decide)).trans hi64
    have hi78 := (hI76 17 (by decide)).trans hi65
    have hi79 := (hI76 18 (by decide)).trans hi66
    have hi80 := (hI76 0 (by decide)).trans hi67
    have hB_81 := hB_68.mono (pIx hI76 (by decide)) (fun _ _ => rfl)
    have hK_82 := hK_69.mono (pIx hI76 (by decide)) (fun _ _ => rfl)
    have hX_83 := hX_63.mono (pIx hI76 (by decide)) (fun _ _ => rfl)
    have hEI84 := hEI70.put hI76 (by decide)
    show pl _ _ _ (34, [(0, .ref m0), (1, .int 1)], [], M72) _
    refine ps_st (S' := (35, [(0, .ref m0), (1, .int 1)], [.int 1], M72)) rfl rfl rfl ?_
    refine ps_if (S1 := (42, [(0, .ref m0), (1, .int 1)], [], M72)) (S2 := (38, [(0, .ref m0), (1, .int 1)], [], M72)) rfl rfl rfl (fun c_35 => ?_) (fun c_35 => ?_)
    · exact absurd (of_decide_eq_true c_35) (by decide)
    refine ps_st (S' := (39, [(0, .ref m0), (1, .int 1)], [.int 0], M72)) rfl rfl rfl ?_
    refine ps_st (S' := (46, [(0, .ref m0), (1, .int 1)], [.int 0], M72)) rfl rfl rfl ?_
    refine ps_st (S' := (47, [(2, .int 0), (0, .ref m0), (1, .int 1)], [], M72)) rfl rfl rfl ?_
    refine ps_st (S' := (48, [(2, .int 0), (0, .ref m0), (1, .int 1)], [.int 1], M72)) rfl rfl rfl ?_
    refine ps_if (S1 := (90, [(2, .int 0), (0, .ref m0), (1, .int 1)], [], M72)) (S2 := (51, [(2, .int 0), (0, .ref m0), (1, .int 1)], [], M72)) rfl rfl rfl (fun c_48 => ?_) (fun c_48 => ?_)
    · exact absurd (of_decide_eq_true c_48) (by decide)
    refine ps_st (S' := (52, [(2, .int 0), (0, .ref m0), (1, .int 1)], [.int 0], M72)) rfl rfl rfl ?_
    refine ps_st (S' := (53, [(0, .ref m0), (2, .int 0), (3, .int 0)], [], M72)) rfl rfl rfl ?_
    have hD0 : BX 14 0 f I73 R59 := fun i9 h9 => absurd h9 (Nat.not_lt_zero _)
    exact (LL kf) (0) M72 I73 R59 hR74 hEI84 hER71 hi78 hi75 hB_81 hD0 hX_83 (by omega) (q14_s)
  · skip
    obtain ⟨e985, I86, R87, q14_s, rfl, hR88, hI89, hX90, hi91, hi92⟩ := q57
    have hi93 := (hI89 49 (by decide)).trans hi49
    have hi94 := (hI89 17 (by decide)).trans hi50
    have hi95 := (hI89 18 (by decide)).trans hi51
    have hi96 := (hI89 0 (by decide)).trans hi47
    have hB_97 := hB_52.mono (cIx hI89 (by decide)) (cRx hX90 (by decide))
    have hK_98 := hK_53.mono (cIx hI89 (by decide)) (cRx hX90 (by decide))
    have hEI99 := hEI54.tr hI89 (by decide)
    have hER100 := hER.tr hX90 (by decide)
    show pl _ _ _ (17, [(0, .ref m0)], [.int 0], M56) _
    refine ps_st (S' := (18, [(1, .int 0), (0, .ref m0)], [], M56)) rfl rfl rfl ?_
    refine ps_st (S' := (19, [(1, .int 0), (0, .ref m0)], [.ref m0], M56)) rfl rfl rfl ?_
    refine ps_st (S' := (20, [(1, .int 0), (0, .ref m0)], [.int 0, .ref m0], M56)) rfl rfl rfl ?_
    refine ps_if (S1 := (27, [(1, .int 0), (0, .ref m0)], [.ref m0], M56)) (S2 := (23, [(1, .int 0), (0, .ref m0)], [.ref m0], M56)) rfl rfl rfl (fun c_20 => ?_) (fun c_20 => ?_)
    rotate_left
    · exact absurd (by decide) (of_decide_eq_false c_20)
    refine ps_st (S' := (28, [(1, .int 0), (0, .ref m0)], [.ref m0, .ref m0], M56)) rfl rfl rfl ?_
    refine pr_int (j := 48) (S' := (31, [(0, .ref m0), (1, .int 0)], [.int (nI e985.2), .ref m0], M56)) rfl hR88 rfl hi92 rfl ?_
    refine pr_put (j := 73) rfl hR88 rfl (fun M101 I102 hR103 hi104 hI105 => ?_)
    have hi106 := (hI105 49 (by decide)).trans hi93
    have hi107 := (hI105 17 (by decide)).trans hi94
    have hi108 := (hI105 18 (by decide)).trans hi95
    have hi109 := (hI105 0 (by decide)).trans hi96
    have hi110 := (hI105 47 (by decide)).trans hi91
    have hi111 := (hI105 48 (by decide)).trans hi92
    have hB_112 := hB_97.mono (pIx hI105 (by decide)) (fun _ _ => rfl)
    have hK_113 := hK_98.mono (pIx hI105 (by decide)) (fun _ _ => rfl)
    have hEI114 := hEI99.put hI105 (by decide)
    show pl _ _ _ (34, [(0, .ref m0), (1, .int 0)], [], M101) _
    refine ps_st (S' := (35, [(0, .ref m0), (1, .int 0)], [.int 0], M101)) rfl rfl rfl ?_
    refine ps_if (S1 := (42, [(0, .ref m0), (1, .int 0)], [], M101)) (S2 := (38, [(0, .ref m0), (1, .int 0)], [], M101)) rfl rfl rfl (fun c_35 => ?_) (fun c_35 => ?_)
    rotate_left
    · exact absurd (by decide) (of_decide_eq_false c_35)
    refine ps_st (S' := (43, [(0, .ref m0), (1, .int 0)], [.ref m0], M101)) rfl rfl rfl ?_
    refine pr_int (j := 47) (S' := (46, [(0, .ref m0), (1, .int 0)], [.int (nI e985.1)], M101)) rfl hR103 rfl hi110 rfl ?_
    refine ps_st (S' := (47, [(2, .int (nI e985.1)), (0, .ref m0), (1, .int 0)], [], M101)) rfl rfl rfl ?_
    refine ps_st (S' := (48, [(2, .int (nI e985.1)), (0, .ref m0), (1, .int 0)], [.int 0], M101)) rfl rfl rfl ?_
    refine ps_if (S1 := (90, [(2, .int (nI e985.1)), (0, .ref m0), (1, .int 0)], [], M101)) (S2 := (51, [(2, .int (nI e985.1)), (0, .ref m0), (1, .int 0)], [], M101)) rfl rfl rfl (fun c_48 => ?_) (fun c_48 => ?_)
    rotate_left
    · exact absurd (by decide) (of_decide_eq_false c_48)
    refine ps_st (S' := (91, [(2, .int (nI e985.1)), (0, .ref m0), (1, .int 0)], [.ref m0], M101)) rfl rfl rfl ?_
    refine pr_int (j := 18) (S' := (94, [(2, .int (nI e985.1)), (0, .ref m0), (1, .int 0)], [.int kn], M101)) rfl hR103 rfl hi108 rfl ?_
    refine ps_if (S1 := (110, [(0, .ref m0), (2, .int (nI e985.1))], [], M101)) (S2 := (97, [(2, .int (nI e985.1)), (0, .ref m0), (1, .int 0)], [], M101)) rfl rfl rfl (fun c_94 => ?_) (fun c_94 => ?_)
    rotate_left
    · exact absurd (hk) (of_decide_eq_false c_94)
    refine ps_st (S' := (111, [(0, .ref m0), (2, .int (nI e985.1))], [.ref m0], M101)) rfl rfl rfl ?_
    refine ps_st (S' := (112, [(0, .ref m0), (2, .int (nI e985.1))], [.int (-1), .ref m0], M101)) rfl rfl rfl ?_
    refine pr_put (j := 74) rfl hR103 rfl (fun M115 I116 hR117 hi118 hI119 => ?_)
    have hi120 := (hI119 49 (by decide)).trans hi106
    have hi121 := (hI119 17 (by decide)).trans hi107
    have hi122 := (hI119 18 (by decide)).trans hi108
    have hi123 := (hI119 0 (by decide)).trans hi109
    have hi124 := (hI119 47 (by decide)).trans hi110
    have hi125 := (hI119 48 (by decide)).trans hi111
    have hi126 := (hI119 73 (by decide)).trans hi104
    have hB_127 := hB_112.mono (pIx hI119 (by decide)) (fun _ _ => rfl)
    have hK_128 := hK_113.mono (pIx hI119 (by decide)) (fun _ _ => rfl)
    have hEI129 := hEI114.put hI119 (by decide)
    show pl _ _ _ (115, [(0, .ref m0), (2, .int (nI e985.1))], [], M115) _
    refine ps_st (S' := (116, [(0, .ref m0), (2, .int (nI e985.1))], [.ref m0], M115)) rfl rfl rfl ?_
    refine ps_st (S' := (117, [(0, .ref m0), (2, .int (nI e985.1))], [.int 0, .ref m0], M115)) rfl rfl rfl ?_
    refine pr_put (j := 17) rfl hR117 rfl (fun M130 I131 hR132 hi133 hI134 => ?_)
    have hi135 := (hI134 49 (by decide)).trans hi120
    have hi136 := (hI134 18 (by decide)).trans hi122
    have hi137 := (hI134 0 (by decide)).trans hi123
    have hi138 := (hI134 47 (by decide)).trans hi124
    have hi139 := (hI134 48 (by decide)).trans hi125
    have hi140 := (hI134 73 (by decide)).trans hi126
    have hi141 := (hI134 74 (by decide)).trans hi118
    have hB_142 := hB_127.mono (pIx hI134 (by decide)) (fun _ _ => rfl)
    have hK_143 := hK_128.mono (pIx hI134 (by decide)) (fun _ _ => rfl)
    have hEI144 := hEI129.put hI134 (by decide)
    show pl _ _ _ (120, [(0, .ref m0), (2, .int (nI e985.1))], [], M130) _
    refine ps_st (S' := (121, [(0, .ref m0), (2, .int (nI e985.1))], [.int (nI e985.1)], M130)) rfl rfl rfl ?_
    exact ps_reti rfl (Or.inr ⟨e985, I131, R87, q14_s, rfl, hR132, hEI144, hER100, hi140, hi133, hi136⟩)
set_option maxHeartbeats 4000000 in
theorem rd_read2b {g : xe_G} {m0 : Nat} {q : Nat → Nat} {z : Nat × Nat} {I : rI} {R : rR} {M : mi_H} {n : Nat} {f : Nat → Int32} {n2 : Nat} {f2 : Nat → Int32} (hR : RS g m0 q z I R M) (hi49 : I 49 = some 0) (hi17 : I 17 = some (nI n)) (hi18 : I 18 = some (nI n2)) (hB : BX 13 n f I R) (hK : KX I R) (hQ : BX 14 n2 f2 I R) (hn : n ≤ 65540) (hk2 : n2 ≤ 65540) (hr2 : s_read f2 n2 = none) : pt (mT g) 236 [.ref m0] M (fun v M' => (∃  (I' : rI) (R' : rR), (s_read f n = none) ∧ v = some (.int 0) ∧ RS g m0 q z I' R' M' ∧ eqI [0, 3, 8, 9, 10, 11, 16, 17, 18, 20, 25, 26, 47, 48, 50, 51, 52, 53, 54, 55, 56, 57, 58, 59, 60, 61, 65, 66, 67, 68, 69, 70, 71, 72, 73, 74] I I' ∧ eqR [1, 2, 4, 5, 6, 7, 12, 14, 21, 22, 27, 28, 29, 30, 31, 32, 33, 34, 35, 36, 37, 38, 39, 40, 41, 42, 43, 44, 45, 46] R R' ∧ I' 73 = some (-1) ∧ I' 17 = some (nI 0) ∧ I' 18 = some (nI n) ∧ XKV f n I' R' ∧ BX 14 n f I' R') ∨ (∃ (e9 : Nat × Nat) (I' : rI) (R' : rR), (s_read f n = some e9) ∧ v = some (.int (nI e9.1)) ∧ RS g m0 q z I' R' M' ∧ eqI [0, 3, 8, 9, 10, 11, 16, 17, 18, 20, 25, 26, 47, 48, 50, 51, 52, 53, 54, 55, 56, 57, 58, 59, 60, 61, 65, 66, 67, 68, 69, 70, 71, 72, 73, 74] I I' ∧ eqR [1, 2, 4, 5, 6, 7, 12, 14, 21, 22, 27, 28, 29, 30, 31, 32, 33, 34, 35, 36, 37, 38, 39, 40, 41, 42, 43, 44, 45, 46] R R' ∧ I' 73 = some (nI e9.2) ∧ I' 17 = some (nI 0) ∧ I' 18 = some (nI n2) ∧ XKV f2 n2 I' R' ∧ BX 14 n2 f2 I' R')) := by
  refine pt_in (b := mb_236 g) rfl (fun kf => ?_)
  show pl (mT g) kf (mb_236 g).2 (0, [(0, .ref m0)], [], M) _
  have hEI : eqI [0, 3, 8, 9, 10, 11, 16, 17, 18, 20, 25, 26, 47, 48, 50, 51, 52, 53, 54, 55, 56, 57, 58, 59, 60, 61, 65, 66, 67, 68, 69, 70, 71, 72, 73, 74] I I := eqI.rf
  have hER : eqR [1, 2, 4, 5, 6, 7, 12, 14, 21, 22, 27, 28, 29, 30, 31, 32, 33, 34, 35, 36, 37, 38, 39, 40, 41, 42, 43, 44, 45, 46] R R := eqR.rf
  have LL : ∀ (kf : Nat), (∀ (i : Nat) (M1 : mi_H) (I1 : rI) (R1 : rR), (RS g m0 q z I1 R1 M1) → (eqI [0, 3, 8, 9, 10, 11, 16, 17, 18, 20, 25, 26, 47, 48, 50, 51, 52, 53, 54, 55, 56, 57, 58, 59, 60, 61, 65, 66, 67, 68, 69, 70, 71, 72, 73, 74] I I1) → (eqR [1, 2, 4, 5, 6, 7, 12, 14, 21, 22, 27, 28, 29, 30, 31, 32, 33, 34, 35, 36, 37, 38, 39, 40, 41, 42, 43, 44, 45, 46] R R1) → (I1 17 = some (nI n)) → (I1 73 = some (-1)) → (BX 13 n f I1 R1) → (BX 14 i f I1 R1) → (XKV f n I1 R1) → (i ≤ n) → (s_read f n = none) →  pl (mT g) kf (mb_236 g).2 (53, [(0, .ref m0), (2, .int 0), (3, .int (nI i))], [], M1) (fun v M' => (∃  (I' : rI) (R' : rR), (s_read f n = none) ∧ v = some (.int 0) ∧ RS g m0 q z I' R' M' ∧ eqI [0, 3, 8, 9, 10, 11, 16, 17, 18, 20, 25, 26, 47, 48, 50, 51, 52, 53, 54, 55, 56, 57, 58, 59, 60, 61, 65, 66, 67, 68, 69, 70, 71, 72, 73, 74] I I' ∧ eqR [1, 2, 4, 5, 6, 7, 12, 14, 21, 22, 27, 28, 29, 30, 31, 32, 33, 34, 35, 36, 37, 38, 39, 40, 41, 42, 43, 44, 45, 46] R R' ∧ I' 73 = some (-1) ∧ I' 17 = some (nI 0) ∧ I' 18 = some (nI n) ∧ XKV f n I' R' ∧ BX 14 n f I' R') ∨ (∃ (e9 : Nat × Nat) (I' : rI) (R' : rR), (s_read f n = some e9) ∧ v = some (.int (nI e9.1)) ∧ RS g m0 q z I' R' M' ∧ eqI [0, 3, 8, 9, 10, 11, 16, 17, 18, 20, 25, 26, 47, 48, 50, 51, 52, 53, 54, 55, 56, 57, 58, 59, 60, 61, 65, 66, 67, 68, 69, 70, 71, 72, 73, 74] I I' ∧ eqR [1, 2, 4, 5, 6, 7, 12, 14, 21, 22, 27, 28, 29, 30, 31, 32, 33, 34, 35, 36, 37, 38, 39, 40, 41, 42, 43, 44, 45, 46] R R' ∧ I' 73 = some (nI e9.2) ∧ I' 17 = some (nI 0) ∧ I' 18 = some (nI n2) ∧ XKV f2 n2 I' R' ∧ BX 14 n2 f2 I' R'))) := by
    intro kf
    induction kf with
    | zero => exact (by intros; exact pl_0)
    | succ kf ih =>
      intro i M1 I1 R1 hR1 hEI1 hER1 hl17 hl73 hB1 hD1 hX1 hi hr
      refine ps_st1 (S' := (54, [(0, .ref m0), (2, .int 0), (3, .int (nI i))], [.int (nI i)], M1)) rfl rfl rfl ?_
      refine ps_st (S' := (55, [(0, .ref m0), (2, .int 0), (3, .int (nI i))], [.ref m0, .int (nI i)], M1)) rfl rfl rfl ?_
      refine pr_int (j := 17) (S' := (58, [(0, .ref m0), (2, .int 0), (3, .int (nI i))], [.int (nI n), .int (nI i)], M1)) rfl hR1 rfl hl17 rfl ?_
      refine ps_if2 (S1 := (79, [(0, .ref m0), (2, .int 0), (3, .int (nI i))], [], M1)) (S2 := (61, [(0, .ref m0), (2, .int 0), (3, .int (nI i))], [], M1)) rfl rfl rfl (fun c_58 => ?_) (fun c_58 => ?_)
      · have c_58 : (nI n) ≤ (nI i) := of_decide_eq_true c_58
        have n_58 : n ≤ i := (le_nI (p := n) (n := i) (by omega) (by omega)).mp c_58
        refine ps_st (S' := (80, [(0, .ref m0), (2, .int 0), (3, .int (nI i))], [.ref m0], M1)) rfl rfl rfl ?_
        refine ps_st (S' := (81, [(0, .ref m0), (2, .int 0), (3, .int (nI i))], [.ref m0, .ref m0], M1)) rfl rfl rfl ?_
        refine pr_int (j := 17) (S' := (84, [(0, .ref m0), (2, .int 0), (3, .int (nI i))], [.int (nI n), .ref m0], M1)) rfl hR1 rfl hl17 rfl ?_
        refine pr_put (j := 18) rfl hR1 rfl (fun M1 I2 hR3 hi4 hI5 => ?_)
        have hi6 := (hI5 17 (by decide)).trans hl17
        have hi7 := (hI5 73 (by decide)).trans hl73
        have hB_8 := hB1.mono (pIx hI5 (by decide)) (fun _ _ => rfl)
        have hD_9 := hD1.mono (pIx hI5 (by decide)) (fun _ _ => rfl)
        have hX_10 := hX1.mono (pIx hI5 (by decide)) (fun _ _ => rfl)
        have hEI11 := hEI1.put hI5 (by decide)
        show pl _ _ _ (87, [(0, .ref m0), (2, .int 0), (3, .int (nI i))], [], M1) _
        refine ps_st (S' := (110, [(0, .ref m0), (2, .int 0)], [], M1)) rfl rfl rfl ?_
        refine ps_st (S' := (111, [(0, .ref m0), (2, .int 0)], [.ref m0], M1)) rfl rfl rfl ?_
        refine ps_st (S' := (112, [(0, .ref m0), (2, .int 0)], [.int (-1), .ref m0], M1)) rfl rfl rfl ?_
        refine pr_put (j := 74) rfl hR3 rfl (fun M12 I13 hR14 hi15 hI16 => ?_)
        have hi17 := (hI16 17 (by decide)).trans hi6
        have hi18 := (hI16 73 (by decide)).trans hi7
        have hi19 := (hI16 18 (by decide)).trans hi4
        have hB_20 := hB_8.mono (pIx hI16 (by decide)) (fun _ _ => rfl)
        have hD_21 := hD_9.mono (pIx hI16 (by decide)) (fun _ _ => rfl)
        have hX_22 := hX_10.mono (pIx hI16 (by decide)) (fun _ _ => rfl)
        have hEI23 := hEI11.put hI16 (by decide)
        show pl _ _ _ (115, [(0, .ref m0), (2, .int 0)], [], M12) _
        refine ps_st (S' := (116, [(0, .ref m0), (2, .int 0)], [.ref m0], M12)) rfl rfl rfl ?_
        refine ps_st (S' := (117, [(0, .ref m0), (2, .int 0)], [.int 0, .ref m0], M12)) rfl rfl rfl ?_
        refine pr_put (j := 17) rfl hR14 rfl (fun M24 I25 hR26 hi27 hI28 => ?_)
        have hi29 := (hI28 73 (by decide)).trans hi18
        have hi30 := (hI28 18 (by decide)).trans hi19
        have hi31 := (hI28 74 (by decide)).trans hi15
        have hB_32 := hB_20.mono (pIx hI28 (by decide)) (fun _ _ => rfl)
        have hD_33 := hD_21.mono (pIx hI28 (by decide)) (fun _ _ => rfl)
        have hX_34 := hX_22.mono (pIx hI28 (by decide)) (fun _ _ => rfl)
        have hEI35 := hEI23.put hI28 (by decide)
        show pl _ _ _ (120, [(0, .ref m0), (2, .int 0)], [], M24) _
        refine ps_st (S' := (121, [(0, .ref m0), (2, .int 0)], [.int 0], M24)) rfl rfl rfl ?_
        exact ps_ret rfl rfl (Or.inl ⟨I25, R1, hr, rfl, hR26, hEI35, hER1, hi29, hi27, hi30, hX_34, BX.le hD_33 (by omega)⟩)
      · have c_58 : ¬ ((nI n) ≤ (nI i)) := of_decide_eq_false c_58
        have n_58 : ¬ (n ≤ i) := fun h9 => c_58 ((le_nI (p := n) (n := i) (by omega) (by omega)).mpr h9)
        refine ps_st (S' := (62, [(0, .ref m0), (2, .int 0), (3, .int (nI i))], [.ref m0], M1)) rfl rfl rfl ?_
        refine pr_ref (j := 14) (S' := (65, [(0, .ref m0), (2, .int 0), (3, .int (nI i))], [.ref (q 14)], M1)) rfl hR1 rfl rfl ?_
        refine ps_st (S' := (66, [(0, .ref m0), (2, .int 0), (3, .int (nI i))], [.int (nI i), .ref (q 14)], M1)) rfl rfl rfl ?_
        refine ps_st (S' := (67, [(0, .ref m0), (2, .int 0), (3, .int (nI i))], [.ref m0, .int (nI i), .ref (q 14)], M1)) rfl rfl rfl ?_
        refine pr_ref (j := 13) (S' := (70, [(0, .ref m0), (2, .int 0), (3, .int (nI i))], [.ref (q 13), .int (nI i), .ref (q 14)], M1)) rfl hR1 rfl rfl ?_
        refine ps_st (S' := (71, [(0, .ref m0), (2, .int 0), (3, .int (nI i))], [.int (nI i), .ref (q 13), .int (nI i), .ref (q 14)], M1)) rfl rfl rfl ?_
        refine pr_ld (a := 13) (j := i) (y := (f i)) (S' := (72, [(0, .ref m0), (2, .int 0), (3, .int (nI i))], [.int (f i), .int (nI i), .ref (q 14)], M1)) rfl hR1 rfl (by omega) (fun _ => (hB1 i (by omega)).1) rfl (fun i1_71 => ?_)
        refine pr_st (a := 14) (j := i) rfl hR1 rfl (by omega) (fun M36 R37 i1_72 hR38 hS39 => ?_)
        have hB_40 := hB1.mono (fun _ _ => rfl) (rRx hS39 (by decide))
        have hX_41 := hX1.mono (fun _ _ => rfl) (rRx hS39 (by decide))
        have hER42 := hER1.st hS39 (by decide)
        show pl _ _ _ (73, [(0, .ref m0), (2, .int 0), (3, .int (nI i))], [], M36) _
        have hD_43 : BX 14 (i + 1) f I1 R37 := BX.st hD1 hS39 (hB1 i (by omega)).2 rfl
        refine ps_st (S' := (76, [(3, .int ((nI i) + 1)), (0, .ref m0), (2, .int 0)], [], M36)) rfl rfl rfl ?_
        rw [nI_add1 (p := i) (k := 1) (x := 1) rfl (by omega)]
        show pl _ _ _ (_, [(3, .int (nI (i + 1))), (0, .ref m0), (2, .int 0)], [], M36) _
        refine ps_st (S' := (53, [(0, .ref m0), (2, .int 0), (3, .int (nI (i + 1)))], [], M36)) rfl rfl rfl ?_
        exact ih (i + 1) M36 I1 R37 hR38 hEI1 hER42 hl17 hl73 hB_40 hD_43 hX_41 (by omega) (hr)
  refine ps_st (S' := (1, [(0, .ref m0)], [.ref m0], M)) rfl rfl rfl ?_
  refine ps_st (S' := (2, [(0, .ref m0)], [.int 0, .ref m0], M)) rfl rfl rfl ?_
  refine pr_put (j := 0) rfl hR rfl (fun M44 I45 hR46 hi47 hI48 => ?_)
  have hi49 := (hI48 49 (by decide)).trans hi49
  have hi50 := (hI48 17 (by decide)).trans hi17
  have hi51 := (hI48 18 (by decide)).trans hi18
  have hB_52 := hB.mono (pIx hI48 (by decide)) (fun _ _ => rfl)
  have hK_53 := hK.mono (pIx hI48 (by decide)) (fun _ _ => rfl)
  have hQ_54 := hQ.mono (pIx hI48 (by decide)) (fun _ _ => rfl)
  have hEI55 := hEI.put hI48 (by decide)
  show pl _ _ _ (5, [(0, .ref m0)], [], M44) _
  refine ps_st (S' := (6, [(0, .ref m0)], [.ref m0], M44)) rfl rfl rfl ?_
  refine ps_st (S' := (7, [(0, .ref m0)], [.ref m0, .ref m0], M44)) rfl rfl rfl ?_
  refine pr_ref (j := 13) (S' := (10, [(0, .ref m0)], [.ref (q 13), .ref m0], M44)) rfl hR46 rfl rfl ?_
  refine ps_st (S' := (11, [(0, .ref m0)], [.ref m0, .ref (q 13), .ref m0], M44)) rfl rfl rfl ?_
  refine pr_int (j := 17) (S' := (14, [(0, .ref m0)], [.int (nI n), .ref (q 13), .ref m0], M44)) rfl hR46 rfl hi50 rfl ?_
  refine pl_call (a := [.ref m0, .ref (q 13), .int (nI n)]) (rest := []) rfl rfl rfl (rd_parse13b (n := n) (f := f) hR46 hi49 hB_52 hK_53 (hn)) (fun v56 M57 q58 => ?_)
  rcases q58 with q58 | q58
  · skip
    obtain ⟨I59, R60, q14_s, rfl, hR61, hI62, hX63, hX_64⟩ := q58
    have hi65 := (hI62 49 (by decide)).trans hi49
    have hi66 := (hI62 17 (by decide)).trans hi50
    have hi67 := (hI62 18 (by decide)).trans hi51
    have hi68 := (hI62 0 (by decide)).trans hi47
    have hB_69 := hB_52.mono (cIx hI62 (by decide)) (cRx hX63 (by decide))
    have hK_70 := hK_53.mono (cIx hI62 (by decide)) (cRx hX63 (by decide))
    have hQ_71 := hQ_54.mono (cIx hI62 (by decide)) (cRx hX63 (by decide))
    have hEI72 := hEI55.tr hI62 (by decide)
    have hER73 := hER.tr hX63 (by decide)
    show pl _ _ _ (17, [(0, .ref m0)], [.int 1], M57) _
    refine ps_st (S' := (18, [(1, .int 1), (0, .ref m0)], [], M57)) rfl rfl rfl ?_
    refine ps_st (S' := (19, [(1, .int 1), (0, .ref m0)], [.ref m0], M57)) rfl rfl rfl ?_
    refine ps_st (S' := (20, [(1, .int 1), (0, .ref m0)], [.int 1, .ref m0], M57)) rfl rfl rfl ?_
    refine ps_if (S1 := (27, [(1, .int 1), (0, .ref m0)], [.ref m0], M57)) (S2 := (23, [(1, .int 1), (0, .ref m0)], [.ref m0], M57)) rfl rfl rfl (fun c_20 => ?_) (fun c_20 => ?_)
    · exact absurd (of_decide_eq_true c_20) (by decide)
    refine ps_st (S' := (24, [(1, .int 1), (0, .ref m0)], [.int (-1), .ref m0], M57)) rfl rfl rfl ?_
    refine ps_st (S' := (31, [(0, .ref m0), (1, .int 1)], [.int (-1), .ref m0], M57)) rfl rfl rfl ?_
    refine pr_put (j := 73) rfl hR61 rfl (fun M74 I75 hR76 hi77 hI78 => ?_)
    have hi79 := (hI78 49 (by decide)).trans hi65
    have hi80 := (hI78 17 (by decide)).trans hi66
    have hi81 := (hI78 18 (by decide)).trans hi67
    have hi82 := (hI78 0 (by decide)).trans hi68
    have hB_83 := hB_69.mono (pIx hI78 (by decide)) (fun _ _ => rfl)
    have hK_84 := hK_70.mono (pIx hI78 (by decide)) (fun _ _ => rfl)
    have hQ_85 := hQ_71.mono (pIx hI78 (by decide)) (fun _ _ => rfl)
    have hX_86 := hX_64.mono (pIx hI78 (by decide)) (fun _ _ => rfl)
    have hEI87 := hEI72.put hI78 (by decide)
    show pl _ _ _ (34, [(0, .ref m0), (1, .int 1)], [], M74) _
    refine ps_st (S' := (35, [(0, .ref m0), (1, .int 1)], [.int 1], M74)) rfl rfl rfl ?_
    refine ps_if (S1 := (42, [(0, .ref m0), (1, .int 1)], [], M74)) (S2 := (38, [(0, .ref m0), (1, .int 1)], [], M74)) rfl rfl rfl (fun c_35 => ?_) (fun c_35 => ?_)
    · exact absurd (of_decide_eq_true c_35) (by decide)
    refine ps_st (S' := (39, [(0, .ref m0), (1, .int 1)], [.int 0], M74)) rfl rfl rfl ?_
    refine ps_st (S' := (46, [(0, .ref m0), (1, .int 1)], [.int 0], M74)) rfl rfl rfl ?_
    refine ps_st (S' := (47, [(2, .int 0), (0, .ref m0), (1, .int 1)], [], M74)) rfl rfl rfl ?_
    refine ps_st (S' := (48, [(2, .int 0), (0, .ref m0), (1, .int 1)], [.int 1], M74)) rfl rfl rfl ?_
    refine ps_if (S1 := (90, [(2, .int 0), (0, .ref m0), (1, .int 1)], [], M74)) (S2 := (51, [(2, .int 0), (0, .ref m0), (1, .int 1)], [], M74)) rfl rfl rfl (fun c_48 => ?_) (fun c_48 => ?_)
    · exact absurd (of_decide_eq_true c_48) (by decide)
    refine ps_st (S' := (52, [(2, .int 0), (0, .ref m0), (1, .int 1)], [.int 0], M74)) rfl rfl rfl ?_
    refine ps_st (S' := (53, [(0, .ref m0), (2, .int 0), (3, .int 0)], [], M74)) rfl rfl rfl ?_
    have hD0 : BX 14 0 f I75 R60 := fun i9 h9 => absurd h9 (Nat.not_lt_zero _)
    exact (LL kf) (0) M74 I75 R60 hR76 hEI87 hER73 hi80 hi77 hB_83 hD0 hX_86 (by omega) (q14_s)
  · skip
    obtain ⟨e988, I89, R90, q14_s, rfl, hR91, hI92, hX93, hi94, hi95⟩ := q58
    have hi96 := (hI92 49 (by decide)).trans hi49
    have hi97 := (hI92 17 (by decide)).trans hi50
    have hi98 := (hI92 18 (by decide)).trans hi51
    have hi99 := (hI92 0 (by decide)).trans hi47
    have hB_100 := hB_52.mono (cIx hI92 (by decide)) (cRx hX93 (by decide))
    have hK_101 := hK_53.mono (cIx hI92 (by decide)) (cRx hX93 (by decide))
    have hQ_102 := hQ_54.mono (cIx hI92 (by decide)) (cRx hX93 (by decide))
    have hEI103 := hEI55.tr hI92 (by decide)
    have hER104 := hER.tr hX93 (by decide)
    show pl _ _ _ (17, [(0, .ref m0)], [.int 0], M57) _
    refine ps_st (S' := (18, [(1, .int 0), (0, .ref m0)], [], M57)) rfl rfl rfl ?_
    refine ps_st (S' := (19, [(1, .int 0), (0, .ref m0)], [.ref m0], M57)) rfl rfl rfl ?_
    refine ps_st (S' := (20, [(1, .int 0), (0, .ref m0)], [.int 0, .ref m0], M57)) rfl rfl rfl ?_
    refine ps_if (S1 := (27, [(1, .int 0), (0, .ref m0)], [.ref m0], M57)) (S2 := (23, [(1, .int 0), (0, .ref m0)], [.ref m0], M57)) rfl rfl rfl (fun c_20 => ?_) (fun c_20 => ?_)
    rotate_left
    · exact absurd (by decide) (of_decide_eq_false c_20)
    refine ps_st (S' := (28, [(1, .int 0), (0, .ref m0)], [.ref m0, .ref m0], M57)) rfl rfl rfl ?_
    refine pr_int (j := 48) (S' := (31, [(0, .ref m0), (1, .int 0)], [.int (nI e988.2), .ref m0], M57)) rfl hR91 rfl hi95 rfl ?_
    refine pr_put (j := 73) rfl hR91 rfl (fun M105 I106 hR107 hi108 hI109 => ?_)
    have hi110 := (hI109 49 (by decide)).trans hi96
    have hi111 := (hI109 17 (by decide)).trans hi97
    have hi112 := (hI109 18 (by decide)).trans hi98
    have hi113 := (hI109 0 (by decide)).trans hi99
    have hi114 := (hI109 47 (by decide)).trans hi94
    have hi115 := (hI109 48 (by decide)).trans hi95
    have hB_116 := hB_100.mono (pIx hI109 (by decide)) (fun _ _ => rfl)
    have hK_117 := hK_101.mono (pIx hI109 (by decide)) (fun _ _ => rfl)
    have hQ_118 := hQ_102.mono (pIx hI109 (by decide)) (fun _ _ => rfl)
    have hEI119 := hEI103.put hI109 (by decide)
    show pl _ _ _ (34, [(0, .ref m0), (1, .int 0)], [], M105) _
    refine ps_st (S' := (35, [(0, .ref m0), (1, .int 0)], [.int 0], M105)) rfl rfl rfl ?_
    refine ps_if (S1 := (42, [(0, .ref m0), (1, .int 0)], [], M105)) (S2 := (38, [(0, .ref m0), (1, .int 0)], [], M105)) rfl rfl rfl (fun c_35 => ?_) (fun c_35 => ?_)
    rotate_left
    · exact absurd (by decide) (of_decide_eq_false c_35)
    refine ps_st (S' := (43, [(0, .ref m0), (1, .int 0)], [.ref m0], M105)) rfl rfl rfl ?_
    refine pr_int (j := 47) (S' := (46, [(0, .ref m0), (1, .int 0)], [.int (nI e988.1)], M105)) rfl hR107 rfl hi114 rfl ?_
    refine ps_st (S' := (47, [(2, .int (nI e988.1)), (0, .ref m0), (1, .int 0)], [], M105)) rfl rfl rfl ?_
    refine ps_st (S' := (48, [(2, .int (nI e988.1)), (0, .ref m0), (1, .int 0)], [.int 0], M105)) rfl rfl rfl ?_
    refine ps_if (S1 := (90, [(2, .int (nI e988.1)), (0, .ref m0), (1, .int 0)], [], M105)) (S2 := (51, [(2, .int (nI e988.1)), (0, .ref m0), (1, .int 0)], [], M105)) rfl rfl rfl (fun c_48 => ?_) (fun c_48 => ?_)
    rotate_left
    · exact absurd (by decide) (of_decide_eq_false c_48)
    refine ps_st (S' := (91, [(2, .int (nI e988.1)), (0, .ref m0), (1, .int 0)], [.ref m0], M105)) rfl rfl rfl ?_
    refine pr_int (j := 18) (S' := (94, [(2, .int (nI e988.1)), (0, .ref m0), (1, .int 0)], [.int (nI n2)], M105)) rfl hR107 rfl hi112 rfl ?_
    refine ps_if (S1 := (110, [(0, .ref m0), (2, .int (nI e988.1))], [], M105)) (S2 := (97, [(2, .int (nI e988.1)), (0, .ref m0), (1, .int 0)], [], M105)) rfl rfl rfl (fun c_94 => ?_) (fun c_94 => ?_)
    · exact absurd (of_decide_eq_true c_94) (show ¬ ((nI n2) < 0) from fun h9 => absurd ((lt_nI (p := n2) (n := 0) (by omega) (by decide)).mp h9) (by omega))
    refine ps_st (S' := (98, [(2, .int (nI e988.1)), (0, .ref m0), (1, .int 0)], [.ref m0], M105)) rfl rfl rfl ?_
    refine ps_st (S' := (99, [(2, .int (nI e988.1)), (0, .ref m0), (1, .int 0)], [.ref m0, .ref m0], M105)) rfl rfl rfl ?_
    refine pr_ref (j := 14) (S' := (102, [(2, .int (nI e988.1)), (0, .ref m0), (1, .int 0)], [.ref (q 14), .ref m0], M105)) rfl hR107 rfl rfl ?_
    refine ps_st (S' := (103, [(2, .int (nI e988.1)), (0, .ref m0), (1, .int 0)], [.ref m0, .ref (q 14), .ref m0], M105)) rfl rfl rfl ?_
    refine pr_int (j := 18) (S' := (106, [(2, .int (nI e988.1)), (0, .ref m0), (1, .int 0)], [.int (nI n2), .ref (q 14), .ref m0], M105)) rfl hR107 rfl hi112 rfl ?_
    refine pl_call (a := [.ref m0, .ref (q 14), .int (nI n2)]) (rest := []) rfl rfl rfl (rd_parse14b (n := n2) (f := f2) hR107 hi110 hQ_118 hK_117 (hk2)) (fun v120 M121 q122 => ?_)
    rcases q122 with q122 | q122
    · skip
      obtain ⟨I123, R124, q106_s, rfl, hR125, hI126, hX127, hX_128⟩ := q122
      have hi129 := (hI126 49 (by decide)).trans hi110
      have hi130 := (hI126 17 (by decide)).trans hi111
      have hi131 := (hI126 18 (by decide)).trans hi112
      have hi132 := (hI126 0 (by decide)).trans hi113
      have hi133 := (hI126 73 (by decide)).trans hi108
      have hB_134 := hB_116.mono (cIx hI126 (by decide)) (cRx hX127 (by decide))
      have hK_135 := hK_117.mono (cIx hI126 (by decide)) (cRx hX127 (by decide))
      have hQ_136 := hQ_118.mono (cIx hI126 (by decide)) (cRx hX127 (by decide))
      have hEI137 := hEI119.tr hI126 (by decide)
      have hER138 := hER104.tr hX127 (by decide)
      show pl _ _ _ (109, [(2, .int (nI e988.1)), (0, .ref m0), (1, .int 0)], [.int 1], M121) _
      refine ps_st (S' := (110, [(0, .ref m0), (2, .int (nI e988.1))], [], M121)) rfl rfl rfl ?_
      refine ps_st (S' := (111, [(0, .ref m0), (2, .int (nI e988.1))], [.ref m0], M121)) rfl rfl rfl ?_
      refine ps_st (S' := (112, [(0, .ref m0), (2, .int (nI e988.1))], [.int (-1), .ref m0], M121)) rfl rfl rfl ?_
      refine pr_put (j := 74) rfl hR125 rfl (fun M139 I140 hR141 hi142 hI143 => ?_)
      have hi144 := (hI143 49 (by decide)).trans hi129
      have hi145 := (hI143 17 (by decide)).trans hi130
      have hi146 := (hI143 18 (by decide)).trans hi131
      have hi147 := (hI143 0 (by decide)).trans hi132
      have hi148 := (hI143 73 (by decide)).trans hi133
      have hB_149 := hB_134.mono (pIx hI143 (by decide)) (fun _ _ => rfl)
      have hK_150 := hK_135.mono (pIx hI143 (by decide)) (fun _ _ => rfl)
      have hQ_151 := hQ_136.mono (pIx hI143 (by decide)) (fun _ _ => rfl)
      have hX_152 := hX_128.mono (pIx hI143 (by decide)) (fun _ _ => rfl)
      have hEI153 := hEI137.put hI143 (by decide)
      show pl _ _ _ (115, [(0, .ref m0), (2, .int (nI e988.1))], [], M139) _
      refine ps_st (S' := (116, [(0, .ref m0), (2, .int (nI e988.1))], [.ref m0], M139)) rfl rfl rfl ?_
      refine ps_st (S' := (117, [(0, .ref m0), (2, .int (nI e988.1))], [.int 0, .ref m0], M139)) rfl rfl rfl ?_
      refine pr_put (j := 17) rfl hR141 rfl (fun M154 I155 hR156 hi157 hI158 => ?_)
      have hi159 := (hI158 49 (by decide)).trans hi144
      have hi160 := (hI158 18 (by decide)).trans hi146
      have hi161 := (hI158 0 (by decide)).trans hi147
      have hi162 := (hI158 73 (by decide)).trans hi148
      have hi163 := (hI158 74 (by decide)).trans hi142
      have hB_164 := hB_149.mono (pIx hI158 (by decide)) (fun _ _ => rfl)
      have hK_165 := hK_150.mono (pIx hI158 (by decide)) (fun _ _ => rfl)
      have hQ_166 := hQ_151.mono (pIx hI158 (by decide)) (fun _ _ => rfl)
      have hX_167 := hX_152.mono (pIx hI158 (by decide)) (fun _ _ => rfl)
      have hEI168 := hEI153.put hI158 (by decide)
      show pl _ _ _ (120, [(0, .ref m0), (2, .int (nI e988.1))], [], M154) _
      refine ps_st (S' := (121, [(0, .ref m0), (2, .int (nI e988.1))], [.int (nI e988.1)], M154)) rfl rfl rfl ?_
      exact ps_reti rfl (Or.inr ⟨e988, I155, R124, q14_s, rfl, hR156, hEI168, hER138, hi162, hi157, hi160, hX_167, hQ_166⟩)
    · skip
      obtain ⟨e9169, I170, R171, q106_s, rfl, hR172, hI173, hX174, hi175, hi176⟩ := q122
      have hi177 := (hI173 49 (by decide)).trans hi110
      have hi178 := (hI173 17 (by decide)).trans hi111
      have hi179 := (hI173 18 (by decide)).trans hi112
      have hi180 := (hI173 0 (by decide)).trans hi113
      have hi181 := (hI173 73 (by decide)).trans hi108
      have hB_182 := hB_116.mono (cIx hI173 (by decide)) (cRx hX174 (by decide))
      have hK_183 := hK_117.mono (cIx hI173 (by decide)) (cRx hX174 (by decide))
      have hQ_184 := hQ_118.mono (cIx hI173 (by decide)) (cRx hX174 (by decide))
      have hEI185 := hEI119.tr hI173 (by decide)
      have hER186 := hER104.tr hX174 (by decide)
      show pl _ _ _ (109, [(2, .int (nI e988.1)), (0, .ref m0), (1, .int 0)], [.int 0], M121) _
      exact absurd (hr2.symm.trans q106_s) (fun h9 => by cases h9)
