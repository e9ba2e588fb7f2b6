/-! what the reference keeps (my own text) -/
section XKA
variable {f : Nat → Int32} {n : Nat} {I I' : rI} {R R' : rR}
/-- its members: how many, their names and descriptors -/
def XKM (f : Nat → Int32) (n : Nat) (tx : List (List Nat)) (E : List (Nat × Nat)) (p1 pF pM pA : Nat) (I : rI) (R : rR) : Prop := I 25 = some (nI (mbs f n (by2 f pF) (pF + 2)).length) ∧ I 26 = some (nI (mbs f n (by2 f pM) (pM + 2)).length) ∧ FN 28 29 f n E tx (mbs f n (by2 f pF) (pF + 2)) 0 (mbs f n (by2 f pF) (pF + 2)).length I R ∧ FN 35 36 f n E tx (mbs f n (by2 f pM) (pM + 2)) 0 (mbs f n (by2 f pM) (pM + 2)).length I R ∧ s_mbs f n pF = .inr pM ∧ s_mbs f n pM = .inr pA ∧ s_class f n p1 = .inr pF ∧ s_attributes f n pA = .inr n ∧ (I 54 = some (nI p1) ∧ I 58 = some (nI (by2 f p1)) ∧ I 61 = some (nI (by2 f (p1 + 6)))) ∧ ∃ (bc : Nat) (K : KT), clS f n E (by2 f p1) (by2 f 6) (by2 f pA) (pA + 2) 0 0 = .inr bc ∧ clU f n E (by2 f 6) (by2 f pA) (pA + 2) (0, 0, 0, 0, 0, -1) = K ∧ I 71 = some (nI bc) ∧ I 66 = some (nI K.1) ∧ I 65 = some (nI K.2.2.1) ∧ I 68 = some (nI K.2.2.2.1) ∧ I 69 = some (nI K.2.2.2.2.1) ∧ I 70 = some (b7 K) ∧ I 72 = some K.2.2.2.2.2
theorem XKM.mono {tx : List (List Nat)} {E : List (Nat × Nat)} {p1 pF pM pA : Nat} (h : XKM f n tx E p1 pF pM pA I R) (hI : ∀ k, k ∈ [3, 8, 16, 49, 51, 52, 53, 25, 26, 54, 58, 61, 65, 66, 68, 69, 70, 71, 72] → I' k = I k) (hR : ∀ k, k ∈ [1, 4, 5, 6, 7, 12, 21, 22, 28, 29, 35, 36] → R' k = R k) : XKM f n tx E p1 pF pM pA I' R' := by
  obtain ⟨h1, h2, h3, h4, h5, h6, h7, h8, ⟨a1, a2, a3⟩, bc, K, h9, h10, g1, g2, g3, g4, g5, g6, g7⟩ := h
  exact ⟨(hI 25 (by decide)).trans h1, (hI 26 (by decide)).trans h2, h3.mono (fun k hk => by cases hk) (fun k hk => hR k (by revert k; decide)), h4.mono (fun k hk => by cases hk) (fun k hk => hR k (by revert k; decide)), h5, h6, h7, h8, ⟨(hI 54 (by decide)).trans a1, (hI 58 (by decide)).trans a2, (hI 61 (by decide)).trans a3⟩, bc, K, h9, h10, (hI 71 (by decide)).trans g1, (hI 66 (by decide)).trans g2, (hI 65 (by decide)).trans g3, (hI 68 (by decide)).trans g4, (hI 69 (by decide)).trans g5, (hI 70 (by decide)).trans g6, (hI 72 (by decide)).trans g7⟩
/-- a file that is kept, as it was parsed -/
def XKV (f : Nat → Int32) (n : Nat) (I : rI) (R : rR) : Prop := ∃ (tx : List (List Nat)) (cN : Nat) (A : Nat → Nat) (E : List (Nat × Nat)) (N mj p1 pF pM pA : Nat), FK n f I R ∧ SYT tx cN A I R ∧ RPV f n E tx N I R ∧ I 51 = some 0 ∧ I 52 = some (nI N) ∧ I 53 = some (nI mj) ∧ s_whole f n = .inr (E, p1, pF, pM, pA) ∧ N = by2 f 8 ∧ mj = by2 f 6 ∧ XKM f n tx E p1 pF pM pA I R
theorem XKV.mono (h : XKV f n I R) (hI : ∀ k, k ∈ [3, 8, 16, 49, 51, 52, 53, 25, 26, 54, 58, 61, 65, 66, 68, 69, 70, 71, 72] → I' k = I k) (hR : ∀ k, k ∈ [1, 4, 5, 6, 7, 12, 21, 22, 28, 29, 35, 36] → R' k = R k) : XKV f n I' R' := by
  obtain ⟨tx, cN, A, E, N, mj, p1, pF, pM, pA, h1, h2, h3, h4, h5, h6, h7, h8, h9, h10⟩ := h
  refine ⟨tx, cN, A, E, N, mj, p1, pF, pM, pA, h1.mono (fun k hk => hI k (by revert k; decide)) (fun k hk => hR k (by revert k; decide)), h2.mono (fun k hk => hI k (by revert k; decide)) (fun k hk => hR k (by revert k; decide)), h3.mono (fun k hk => by cases hk) (fun k hk => hR k (by revert k; decide)), (hI 51 (by decide)).trans h4, (hI 52 (by decide)).trans h5, (hI 53 (by decide)).trans h6, h7, h8, h9, h10.mono hI hR⟩
/-- what is kept, if anything is -/
def KPR (ko : Option (Nat × (Nat → Int32))) (I : rI) (R : rR) : Prop := match ko with
  | none => ∃ kn : Int32, I 18 = some kn ∧ kn < 0
  | some p => I 18 = some (nI p.1) ∧ p.1 ≤ 65540 ∧ BX 14 p.1 p.2 I R ∧ s_read p.2 p.1 = none ∧ XKV p.2 p.1 I R
theorem KPR.mono {ko : Option (Nat × (Nat → Int32))} (h : KPR ko I R) (hI : ∀ k, k ∈ [18, 3, 8, 16, 49, 51, 52, 53, 25, 26, 54, 58, 61, 65, 66, 68, 69, 70, 71, 72] → I' k = I k) (hR : ∀ k, k ∈ [14, 1, 4, 5, 6, 7, 12, 21, 22, 28, 29, 35, 36] → R' k = R k) : KPR ko I' R' := by
  cases ko with
  | none =>
    obtain ⟨kn, h1, h2⟩ := h
    exact ⟨kn, (hI 18 (by decide)).trans h1, h2⟩
  | some p =>
    obtain ⟨h1, h2, h3, h4, h5⟩ := h
    exact ⟨(hI 18 (by decide)).trans h1, h2, h3.mono (fun k hk => by cases hk) (fun k hk => hR k (by revert k; decide)), h4, h5.mono (fun k hk => hI k (by revert k; decide)) (fun k hk => hR k (by revert k; decide))⟩
end XKA
set_option maxHeartbeats 4000000 in
theorem rd_checkFile2 {g : xe_G} {m0 : Nat} {q : Nat → Nat} {z : Nat × Nat} {I : rI} {R : rR} {M : mi_H} {n : Nat} {f : Nat → Int32} {tx : List (List Nat)} {cN : Nat} {A : Nat → Nat} {s1 s2 s3 : Nat} (hR : RS g m0 q z I R M) (hi20 : I 20 = some 0) (hi25 : I 25 = some 0) (hi26 : I 26 = some 0) (hi9 : I 9 = some (nI s1)) (hi10 : I 10 = some (nI s2)) (hi11 : I 11 = some (nI s3)) (hF : FK n f I R) (hY : SYT tx cN A I R) (hK : KX I R) (hs1 : s1 < tx.length ∧ tx.getD s1 [] = ltx 25) (hs2 : s2 < tx.length ∧ tx.getD s2 [] = ltx 26) (hs3 : s3 < tx.length ∧ tx.getD s3 [] = ltx 27) : pt (mT g) 190 [.ref m0] M (fun v M' => (∃  (I' : rI) (R' : rR), (s_read f n = none) ∧ v = some (.int 1) ∧ RS g m0 q z I' R' M' ∧ eqI [3, 8, 20, 25, 26, 47, 48, 50, 51, 52, 53, 54, 55, 56, 57, 58, 59, 60, 61, 65, 66, 67, 68, 69, 70, 71, 72] I I' ∧ eqR [1, 2, 4, 5, 6, 7, 21, 22, 27, 28, 29, 30, 31, 32, 33, 34, 35, 36, 37, 38, 39, 40, 41, 42, 43, 44, 45, 46] R R' ∧ XKV f n I' R') ∨ (∃ (e9 : Nat × Nat) (I' : rI) (R' : rR), (s_read f n = some e9) ∧ v = some (.int 0) ∧ RS g m0 q z I' R' M' ∧ eqI [3, 8, 20, 25, 26, 47, 48, 50, 51, 52, 53, 54, 55, 56, 57, 58, 59, 60, 61, 65, 66, 67, 68, 69, 70, 71, 72] I I' ∧ eqR [1, 2, 4, 5, 6, 7, 21, 22, 27, 28, 29, 30, 31, 32, 33, 34, 35, 36, 37, 38, 39, 40, 41, 42, 43, 44, 45, 46] R R' ∧ I' 47 = some (nI e9.1) ∧ I' 48 = some (nI e9.2))) := by
  refine pt_in (b := mb_190 g) rfl (fun kf => ?_)
  show pl (mT g) kf (mb_190 g).2 (0, [(0, .ref m0)], [], M) _
  have hEI : eqI [3, 8, 20, 25, 26, 47, 48, 50, 51, 52, 53, 54, 55, 56, 57, 58, 59, 60, 61, 65, 66, 67, 68, 69, 70, 71, 72] I I := eqI.rf
  have hER : eqR [1, 2, 4, 5, 6, 7, 21, 22, 27, 28, 29, 30, 31, 32, 33, 34, 35, 36, 37, 38, 39, 40, 41, 42, 43, 44, 45, 46] R R := eqR.rf
  have hn := hF.1
  have LL : ∀ (kf : Nat), (∀ (N mj p1 pF pM pA : Nat) (E : List (Nat × Nat)) (tx : List (List Nat)) (cN : Nat) (A : Nat → Nat) (M1 : mi_H) (I1 : rI) (R1 : rR), (RS g m0 q z I1 R1 M1) → (eqI [3, 8, 20, 25, 26, 47, 48, 50, 51, 52, 53, 54, 55, 56, 57, 58, 59, 60, 61, 65, 66, 67, 68, 69, 70, 71, 72] I I1) → (eqR [1, 2, 4, 5, 6, 7, 21, 22, 27, 28, 29, 30, 31, 32, 33, 34, 35, 36, 37, 38, 39, 40, 41, 42, 43, 44, 45, 46] R R1) → (I1 51 = some 0) → (I1 52 = some (nI N)) → (I1 53 = some (nI mj)) → (I1 54 = some (nI p1)) → (I1 55 = some (nI pF)) → (I1 56 = some (nI pM)) → (I1 57 = some (nI pA)) → (I1 25 = some (nI 0)) → (I1 26 = some (nI 0)) → (I1 71 = some (nI 0)) → (I1 66 = some 0) → (I1 65 = some (nI 0)) → (I1 68 = some (nI 0)) → (I1 69 = some (nI 0)) → (I1 70 = some (-1)) → (I1 72 = some (-1)) → (I1 9 = some (nI s1)) → (I1 10 = some (nI s2)) → (I1 11 = some (nI s3)) → (FK n f I1 R1) → (SYT tx cN A I1 R1) → (RPV f n E tx N I1 R1) → (KX I1 R1) → (N = by2 f 8) → (mj = by2 f 6) → (s_whole f n = .inr (E, p1, pF, pM, pA)) → (s1 < tx.length ∧ tx.getD s1 [] = ltx 25) → (s2 < tx.length ∧ tx.getD s2 [] = ltx 26) → (s3 < tx.length ∧ tx.getD s3 [] = ltx 27) → (s_class f n p1 = .inr pF) → (s_mbs f n pF = .inr pM) → (s_mbs f n pM = .inr pA) → (s_attributes f n pA = .inr n) →  pl (mT g) kf (mb_190 g).2 (47, [(0, .ref m0)], [], M1) (fun v M' => (∃  (I' : rI) (R' : rR), (s_read f n = none) ∧ v = some (.int 1) ∧ RS g m0 q z I' R' M' ∧ eqI [3, 8, 20, 25, 26, 47, 48, 50, 51, 52, 53, 54, 55, 56, 57, 58, 59, 60, 61, 65, 66, 67, 68, 69, 70, 71, 72] I I' ∧ eqR [1, 2, 4, 5, 6, 7, 21, 22, 27, 28, 29, 30, 31, 32, 33, 34, 35, 36, 37, 38, 39, 40, 41, 42, 43, 44, 45, 46] R R' ∧ XKV f n I' R') ∨ (∃ (e9 : Nat × Nat) (I' : rI) (R' : rR), (s_read f n = some e9) ∧ v = some (.int 0) ∧ RS g m0 q z I' R' M' ∧ eqI [3, 8, 20, 25, 26, 47, 48, 50, 51, 52, 53, 54, 55, 56, 57, 58, 59, 60, 61, 65, 66, 67, 68, 69, 70, 71, 72] I I' ∧ eqR [1, 2, 4, 5, 6, 7, 21, 22, 27, 28, 29, 30, 31, 32, 33, 34, 35, 36, 37, 38, 39, 40, 41, 42, 43, 44, 45, 46] R R' ∧ I' 47 = some (nI e9.1) ∧ I' 48 = some (nI e9.2)))) ∧ (∀ (N mj bc k p1 pF pM pA : Nat) (K : KT) (E : List (Nat × Nat)) (tx : List (List Nat)) (cN : Nat) (A : Nat → Nat) (M1 : mi_H) (I1 : rI) (R1 : rR), (RS g m0 q z I1 R1 M1) → (eqI [3, 8, 20, 25, 26, 47, 48, 50, 51, 52, 53, 54, 55, 56, 57, 58, 59, 60, 61, 65, 66, 67, 68, 69, 70, 71, 72] I I1) → (eqR [1, 2, 4, 5, 6, 7, 21, 22, 27, 28, 29, 30, 31, 32, 33, 34, 35, 36, 37, 38, 39, 40, 41, 42, 43, 44, 45, 46] R R1) → (I1 51 = some 0) → (I1 52 = some (nI N)) → (I1 53 = some (nI mj)) → (I1 71 = some (nI bc)) → (I1 25 = some (nI (0 + (mbs f n (by2 f pF) (pF + 2)).length))) → (I1 26 = some (nI (0 + (mbs f n (by2 f pM) (pM + 2)).length))) → (I1 54 = some (nI p1)) → (I1 58 = some (nI (by2 f p1))) → (I1 61 = some (nI (by2 f (p1 + 6)))) → (I1 66 = some (nI K.1)) → (I1 65 = some (nI K.2.2.1)) → (I1 68 = some (nI K.2.2.2.1)) → (I1 69 = some (nI K.2.2.2.2.1)) → (I1 70 = some (b7 K)) → (I1 72 = some K.2.2.2.2.2) → (FK n f I1 R1) → (SYT tx cN A I1 R1) → (RPV f n E tx N I1 R1) → (FN 28 29 f n E tx (mbs f n (by2 f pF) (pF + 2)) 0 (mbs f n (by2 f pF) (pF + 2)).length I1 R1) → (FN 35 36 f n E tx (mbs f n (by2 f pM) (pM + 2)) 0 (mbs f n (by2 f pM) (pM + 2)).length I1 R1) → (EP f n E) → (N < 65536) → (mj < 65536) → (bc < 65536) → (1 ≤ k ∧ k ≤ N) → (s_read f n = chkB f E bc (N - 1) 1) → (chkB f E bc (N - k) k = chkB f E bc (N - 1) 1) → (N = by2 f 8) → (mj = by2 f 6) → (s_whole f n = .inr (E, p1, pF, pM, pA)) → (s_class f n p1 = .inr pF) → (s_mbs f n pF = .inr pM) → (s_mbs f n pM = .inr pA) → (s_attributes f n pA = .inr n) → (clS f n E (by2 f p1) mj (by2 f pA) (pA + 2) 0 0 = .inr bc) → (clU f n E mj (by2 f pA) (pA + 2) (0, 0, 0, 0, 0, -1) = K) →  pl (mT g) kf (mb_190 g).2 (94, [(0, .ref m0), (1, .int (nI k))], [], M1) (fun v M' => (∃  (I' : rI) (R' : rR), (s_read f n = none) ∧ v = some (.int 1) ∧ RS g m0 q z I' R' M' ∧ eqI [3, 8, 20, 25, 26, 47, 48, 50, 51, 52, 53, 54, 55, 56, 57, 58, 59, 60, 61, 65, 66, 67, 68, 69, 70, 71, 72] I I' ∧ eqR [1, 2, 4, 5, 6, 7, 21, 22, 27, 28, 29, 30, 31, 32, 33, 34, 35, 36, 37, 38, 39, 40, 41, 42, 43, 44, 45, 46] R R' ∧ XKV f n I' R') ∨ (∃ (e9 : Nat × Nat) (I' : rI) (R' : rR), (s_read f n = some e9) ∧ v = some (.int 0) ∧ RS g m0 q z I' R' M' ∧ eqI [3, 8, 20, 25, 26, 47, 48, 50, 51, 52, 53, 54, 55, 56, 57, 58, 59, 60, 61, 65, 66, 67, 68, 69, 70, 71, 72] I I' ∧ eqR [1, 2, 4, 5, 6, 7, 21, 22, 27, 28, 29, 30, 31, 32, 33, 34, 35, 36, 37, 38, 39, 40, 41, 42, 43, 44, 45, 46] R R' ∧ I' 47 = some (nI e9.1) ∧ I' 48 = some (nI e9.2)))) := by
    intro kf
    induction kf with
    | zero => exact ⟨by intros; exact pl_0, by intros; exact pl_0⟩
    | succ kf ih =>
      refine ⟨?_, ?_⟩
      · skip
        intro N mj p1 pF pM pA E tx cN A M1 I1 R1 hR1 hEI1 hER1 hl51 hl52 hl53 hl54 hl55 hl56 hl57 hl25 hl26 hl71 hl66 hl65 hl68 hl69 hl70 hl72 hl9 hl10 hl11 hF1 hY1 hP1 hK1 hN8 hm6 hwh hs1 hs2 hs3 hc hf hm ha
        have hn := hF1.1
        obtain ⟨hEP, hN0⟩ := EP_of (whole_in hwh)
        have hN : N < 65536 := by rw [hN8]; exact by2_lt _ _
        have hmj : mj < 65536 := by rw [hm6]; exact by2_lt _ _
        have hN1 : 1 ≤ N := by omega
        have hin := (s_class_in hc).1
        have hMF := MBS_of hf
        have hMM := MBS_of hm
        have hat := atE_at ha
        have hb1 := by2_lt f pF
        have hb2 := by2_lt f pM
        have hcf := by2_lt f p1
        refine ps_st1 (S' := (48, [(0, .ref m0)], [.ref m0], M1)) rfl rfl rfl ?_
        refine pl_call (a := [.ref m0]) (rest := []) rfl rfl rfl (rd_checkPool (n := n) (f := f) (tx := tx) (cN := cN) (A := A) (N := N) (mj := mj) (E := E) (s1 := s1) hR1 hl51 hl52 hl53 hl9 hF1 hY1 hP1 (hEP) (hN) (hmj) (hs1) (hN1)) (fun v1 M2 q3 => ?_)
        rcases q3 with q3 | q3
        · skip
          obtain ⟨I4, R5, q48_s, rfl, hR6, hI7, hX8⟩ := q3
          have hi12 := (hI7 51 (by decide)).trans hl51
          have hi13 := (hI7 52 (by decide)).trans hl52
          have hi14 := (hI7 53 (by decide)).trans hl53
          have hi15 := (hI7 54 (by decide)).trans hl54
          have hi16 := (hI7 55 (by decide)).trans hl55
          have hi17 := (hI7 56 (by decide)).trans hl56
          have hi18 := (hI7 57 (by decide)).trans hl57
          have hi19 := (hI7 25 (by decide)).trans hl25
          have hi21 := (hI7 26 (by decide)).trans hl26
          have hi22 := (hI7 71 (by decide)).trans hl71
          have hi23 := (hI7 66 (by decide)).trans hl66
          have hi24 := (hI7 65 (by decide)).trans hl65
          have hi27 := (hI7 68 (by decide)).trans hl68
          have hi28 := (hI7 69 (by decide)).trans hl69
          have hi29 := (hI7 70 (by decide)).trans hl70
          have hi30 := (hI7 72 (by decide)).trans hl72
          have hi31 := (hI7 9 (by decide)).trans hl9
          have hi32 := (hI7 10 (by decide)).trans hl10
          have hi33 := (hI7 11 (by decide)).trans hl11
          have hF_34 := hF1.mono (cIx hI7 (by decide)) (cRx hX8 (by decide))
          have hY_35 := hY1.mono (cIx hI7 (by decide)) (cRx hX8 (by decide))
          have hP_36 := hP1.mono (cIx hI7 (by decide)) (cRx hX8 (by decide))
          have hK_37 := hK1.mono (cIx hI7 (by decide)) (cRx hX8 (by decide))
          have hEI38 := hEI1.tr hI7 (by decide)
          have hER39 := hER1.tr hX8 (by decide)
          show pl _ _ _ (51, [(0, .ref m0)], [.int 1], M2) _
          have hCP := CP_of q48_s hP1.1
          refine ps_if (S1 := (75, [], [], M2)) (S2 := (54, [(0, .ref m0)], [], M2)) rfl rfl rfl (fun c_51 => ?_) (fun c_51 => ?_)
          · exact absurd (of_decide_eq_true c_51) (by decide)
          refine ps_st (S' := (55, [(0, .ref m0)], [.ref m0], M2)) rfl rfl rfl ?_
          refine pl_call (a := [.ref m0]) (rest := []) rfl rfl rfl (rd_checkClass (n := n) (f := f) (tx := tx) (cN := cN) (A := A) (N := N) (mj := mj) (E := E) (hA := p1) (s3 := s3) hR6 hi15 hi33 hi12 hi13 hi14 hF_34 hY_35 hP_36 (hEP) (hN) (hmj) (hs3) (hCP) (hin)) (fun v40 M41 q42 => ?_)
          rcases q42 with q42 | q42
          · skip
            obtain ⟨I43, R44, q55_s, rfl, hR45, hI46, hX47, hi48, hi49⟩ := q42
            have hi50 := (hI46 51 (by decide)).trans hi12
            have hi51 := (hI46 52 (by decide)).trans hi13
            have hi52 := (hI46 53 (by decide)).trans hi14
            have hi53 := (hI46 54 (by decide)).trans hi15
            have hi54 := (hI46 55 (by decide)).trans hi16
            have hi55 := (hI46 56 (by decide)).trans hi17
            have hi56 := (hI46 57 (by decide)).trans hi18
            have hi57 := (hI46 25 (by decide)).trans hi19
            have hi58 := (hI46 26 (by decide)).trans hi21
            have hi59 := (hI46 71 (by decide)).trans hi22
            have hi60 := (hI46 66 (by decide)).trans hi23
            have hi61 := (hI46 65 (by decide)).trans hi24
            have hi62 := (hI46 68 (by decide)).trans hi27
            have hi63 := (hI46 69 (by decide)).trans hi28
            have hi64 := (hI46 70 (by decide)).trans hi29
            have hi65 := (hI46 72 (by decide)).trans hi30
            have hi66 := (hI46 9 (by decide)).trans hi31
            have hi67 := (hI46 10 (by decide)).trans hi32
            have hi68 := (hI46 11 (by decide)).trans hi33
            have hF_69 := hF_34.mono (cIx hI46 (by decide)) (cRx hX47 (by decide))
            have hY_70 := hY_35.mono (cIx hI46 (by decide)) (cRx hX47 (by decide))
            have hP_71 := hP_36.mono (cIx hI46 (by decide)) (cRx hX47 (by decide))
            have hK_72 := hK_37.mono (cIx hI46 (by decide)) (cRx hX47 (by decide))
            have hEI73 := hEI38.tr hI46 (by decide)
            have hER74 := hER39.tr hX47 (by decide)
            show pl _ _ _ (58, [(0, .ref m0)], [.int 1], M41) _
            refine ps_if (S1 := (75, [], [], M41)) (S2 := (61, [(0, .ref m0)], [], M41)) rfl rfl rfl (fun c_58 => ?_) (fun c_58 => ?_)
            · exact absurd (of_decide_eq_true c_58) (by decide)
            refine ps_st (S' := (62, [(0, .ref m0)], [.ref m0], M41)) rfl rfl rfl ?_
            refine pl_call (a := [.ref m0]) (rest := []) rfl rfl rfl (rd_checkFields2 (n := n) (f := f) (tx := tx) (cN := cN) (A := A) (N := N) (mj := mj) (E := E) (pF := pF) (f0 := 0) (cf := (by2 f p1)) (B := (mbs f n (by2 f pF) (pF + 2))) (E1 := (fun i => mE f n ((mbs f n (by2 f pF) (pF + 2)).getD i 0))) hR45 hi50 hi51 hi52 hi48 hi54 hi57 hF_69 hY_70 hP_71 hK_72 (hEP) (hN) (hmj) (hMF) (by omega) (hcf)) (fun v75 M76 q77 => ?_)
            rcases q77 with q77 | q77
            · skip
              obtain ⟨I78, R79, q62_s, rfl, hR80, hI81, hX82, hi83, hN9_84⟩ := q77
              have hi85 := (hI81 51 (by decide)).trans hi50
              have hi86 := (hI81 52 (by decide)).trans hi51
              have hi87 := (hI81 53 (by decide)).trans hi52
              have hi88 := (hI81 54 (by decide)).trans hi53
              have hi89 := (hI81 55 (by decide)).trans hi54
              have hi90 := (hI81 56 (by decide)).trans hi55
              have hi91 := (hI81 57 (by decide)).trans hi56
              have hi92 := (hI81 26 (by decide)).trans hi58
              have hi93 := (hI81 71 (by decide)).trans hi59
              have hi94 := (hI81 66 (by decide)).trans hi60
              have hi95 := (hI81 65 (by decide)).trans hi61
              have hi96 := (hI81 68 (by decide)).trans hi62
              have hi97 := (hI81 69 (by decide)).trans hi63
              have hi98 := (hI81 70 (by decide)).trans hi64
              have hi99 := (hI81 72 (by decide)).trans hi65
              have hi100 := (hI81 9 (by decide)).trans hi66
              have hi101 := (hI81 10 (by decide)).trans hi67
              have hi102 := (hI81 11 (by decide)).trans hi68
              have hi103 := (hI81 58 (by decide)).trans hi48
              have hi104 := (hI81 61 (by decide)).trans hi49
              have hF_105 := hF_69.mono (cIx hI81 (by decide)) (cRx hX82 (by decide))
              have hY_106 := hY_70.mono (cIx hI81 (by decide)) (cRx hX82 (by decide))
              have hP_107 := hP_71.mono (cIx hI81 (by decide)) (cRx hX82 (by decide))
              have hK_108 := hK_72.mono (cIx hI81 (by decide)) (cRx hX82 (by decide))
              have hEI109 := hEI73.tr hI81 (by decide)
              have hER110 := hER74.tr hX82 (by decide)
              show pl _ _ _ (65, [(0, .ref m0)], [.int 1], M76) _
              refine ps_if (S1 := (75, [], [], M76)) (S2 := (68, [(0, .ref m0)], [], M76)) rfl rfl rfl (fun c_65 => ?_) (fun c_65 => ?_)
              · exact absurd (of_decide_eq_true c_65) (by decide)
              refine ps_st (S' := (69, [(0, .ref m0)], [.ref m0], M76)) rfl rfl rfl ?_
              refine pl_call (a := [.ref m0]) (rest := []) rfl rfl rfl (rd_checkMethods2 (n := n) (f := f) (tx := tx) (cN := cN) (A := A) (N := N) (mj := mj) (E := E) (pM := pM) (f0 := 0) (cf := (by2 f p1)) (si := s1) (sc := s2) (B := (mbs f n (by2 f pM) (pM + 2))) (E1 := (fun i => mE f n ((mbs f n (by2 f pM) (pM + 2)).getD i 0))) hR80 hi85 hi86 hi87 hi103 hi90 hi92 hi100 hi101 hF_105 hY_106 hP_107 hK_108 (hEP) (hN) (hmj) (hMM) (by omega) (hcf) (⟨hs1.1, hs1.2.trans lt_eq.2.1⟩) (⟨hs2.1, hs2.2.trans lt_eq.2.2.1⟩)) (fun v111 M112 q113 => ?_)
              rcases q113 with q113 | q113
              · skip
                obtain ⟨I114, R115, q69_s, rfl, hR116, hI117, hX118, hi119, hN9_120⟩ := q113
                have hi121 := (hI117 51 (by decide)).trans hi85
                have hi122 := (hI117 52 (by decide)).trans hi86
                have hi123 := (hI117 53 (by decide)).trans hi87
                have hi124 := (hI117 54 (by decide)).trans hi88
                have hi125 := (hI117 55 (by decide)).trans hi89
                have hi126 := (hI117 56 (by decide)).trans hi90
                have hi127 := (hI117 57 (by decide)).trans hi91
                have hi128 := (hI117 71 (by decide)).trans hi93
                have hi129 := (hI117 66 (by decide)).trans hi94
                have hi130 := (hI117 65 (by decide)).trans hi95
                have hi131 := (hI117 68 (by decide)).trans hi96
                have hi132 := (hI117 69 (by decide)).trans hi97
                have hi133 := (hI117 70 (by decide)).trans hi98
                have hi134 := (hI117 72 (by decide)).trans hi99
                have hi135 := (hI117 9 (by decide)).trans hi100
                have hi136 := (hI117 10 (by decide)).trans hi101
                have hi137 := (hI117 11 (by decide)).trans hi102
                have hi138 := (hI117 58 (by decide)).trans hi103
                have hi139 := (hI117 61 (by decide)).trans hi104
                have hi140 := (hI117 25 (by decide)).trans hi83
                have hF_141 := hF_105.mono (cIx hI117 (by decide)) (cRx hX118 (by decide))
                have hY_142 := hY_106.mono (cIx hI117 (by decide)) (cRx hX118 (by decide))
                have hP_143 := hP_107.mono (cIx hI117 (by decide)) (cRx hX118 (by decide))
                have hK_144 := hK_108.mono (cIx hI117 (by decide)) (cRx hX118 (by decide))
                have hN1_145 := hN9_84.mono (cIx hI117 (by decide)) (cRx hX118 (by decide))
                have hEI146 := hEI109.tr hI117 (by decide)
                have hER147 := hER110.tr hX118 (by decide)
                show pl _ _ _ (72, [(0, .ref m0)], [.int 1], M112) _
                refine ps_if (S1 := (77, [(0, .ref m0)], [], M112)) (S2 := (75, [], [], M112)) rfl rfl rfl (fun c_72 => ?_) (fun c_72 => ?_)
                rotate_left
                · exact absurd (by decide) (of_decide_eq_false c_72)
                refine ps_st (S' := (78, [(0, .ref m0)], [.ref m0], M112)) rfl rfl rfl ?_
                refine ps_st (S' := (79, [(0, .ref m0)], [.ref m0, .ref m0], M112)) rfl rfl rfl ?_
                refine pr_int (j := 57) (S' := (82, [(0, .ref m0)], [.int (nI pA), .ref m0], M112)) rfl hR116 rfl hi127 rfl ?_
                refine ps_st (S' := (83, [(0, .ref m0)], [.int 4, .int (nI pA), .ref m0], M112)) rfl rfl rfl ?_
                refine ps_st (S' := (84, [(0, .ref m0)], [.int 0, .int 4, .int (nI pA), .ref m0], M112)) rfl rfl rfl ?_
                refine pl_call (a := [.ref m0, .int (nI pA), .int 4, .int 0]) (rest := []) rfl rfl rfl (rd_checkAttributes4 (n := n) (f := f) (tx := tx) (cN := cN) (A := A) (N := N) (mj := mj) (E := E) (p1 := pA) (e := n) (x := 0) (fl := (by2 f p1)) hR116 hi121 hi122 hi123 hi138 hi128 hi129 hi130 hi131 hi132 hi133 hi134 hF_141 hY_142 hP_143 hK_144 (hEP) (hN) (hmj) (⟨hat.1, hat.2.1⟩) (hat.2.2) (hcf)) (fun v148 M149 q150 => ?_)
                rcases q150 with q150 | q150
                · skip
                  obtain ⟨e9151, I152, R153, q84_s, rfl, hR154, hI155, hX156, hi157, hi158⟩ := q150
                  have hi159 := (hI155 51 (by decide)).trans hi121
                  have hi160 := (hI155 52 (by decide)).trans hi122
                  have hi161 := (hI155 53 (by decide)).trans hi123
                  have hi162 := (hI155 54 (by decide)).trans hi124
                  have hi163 := (hI155 55 (by decide)).trans hi125
                  have hi164 := (hI155 56 (by decide)).trans hi126
                  have hi165 := (hI155 57 (by decide)).trans hi127
                  have hi166 := (hI155 9 (by decide)).trans hi135
                  have hi167 := (hI155 10 (by decide)).trans hi136
                  have hi168 := (hI155 11 (by decide)).trans hi137
                  have hi169 := (hI155 58 (by decide)).trans hi138
                  have hi170 := (hI155 61 (by decide)).trans hi139
                  have hi171 := (hI155 25 (by decide)).trans hi140
                  have hi172 := (hI155 26 (by decide)).trans hi119
                  have hF_173 := hF_141.mono (cIx hI155 (by decide)) (cRx hX156 (by decide))
                  have hY_174 := hY_142.mono (cIx hI155 (by decide)) (cRx hX156 (by decide))
                  have hP_175 := hP_143.mono (cIx hI155 (by decide)) (cRx hX156 (by decide))
                  have hK_176 := hK_144.mono (cIx hI155 (by decide)) (cRx hX156 (by decide))
                  have hN1_177 := hN1_145.mono (cIx hI155 (by decide)) (cRx hX156 (by decide))
                  have hN2_178 := hN9_120.mono (cIx hI155 (by decide)) (cRx hX156 (by decide))
                  have hEI179 := hEI146.tr hI155 (by decide)
                  have hER180 := hER147.tr hX156 (by decide)
                  show pl _ _ _ (87, [(0, .ref m0)], [.int (-1)], M149) _
                  refine ps_if (S1 := (92, [(0, .ref m0)], [], M149)) (S2 := (90, [(0, .ref m0)], [], M149)) rfl rfl rfl (fun c_87 => ?_) (fun c_87 => ?_)
                  · exact absurd (of_decide_eq_true c_87) (by decide)
                  refine ps_st (S' := (91, [(0, .ref m0)], [.int 0], M149)) rfl rfl rfl ?_
                  exact ps_ret rfl rfl (Or.inr ⟨e9151, I152, R153, by
                      refine s_read_2 hwh ?_
                      rw [← hN8, ← hm6]
                      unfold s_chk
                      rw [q48_s]
                      dsimp only
                      obtain ⟨hh9, hh8⟩ := cc_none q55_s
                      rw [hh9]
                      dsimp only
                      rw [hh8]
                      dsimp only
                      rw [q62_s]
                      dsimp only
                      rw [q69_s]
                      dsimp only
                      rw [q84_s], rfl, hR154, hEI179, hER180, hi157, hi158⟩)
                · skip
                  obtain ⟨bc181, K182, I183, R184, q84_s, q84_U, rfl, hR185, hI186, hX187, hi188, hi189, hi190, hi191, hi192, hi193, hi194⟩ := q150
                  have hi195 := (hI186 51 (by decide)).trans hi121
                  have hi196 := (hI186 52 (by decide)).trans hi122
                  have hi197 := (hI186 53 (by decide)).trans hi123
                  have hi198 := (hI186 54 (by decide)).trans hi124
                  have hi199 := (hI186 55 (by decide)).trans hi125
                  have hi200 := (hI186 56 (by decide)).trans hi126
                  have hi201 := (hI186 57 (by decide)).trans hi127
                  have hi202 := (hI186 9 (by decide)).trans hi135
                  have hi203 := (hI186 10 (by decide)).trans hi136
                  have hi204 := (hI186 11 (by decide)).trans hi137
                  have hi205 := (hI186 58 (by decide)).trans hi138
                  have hi206 := (hI186 61 (by decide)).trans hi139
                  have hi207 := (hI186 25 (by decide)).trans hi140
                  have hi208 := (hI186 26 (by decide)).trans hi119
                  have hF_209 := hF_141.mono (cIx hI186 (by decide)) (cRx hX187 (by decide))
                  have hY_210 := hY_142.mono (cIx hI186 (by decide)) (cRx hX187 (by decide))
                  have hP_211 := hP_143.mono (cIx hI186 (by decide)) (cRx hX187 (by decide))
                  have hK_212 := hK_144.mono (cIx hI186 (by decide)) (cRx hX187 (by decide))
                  have hN1_213 := hN1_145.mono (cIx hI186 (by decide)) (cRx hX187 (by decide))
                  have hN2_214 := hN9_120.mono (cIx hI186 (by decide)) (cRx hX187 (by decide))
                  have hEI215 := hEI146.tr hI186 (by decide)
                  have hER216 := hER147.tr hX187 (by decide)
                  show pl _ _ _ (87, [(0, .ref m0)], [.int (nI n)], M149) _
                  refine ps_if (S1 := (92, [(0, .ref m0)], [], M149)) (S2 := (90, [(0, .ref m0)], [], M149)) rfl rfl rfl (fun c_87 => ?_) (fun c_87 => ?_)
                  rotate_left
                  · exact absurd ((le_nI (p := 0) (n := n) (by decide) (by omega)).mpr (by omega)) (of_decide_eq_false c_87)
                  refine ps_st (S' := (93, [(0, .ref m0)], [.int 1], M149)) rfl rfl rfl ?_
                  refine ps_st (S' := (94, [(0, .ref m0), (1, .int 1)], [], M149)) rfl rfl rfl ?_
                  exact ih.2 (N) (mj) (bc181) (1) (p1) (pF) (pM) (pA) (K182) (E) (tx) (cN) (A) M149 I183 R184 hR185 hEI215 hER216 hi195 hi196 hi197 hi188 hi207 hi208 hi198 hi205 hi206 hi189 hi190 hi191 hi192 hi193 hi194 hF_209 hY_210 hP_211 hN1_213 hN2_214 (hEP) (hN) (hmj) (clS_bc q84_s) (⟨Nat.le_refl _, hN1⟩) (by
                      refine s_read_2 hwh ?_
                      rw [← hN8, ← hm6]
                      unfold s_chk
                      rw [q48_s]
                      dsimp only
                      obtain ⟨hh9, hh8⟩ := cc_none q55_s
                      rw [hh9]
                      dsimp only
                      rw [hh8]
                      dsimp only
                      rw [q62_s]
                      dsimp only
                      rw [q69_s]
                      dsimp only
                      rw [q84_s]) (rfl) (hN8) (hm6) (hwh) (hc) (hf) (hm) (ha) (q84_s) (q84_U)
              · skip
                obtain ⟨e9217, I218, R219, q69_s, rfl, hR220, hI221, hX222, hi223, hi224⟩ := q113
                have hi225 := (hI221 51 (by decide)).trans hi85
                have hi226 := (hI221 52 (by decide)).trans hi86
                have hi227 := (hI221 53 (by decide)).trans hi87
                have hi228 := (hI221 54 (by decide)).trans hi88
                have hi229 := (hI221 55 (by decide)).trans hi89
                have hi230 := (hI221 56 (by decide)).trans hi90
                have hi231 := (hI221 57 (by decide)).trans hi91
                have hi232 := (hI221 71 (by decide)).trans hi93
                have hi233 := (hI221 66 (by decide)).trans hi94
                have hi234 := (hI221 65 (by decide)).trans hi95
                have hi235 := (hI221 68 (by decide)).trans hi96
                have hi236 := (hI221 69 (by decide)).trans hi97
                have hi237 := (hI221 70 (by decide)).trans hi98
                have hi238 := (hI221 72 (by decide)).trans hi99
                have hi239 := (hI221 9 (by decide)).trans hi100
                have hi240 := (hI221 10 (by decide)).trans hi101
                have hi241 := (hI221 11 (by decide)).trans hi102
                have hi242 := (hI221 58 (by decide)).trans hi103
                have hi243 := (hI221 61 (by decide)).trans hi104
                have hi244 := (hI221 25 (by decide)).trans hi83
                have hF_245 := hF_105.mono (cIx hI221 (by decide)) (cRx hX222 (by decide))
                have hY_246 := hY_106.mono (cIx hI221 (by decide)) (cRx hX222 (by decide))
                have hP_247 := hP_107.mono (cIx hI221 (by decide)) (cRx hX222 (by decide))
                have hK_248 := hK_108.mono (cIx hI221 (by decide)) (cRx hX222 (by decide))
                have hN1_249 := hN9_84.mono (cIx hI221 (by decide)) (cRx hX222 (by decide))
                have hEI250 := hEI109.tr hI221 (by decide)
                have hER251 := hER110.tr hX222 (by decide)
                show pl _ _ _ (72, [(0, .ref m0)], [.int 0], M112) _
                refine ps_if (S1 := (77, [(0, .ref m0)], [], M112)) (S2 := (75, [], [], M112)) rfl rfl rfl (fun c_72 => ?_) (fun c_72 => ?_)
                · exact absurd (of_decide_eq_true c_72) (by decide)
                refine ps_st (S' := (76, [], [.int 0], M112)) rfl rfl rfl ?_
                exact ps_ret rfl rfl (Or.inr ⟨e9217, I218, R219, by
                    refine s_read_2 hwh ?_
                    rw [← hN8, ← hm6]
                    unfold s_chk
                    rw [q48_s]
                    dsimp only
                    obtain ⟨hh9, hh8⟩ := cc_none q55_s
                    rw [hh9]
                    dsimp only
                    rw [hh8]
                    dsimp only
                    rw [q62_s]
                    dsimp only
                    rw [q69_s], rfl, hR220, hEI250, hER251, hi223, hi224⟩)
            · skip
              obtain ⟨e9252, I253, R254, q62_s, rfl, hR255, hI256, hX257, hi258, hi259⟩ := q77
              have hi260 := (hI256 51 (by decide)).trans hi50
              have hi261 := (hI256 52 (by decide)).trans hi51
              have hi262 := (hI256 53 (by decide)).trans hi52
              have hi263 := (hI256 54 (by decide)).trans hi53
              have hi264 := (hI256 55 (by decide)).trans hi54
              have hi265 := (hI256 56 (by decide)).trans hi55
              have hi266 := (hI256 57 (by decide)).trans hi56
              have hi267 := (hI256 26 (by decide)).trans hi58
              have hi268 := (hI256 71 (by decide)).trans hi59
              have hi269 := (hI256 66 (by decide)).trans hi60
              have hi270 := (hI256 65 (by decide)).trans hi61
              have hi271 := (hI256 68 (by decide)).trans hi62
              have hi272 := (hI256 69 (by decide)).trans hi63
              have hi273 := (hI256 70 (by decide)).trans hi64
              have hi274 := (hI256 72 (by decide)).trans hi65
              have hi275 := (hI256 9 (by decide)).trans hi66
              have hi276 := (hI256 10 (by decide)).trans hi67
              have hi277 := (hI256 11 (by decide)).trans hi68
              have hi278 := (hI256 58 (by decide)).trans hi48
              have hi279 := (hI256 61 (by decide)).trans hi49
              have hF_280 := hF_69.mono (cIx hI256 (by decide)) (cRx hX257 (by decide))
              have hY_281 := hY_70.mono (cIx hI256 (by decide)) (cRx hX257 (by decide))
              have hP_282 := hP_71.mono (cIx hI256 (by decide)) (cRx hX257 (by decide))
              have hK_283 := hK_72.mono (cIx hI256 (by decide)) (cRx hX257 (by decide))
              have hEI284 := hEI73.tr hI256 (by decide)
              have hER285 := hER74.tr hX257 (by decide)
              show pl _ _ _ (65, [(0, .ref m0)], [.int 0], M76) _
              refine ps_if (S1 := (75, [], [], M76)) (S2 := (68, [(0, .ref m0)], [], M76)) rfl rfl rfl (fun c_65 => ?_) (fun c_65 => ?_)
              rotate_left
              · exact absurd (by decide) (of_decide_eq_false c_65)
              refine ps_st (S' := (76, [], [.int 0], M76)) rfl rfl rfl ?_
              exact ps_ret rfl rfl (Or.inr ⟨e9252, I253, R254, by
                  refine s_read_2 hwh ?_
                  rw [← hN8, ← hm6]
                  unfold s_chk
                  rw [q48_s]
                  dsimp only
                  obtain ⟨hh9, hh8⟩ := cc_none q55_s
                  rw [hh9]
                  dsimp only
                  rw [hh8]
                  dsimp only
                  rw [q62_s], rfl, hR255, hEI284, hER285, hi258, hi259⟩)
          · skip
            obtain ⟨e286, I287, R288, q55_s, rfl, hR289, hI290, hX291, hi292, hi293⟩ := q42
            have hi294 := (hI290 51 (by decide)).trans hi12
            have hi295 := (hI290 52 (by decide)).trans hi13
            have hi296 := (hI290 53 (by decide)).trans hi14
            have hi297 := (hI290 54 (by decide)).trans hi15
            have hi298 := (hI290 55 (by decide)).trans hi16
            have hi299 := (hI290 56 (by decide)).trans hi17
            have hi300 := (hI290 57 (by decide)).trans hi18
            have hi301 := (hI290 25 (by decide)).trans hi19
            have hi302 := (hI290 26 (by decide)).trans hi21
            have hi303 := (hI290 71 (by decide)).trans hi22
            have hi304 := (hI290 66 (by decide)).trans hi23
            have hi305 := (hI290 65 (by decide)).trans hi24
            have hi306 := (hI290 68 (by decide)).trans hi27
            have hi307 := (hI290 69 (by decide)).trans hi28
            have hi308 := (hI290 70 (by decide)).trans hi29
            have hi309 := (hI290 72 (by decide)).trans hi30
            have hi310 := (hI290 9 (by decide)).trans hi31
            have hi311 := (hI290 10 (by decide)).trans hi32
            have hi312 := (hI290 11 (by decide)).trans hi33
            have hF_313 := hF_34.mono (cIx hI290 (by decide)) (cRx hX291 (by decide))
            have hY_314 := hY_35.mono (cIx hI290 (by decide)) (cRx hX291 (by decide))
            have hP_315 := hP_36.mono (cIx hI290 (by decide)) (cRx hX291 (by decide))
            have hK_316 := hK_37.mono (cIx hI290 (by decide)) (cRx hX291 (by decide))
            have hEI317 := hEI38.tr hI290 (by decide)
            have hER318 := hER39.tr hX291 (by decide)
            show pl _ _ _ (58, [(0, .ref m0)], [.int 0], M41) _
            refine ps_if (S1 := (75, [], [], M41)) (S2 := (61, [(0, .ref m0)], [], M41)) rfl rfl rfl (fun c_58 => ?_) (fun c_58 => ?_)
            rotate_left
            · exact absurd (by decide) (of_decide_eq_false c_58)
            refine ps_st (S' := (76, [], [.int 0], M41)) rfl rfl rfl ?_
            exact ps_ret rfl rfl (Or.inr ⟨e286, I287, R288, by
                refine s_read_2 hwh ?_
                rw [← hN8, ← hm6]
                unfold s_chk
                rw [q48_s]
                dsimp only
                exact cc_some q55_s, rfl, hR289, hEI317, hER318, hi292, hi293⟩)
        · skip
          obtain ⟨e319, I320, R321, q48_s, rfl, hR322, hI323, hX324, hi325, hi326⟩ := q3
          have hi327 := (hI323 51 (by decide)).trans hl51
          have hi328 := (hI323 52 (by decide)).trans hl52
          have hi329 := (hI323 53 (by decide)).trans hl53
          have hi330 := (hI323 54 (by decide)).trans hl54
          have hi331 := (hI323 55 (by decide)).trans hl55
          have hi332 := (hI323 56 (by decide)).trans hl56
          have hi333 := (hI323 57 (by decide)).trans hl57
          have hi334 := (hI323 25 (by decide)).trans hl25
          have hi335 := (hI323 26 (by decide)).trans hl26
          have hi336 := (hI323 71 (by decide)).trans hl71
          have hi337 := (hI323 66 (by decide)).trans hl66
          have hi338 := (hI323 65 (by decide)).trans hl65
          have hi339 := (hI323 68 (by decide)).trans hl68
          have hi340 := (hI323 69 (by decide)).trans hl69
          have hi341 := (hI323 70 (by decide)).trans hl70
          have hi342 := (hI323 72 (by decide)).trans hl72
          have hi343 := (hI323 9 (by decide)).trans hl9
          have hi344 := (hI323 10 (by decide)).trans hl10
          have hi345 := (hI323 11 (by decide)).trans hl11
          have hF_346 := hF1.mono (cIx hI323 (by decide)) (cRx hX324 (by decide))
          have hY_347 := hY1.mono (cIx hI323 (by decide)) (cRx hX324 (by decide))
          have hP_348 := hP1.mono (cIx hI323 (by decide)) (cRx hX324 (by decide))
          have hK_349 := hK1.mono (cIx hI323 (by decide)) (cRx hX324 (by decide))
          have hEI350 := hEI1.tr hI323 (by decide)
          have hER351 := hER1.tr hX324 (by decide)
          show pl _ _ _ (51, [(0, .ref m0)], [.int 0], M2) _
          refine ps_if (S1 := (75, [], [], M2)) (S2 := (54, [(0, .ref m0)], [], M2)) rfl rfl rfl (fun c_51 => ?_) (fun c_51 => ?_)
          rotate_left
          · exact absurd (by decide) (of_decide_eq_false c_51)
          refine ps_st (S' := (76, [], [.int 0], M2)) rfl rfl rfl ?_
          exact ps_ret rfl rfl (Or.inr ⟨e319, I320, R321, by
              refine s_read_2 hwh ?_
              rw [← hN8, ← hm6]
              unfold s_chk
              rw [q48_s], rfl, hR322, hEI350, hER351, hi325, hi326⟩)
      · skip
        intro N mj bc k p1 pF pM pA K E tx cN A M1 I1 R1 hR1 hEI1 hER1 hl51 hl52 hl53 hl71 hl25 hl26 hl54 hl58 hl61 hl66 hl65 hl68 hl69 hl70 hl72 hF1 hY1 hP1 hN11 hN21 hEP hN hmj hbc hk hr hs hN8 hm6 hwh hc hf hm ha hB hU
        have hn := hF1.1
        refine ps_st1 (S' := (95, [(0, .ref m0), (1, .int (nI k))], [.int (nI k)], M1)) rfl rfl rfl ?_
        refine ps_st (S' := (96, [(0, .ref m0), (1, .int (nI k))], [.ref m0, .int (nI k)], M1)) rfl rfl rfl ?_
        refine pr_int (j := 52) (S' := (99, [(0, .ref m0), (1, .int (nI k))], [.int (nI N), .int (nI k)], M1)) rfl hR1 rfl hl52 rfl ?_
        refine ps_if2 (S1 := (157, [(0, .ref m0), (1, .int (nI k))], [], M1)) (S2 := (102, [(0, .ref m0), (1, .int (nI k))], [], M1)) rfl rfl rfl (fun c_99 => ?_) (fun c_99 => ?_)
        · have c_99 : (nI N) ≤ (nI k) := of_decide_eq_true c_99
          have n_99 : N ≤ k := (le_nI (p := N) (n := k) (by omega) (by omega)).mp c_99
          refine ps_st (S' := (158, [(0, .ref m0), (1, .int (nI k))], [.int 1], M1)) rfl rfl rfl ?_
          exact ps_ret rfl rfl (Or.inl ⟨I1, R1, by
              rw [hr, ← hs, show N - k = 0 by omega]
              rfl, rfl, hR1, hEI1, hER1, ⟨tx, cN, A, E, N, mj, p1, pF, pM, pA, hF1, hY1, hP1, hl51, hl52, hl53, hwh, hN8, hm6, by rw [← Nat.zero_add (mbs f n (by2 f pF) (pF + 2)).length]; exact hl25, by rw [← Nat.zero_add (mbs f n (by2 f pM) (pM + 2)).length]; exact hl26, hN11, hN21, hf, hm, hc, ha, ⟨hl54, hl58, hl61⟩, bc, K, by rw [← hm6]; exact hB, by rw [← hm6]; exact hU, hl71, hl66, hl65, hl68, hl69, hl70, hl72⟩⟩)
        · have c_99 : ¬ ((nI N) ≤ (nI k)) := of_decide_eq_false c_99
          have n_99 : ¬ (N ≤ k) := fun h9 => c_99 ((le_nI (p := N) (n := k) (by omega) (by omega)).mpr h9)
          refine ps_st (S' := (103, [(0, .ref m0), (1, .int (nI k))], [.ref m0], M1)) rfl rfl rfl ?_
          refine ps_st (S' := (104, [(0, .ref m0), (1, .int (nI k))], [.int (nI k), .ref m0], M1)) rfl rfl rfl ?_
          refine pl_call (a := [.ref m0, .int (nI k)]) (rest := []) rfl rfl rfl (rd_tag (n := n) (f := f) (tx := tx) (cN := cN) (A := A) (N := N) (mj := mj) (E := E) (k := k) hR1 hl51 hl52 hl53 hF1 hY1 hP1 (hEP) (hN) (hmj) (by omega)) (fun v352 M353 q354 => ?_)
          obtain ⟨rfl, rfl⟩ := q354
          show pl _ _ _ (107, [(0, .ref m0), (1, .int (nI k))], [.int (nI (tg f E k))], M1) _
          have htg_104 := tg_lt f E k
          refine ps_st (S' := (108, [(2, .int (nI (tg f E k))), (0, .ref m0), (1, .int (nI k))], [], M1)) rfl rfl rfl ?_
          refine ps_st (S' := (109, [(2, .int (nI (tg f E k))), (0, .ref m0), (1, .int (nI k))], [.int (nI (tg f E k))], M1)) rfl rfl rfl ?_
          refine ps_st (S' := (111, [(2, .int (nI (tg f E k))), (0, .ref m0), (1, .int (nI k))], [.int 17, .int (nI (tg f E k))], M1)) rfl rfl rfl ?_
          refine ps_if2 (S1 := (120, [(0, .ref m0), (1, .int (nI k))], [], M1)) (S2 := (114, [(2, .int (nI (tg f E k))), (0, .ref m0), (1, .int (nI k))], [], M1)) rfl rfl rfl (fun c_111 => ?_) (fun c_111 => ?_)
          · have c_111 : (nI (tg f E k)) = 17 := of_decide_eq_true c_111
            have n_111 : tg f E k = 17 := (eq_nI (p := tg f E k) (n := 17) (Nat.lt_trans (tg_lt _ _ _) (by decide)) (by decide)).mp c_111
            refine ps_st (S' := (121, [(0, .ref m0), (1, .int (nI k))], [.ref m0], M1)) rfl rfl rfl ?_
            refine ps_st (S' := (122, [(0, .ref m0), (1, .int (nI k))], [.int (nI k), .ref m0], M1)) rfl rfl rfl ?_
            refine ps_st (S' := (123, [(0, .ref m0), (1, .int (nI k))], [.int 1, .int (nI k), .ref m0], M1)) rfl rfl rfl ?_
            refine pl_call (a := [.ref m0, .int (nI k), .int 1]) (rest := []) rfl rfl rfl (rd_idx1 (n := n) (f := f) (tx := tx) (cN := cN) (A := A) (N := N) (mj := mj) (E := E) (k := k) hR1 hl51 hl52 hl53 hF1 hY1 hP1 (hEP) (hN) (hmj) (by omega)) (fun v355 M356 q357 => ?_)
            obtain ⟨rfl, rfl⟩ := q357
            show pl _ _ _ (126, [(0, .ref m0), (1, .int (nI k))], [.int (nI (fi f E k))], M1) _
            have hix_123 := fi_lt f E k
            refine ps_st (S' := (127, [(0, .ref m0), (1, .int (nI k))], [.ref m0, .int (nI (fi f E k))], M1)) rfl rfl rfl ?_
            refine pr_int (j := 71) (S' := (130, [(0, .ref m0), (1, .int (nI k))], [.int (nI bc), .int (nI (fi f E k))], M1)) rfl hR1 rfl hl71 rfl ?_
            refine ps_if2 (S1 := (151, [(0, .ref m0), (1, .int (nI k))], [], M1)) (S2 := (133, [(0, .ref m0), (1, .int (nI k))], [], M1)) rfl rfl rfl (fun c_130 => ?_) (fun c_130 => ?_)
            · have c_130 : (nI (fi f E k)) < (nI bc) := of_decide_eq_true c_130
              have n_130 : fi f E k < bc := (lt_nI (p := fi f E k) (n := bc) (Nat.lt_trans (fi_lt _ _ _) (by decide)) (by omega)).mp c_130
              refine ps_st (S' := (154, [(1, .int ((nI k) + 1)), (0, .ref m0)], [], M1)) rfl rfl rfl ?_
              rw [nI_add1 (p := k) (k := 1) (x := 1) rfl (by omega)]
              show pl _ _ _ (_, [(1, .int (nI (k + 1))), (0, .ref m0)], [], M1) _
              refine ps_st (S' := (94, [(0, .ref m0), (1, .int (nI (k + 1)))], [], M1)) rfl rfl rfl ?_
              exact ih.2 (N) (mj) (bc) (k + 1) (p1) (pF) (pM) (pA) (K) (E) (tx) (cN) (A) M1 I1 R1 hR1 hEI1 hER1 hl51 hl52 hl53 hl71 hl25 hl26 hl54 hl58 hl61 hl66 hl65 hl68 hl69 hl70 hl72 hF1 hY1 hP1 hN11 hN21 (hEP) (hN) (hmj) (hbc) (by omega) (hr) (by
                  rw [← hs, chkB_st (k := k) (by omega), if_neg (by omega)]) (hN8) (hm6) (hwh) (hc) (hf) (hm) (ha) (hB) (hU)
            · have c_130 : ¬ ((nI (fi f E k)) < (nI bc)) := of_decide_eq_false c_130
              have n_130 : ¬ (fi f E k < bc) := fun h9 => c_130 ((lt_nI (p := fi f E k) (n := bc) (Nat.lt_trans (fi_lt _ _ _) (by decide)) (by omega)).mpr h9)
              obtain ⟨p, hk9, hb9⟩ := tg_lk (f := f) (E := E) (k := k) (by omega)
              have hep9 := hEP k p hk9
              refine ps_st (S' := (134, [(0, .ref m0), (1, .int (nI k))], [.ref m0], M1)) rfl rfl rfl ?_
              refine ps_st (S' := (136, [(0, .ref m0), (1, .int (nI k))], [.int 40, .ref m0], M1)) rfl rfl rfl ?_
              refine ps_st (S' := (137, [(0, .ref m0), (1, .int (nI k))], [.ref m0, .int 40, .ref m0], M1)) rfl rfl rfl ?_
              refine pr_ref (j := 21) (S' := (140, [(0, .ref m0), (1, .int (nI k))], [.ref (q 21), .int 40, .ref m0], M1)) rfl hR1 rfl rfl ?_
              refine ps_st (S' := (141, [(0, .ref m0), (1, .int (nI k))], [.ref m0, .ref (q 21), .int 40, .ref m0], M1)) rfl rfl rfl ?_
              refine pr_int (j := 51) (S' := (144, [(0, .ref m0), (1, .int (nI k))], [.int 0, .ref (q 21), .int 40, .ref m0], M1)) rfl hR1 rfl hl51 rfl ?_
              refine ps_st (S' := (145, [(0, .ref m0), (1, .int (nI k))], [.int (nI k), .int 0, .ref (q 21), .int 40, .ref m0], M1)) rfl rfl rfl ?_
              refine ps_st (S' := (146, [(0, .ref m0), (1, .int (nI k))], [.int (0 + (nI k)), .ref (q 21), .int 40, .ref m0], M1)) rfl rfl rfl ?_
              rw [show (0 : Int32) + (nI k) = (nI k) from Int32.zero_add _]
              show pl _ _ _ (_, [(0, .ref m0), (1, .int (nI k))], [.int (nI k), .ref (q 21), .int 40, .ref m0], M1) _
              refine pr_ld (a := 21) (j := k) (y := (nI p)) (S' := (147, [(0, .ref m0), (1, .int (nI k))], [.int (nI p), .int 40, .ref m0], M1)) rfl hR1 rfl (by omega) (fun _ => by rw [hP1.2.1 k (by omega), hk9]; rfl) rfl (fun i1_146 => ?_)
              refine pl_call (a := [.ref m0, .int 40, .int (nI p)]) (rest := []) rfl rfl rfl (rd_wrong (x1 := 40) (x2 := (nI p)) hR1) (fun v358 M359 q360 => ?_)
              obtain ⟨I361, R362, rfl, hR363, hI364, hX365, hi366, hi367⟩ := q360
              have hi368 := (hI364 51 (by decide)).trans hl51
              have hi369 := (hI364 52 (by decide)).trans hl52
              have hi370 := (hI364 53 (by decide)).trans hl53
              have hi371 := (hI364 71 (by decide)).trans hl71
              have hi372 := (hI364 25 (by decide)).trans hl25
              have hi373 := (hI364 26 (by decide)).trans hl26
              have hi374 := (hI364 54 (by decide)).trans hl54
              have hi375 := (hI364 58 (by decide)).trans hl58
              have hi376 := (hI364 61 (by decide)).trans hl61
              have hi377 := (hI364 66 (by decide)).trans hl66
              have hi378 := (hI364 65 (by decide)).trans hl65
              have hi379 := (hI364 68 (by decide)).trans hl68
              have hi380 := (hI364 69 (by decide)).trans hl69
              have hi381 := (hI364 70 (by decide)).trans hl70
              have hi382 := (hI364 72 (by decide)).trans hl72
              have hF_383 := hF1.mono (cIx hI364 (by decide)) (cRx hX365 (by decide))
              have hY_384 := hY1.mono (cIx hI364 (by decide)) (cRx hX365 (by decide))
              have hP_385 := hP1.mono (cIx hI364 (by decide)) (cRx hX365 (by decide))
              have hN1_386 := hN11.mono (cIx hI364 (by decide)) (cRx hX365 (by decide))
              have hN2_387 := hN21.mono (cIx hI364 (by decide)) (cRx hX365 (by decide))
              have hEI388 := hEI1.tr hI364 (by decide)
              have hER389 := hER1.tr hX365 (by decide)
              show pl _ _ _ (150, [(0, .ref m0), (1, .int (nI k))], [.int 0], M359) _
              exact ps_ret rfl rfl (Or.inr ⟨(40, p), I361, R362, by
                  rw [hr, ← hs, chkB_st (k := k) (by omega), if_pos (by omega), tp_is hk9], rfl, hR363, hEI388, hER389, hi366, hi367⟩)
          · have c_111 : ¬ ((nI (tg f E k)) = 17) := of_decide_eq_false c_111
            have n_111 : ¬ (tg f E k = 17) := fun h9 => c_111 ((eq_nI (p := tg f E k) (n := 17) (Nat.lt_trans (tg_lt _ _ _) (by decide)) (by decide)).mpr h9)
            refine ps_st (S' := (115, [(2, .int (nI (tg f E k))), (0, .ref m0), (1, .int (nI k))], [.int (nI (tg f E k))], M1)) rfl rfl rfl ?_
            refine ps_st (S' := (117, [(2, .int (nI (tg f E k))), (0, .ref m0), (1, .int (nI k))], [.int 18, .int (nI (tg f E k))], M1)) rfl rfl rfl ?_
            refine ps_if2 (S1 := (151, [(0, .ref m0), (1, .int (nI k))], [], M1)) (S2 := (120, [(0, .ref m0), (1, .int (nI k))], [], M1)) rfl rfl rfl (fun c_117 => ?_) (fun c_117 => ?_)
            · have c_117 : ¬ (nI (tg f E k)) = 18 := of_decide_eq_true c_117
              have n_117 : ¬ (tg f E k = 18) := fun h9 => c_117 ((eq_nI (p := tg f E k) (n := 18) (Nat.lt_trans (tg_lt _ _ _) (by decide)) (by decide)).mpr h9)
              refine ps_st (S' := (154, [(1, .int ((nI k) + 1)), (0, .ref m0)], [], M1)) rfl rfl rfl ?_
              rw [nI_add1 (p := k) (k := 1) (x := 1) rfl (by omega)]
              show pl _ _ _ (_, [(1, .int (nI (k + 1))), (0, .ref m0)], [], M1) _
              refine ps_st (S' := (94, [(0, .ref m0), (1, .int (nI (k + 1)))], [], M1)) rfl rfl rfl ?_
              exact ih.2 (N) (mj) (bc) (k + 1) (p1) (pF) (pM) (pA) (K) (E) (tx) (cN) (A) M1 I1 R1 hR1 hEI1 hER1 hl51 hl52 hl53 hl71 hl25 hl26 hl54 hl58 hl61 hl66 hl65 hl68 hl69 hl70 hl72 hF1 hY1 hP1 hN11 hN21 (hEP) (hN) (hmj) (hbc) (by omega) (hr) (by
                  rw [← hs, chkB_st (k := k) (by omega), if_neg (by omega)]) (hN8) (hm6) (hwh) (hc) (hf) (hm) (ha) (hB) (hU)
            · have c_117 : ¬ (¬ (nI (tg f E k)) = 18) := of_decide_eq_false c_117
              have n_117 : tg f E k = 18 := (eq_nI (p := tg f E k) (n := 18) (Nat.lt_trans (tg_lt _ _ _) (by decide)) (by decide)).mp (Decidable.not_not.mp c_117)
              refine ps_st (S' := (121, [(0, .ref m0), (1, .int (nI k))], [.ref m0], M1)) rfl rfl rfl ?_
              refine ps_st (S' := (122, [(0, .ref m0), (1, .int (nI k))], [.int (nI k), .ref m0], M1)) rfl rfl rfl ?_
              refine ps_st (S' := (123, [(0, .ref m0), (1, .int (nI k))], [.int 1, .int (nI k), .ref m0], M1)) rfl rfl rfl ?_
              refine pl_call (a := [.ref m0, .int (nI k), .int 1]) (rest := []) rfl rfl rfl (rd_idx1 (n := n) (f := f) (tx := tx) (cN := cN) (A := A) (N := N) (mj := mj) (E := E) (k := k) hR1 hl51 hl52 hl53 hF1 hY1 hP1 (hEP) (hN) (hmj) (by omega)) (fun v390 M391 q392 => ?_)
              obtain ⟨rfl, rfl⟩ := q392
              show pl _ _ _ (126, [(0, .ref m0), (1, .int (nI k))], [.int (nI (fi f E k))], M1) _
              have hix_123 := fi_lt f E k
              refine ps_st (S' := (127, [(0, .ref m0), (1, .int (nI k))], [.ref m0, .int (nI (fi f E k))], M1)) rfl rfl rfl ?_
              refine pr_int (j := 71) (S' := (130, [(0, .ref m0), (1, .int (nI k))], [.int (nI bc), .int (nI (fi f E k))], M1)) rfl hR1 rfl hl71 rfl ?_
              refine ps_if2 (S1 := (151, [(0, .ref m0), (1, .int (nI k))], [], M1)) (S2 := (133, [(0, .ref m0), (1, .int (nI k))], [], M1)) rfl rfl rfl (fun c_130 => ?_) (fun c_130 => ?_)
              · have c_130 : (nI (fi f E k)) < (nI bc) := of_decide_eq_true c_130
                have n_130 : fi f E k < bc := (lt_nI (p := fi f E k) (n := bc) (Nat.lt_trans (fi_lt _ _ _) (by decide)) (by omega)).mp c_130
                refine ps_st (S' := (154, [(1, .int ((nI k) + 1)), (0, .ref m0)], [], M1)) rfl rfl rfl ?_
                rw [nI_add1 (p := k) (k := 1) (x := 1) rfl (by omega)]
                show pl _ _ _ (_, [(1, .int (nI (k + 1))), (0, .ref m0)], [], M1) _
                refine ps_st (S' := (94, [(0, .ref m0), (1, .int (nI (k + 1)))], [], M1)) rfl rfl rfl ?_
                exact ih.2 (N) (mj) (bc) (k + 1) (p1) (pF) (pM) (pA) (K) (E) (tx) (cN) (A) M1 I1 R1 hR1 hEI1 hER1 hl51 hl52 hl53 hl71 hl25 hl26 hl54 hl58 hl61 hl66 hl65 hl68 hl69 hl70 hl72 hF1 hY1 hP1 hN11 hN21 (hEP) (hN) (hmj) (hbc) (by omega) (hr) (by
                    rw [← hs, chkB_st (k := k) (by omega), if_neg (by omega)]) (hN8) (hm6) (hwh) (hc) (hf) (hm) (ha) (hB) (hU)
              · have c_130 : ¬ ((nI (fi f E k)) < (nI bc)) := of_decide_eq_false c_130
                have n_130 : ¬ (fi f E k < bc) := fun h9 => c_130 ((lt_nI (p := fi f E k) (n := bc) (Nat.lt_trans (fi_lt _ _ _) (by decide)) (by omega)).mpr h9)
                obtain ⟨p, hk9, hb9⟩ := tg_lk (f := f) (E := E) (k := k) (by omega)
                have hep9 := hEP k p hk9
                refine ps_st (S' := (134, [(0, .ref m0), (1, .int (nI k))], [.ref m0], M1)) rfl rfl rfl ?_
                refine ps_st (S' := (136, [(0, .ref m0), (1, .int (nI k))], [.int 40, .ref m0], M1)) rfl rfl rfl ?_
                refine ps_st (S' := (137, [(0, .ref m0), (1, .int (nI k))], [.ref m0, .int 40, .ref m0], M1)) rfl rfl rfl ?_
                refine pr_ref (j := 21) (S' := (140, [(0, .ref m0), (1, .int (nI k))], [.ref (q 21), .int 40, .ref m0], M1)) rfl hR1 rfl rfl ?_
                refine ps_st (S' := (141, [(0, .ref m0), (1, .int (nI k))], [.ref m0, .ref (q 21), .int 40, .ref m0], M1)) rfl rfl rfl ?_
                refine pr_int (j := 51) (S' := (144, [(0, .ref m0), (1, .int (nI k))], [.int 0, .ref (q 21), .int 40, .ref m0], M1)) rfl hR1 rfl hl51 rfl ?_
                refine ps_st (S' := (145, [(0, .ref m0), (1, .int (nI k))], [.int (nI k), .int 0, .ref (q 21), .int 40, .ref m0], M1)) rfl rfl rfl ?_
                refine ps_st (S' := (146, [(0, .ref m0), (1, .int (nI k))], [.int (0 + (nI k)), .ref (q 21), .int 40, .ref m0], M1)) rfl rfl rfl ?_
                rw [show (0 : Int32) + (nI k) = (nI k) from Int32.zero_add _]
                show pl _ _ _ (_, [(0, .ref m0), (1, .int (nI k))], [.int (nI k), .ref (q 21), .int 40, .ref m0], M1) _
                refine pr_ld (a := 21) (j := k) (y := (nI p)) (S' := (147, [(0, .ref m0), (1, .int (nI k))], [.int (nI p), .int 40, .ref m0], M1)) rfl hR1 rfl (by omega) (fun _ => by rw [hP1.2.1 k (by omega), hk9]; rfl) rfl (fun i1_146 => ?_)
                refine pl_call (a := [.ref m0, .int 40, .int (nI p)]) (rest := []) rfl rfl rfl (rd_wrong (x1 := 40) (x2 := (nI p)) hR1) (fun v393 M394 q395 => ?_)
                obtain ⟨I396, R397, rfl, hR398, hI399, hX400, hi401, hi402⟩ := q395
                have hi403 := (hI399 51 (by decide)).trans hl51
                have hi404 := (hI399 52 (by decide)).trans hl52
                have hi405 := (hI399 53 (by decide)).trans hl53
                have hi406 := (hI399 71 (by decide)).trans hl71
                have hi407 := (hI399 25 (by decide)).trans hl25
                have hi408 := (hI399 26 (by decide)).trans hl26
                have hi409 := (hI399 54 (by decide)).trans hl54
                have hi410 := (hI399 58 (by decide)).trans hl58
                have hi411 := (hI399 61 (by decide)).trans hl61
                have hi412 := (hI399 66 (by decide)).trans hl66
                have hi413 := (hI399 65 (by decide)).trans hl65
                have hi414 := (hI399 68 (by decide)).trans hl68
                have hi415 := (hI399 69 (by decide)).trans hl69
                have hi416 := (hI399 70 (by decide)).trans hl70
                have hi417 := (hI399 72 (by decide)).trans hl72
                have hF_418 := hF1.mono (cIx hI399 (by decide)) (cRx hX400 (by decide))
                have hY_419 := hY1.mono (cIx hI399 (by decide)) (cRx hX400 (by decide))
                have hP_420 := hP1.mono (cIx hI399 (by decide)) (cRx hX400 (by decide))
                have hN1_421 := hN11.mono (cIx hI399 (by decide)) (cRx hX400 (by decide))
                have hN2_422 := hN21.mono (cIx hI399 (by decide)) (cRx hX400 (by decide))
                have hEI423 := hEI1.tr hI399 (by decide)
                have hER424 := hER1.tr hX400 (by decide)
                show pl _ _ _ (150, [(0, .ref m0), (1, .int (nI k))], [.int 0], M394) _
                exact ps_ret rfl rfl (Or.inr ⟨(40, p), I396, R397, by
                    rw [hr, ← hs, chkB_st (k := k) (by omega), if_pos (by omega), tp_is hk9], rfl, hR398, hEI423, hER424, hi401, hi402⟩)
  refine ps_st (S' := (1, [(0, .ref m0)], [.ref m0], M)) rfl rfl rfl ?_
  refine ps_st (S' := (2, [(0, .ref m0)], [.int (-1), .ref m0], M)) rfl rfl rfl ?_
  refine pr_put (j := 67) rfl hR rfl (fun M425 I426 hR427 hi428 hI429 => ?_)
  have hi430 := (hI429 20 (by decide)).trans hi20
  have hi431 := (hI429 25 (by decide)).trans hi25
  have hi432 := (hI429 26 (by decide)).trans hi26
  have hi433 := (hI429 9 (by decide)).trans hi9
  have hi434 := (hI429 10 (by decide)).trans hi10
  have hi435 := (hI429 11 (by decide)).trans hi11
  have hF_436 := hF.mono (pIx hI429 (by decide)) (fun _ _ => rfl)
  have hY_437 := hY.mono (pIx hI429 (by decide)) (fun _ _ => rfl)
  have hK_438 := hK.mono (pIx hI429 (by decide)) (fun _ _ => rfl)
  have hEI439 := hEI.put hI429 (by decide)
  show pl _ _ _ (5, [(0, .ref m0)], [], M425) _
  refine ps_st (S' := (6, [(0, .ref m0)], [.ref m0], M425)) rfl rfl rfl ?_
  refine ps_st (S' := (7, [(0, .ref m0)], [.int 0, .ref m0], M425)) rfl rfl rfl ?_
  refine pr_put (j := 68) rfl hR427 rfl (fun M440 I441 hR442 hi443 hI444 => ?_)
  have hi445 := (hI444 20 (by decide)).trans hi430
  have hi446 := (hI444 25 (by decide)).trans hi431
  have hi447 := (hI444 26 (by decide)).trans hi432
  have hi448 := (hI444 9 (by decide)).trans hi433
  have hi449 := (hI444 10 (by decide)).trans hi434
  have hi450 := (hI444 11 (by decide)).trans hi435
  have hi451 := (hI444 67 (by decide)).trans hi428
  have hF_452 := hF_436.mono (pIx hI444 (by decide)) (fun _ _ => rfl)
  have hY_453 := hY_437.mono (pIx hI444 (by decide)) (fun _ _ => rfl)
  have hK_454 := hK_438.mono (pIx hI444 (by decide)) (fun _ _ => rfl)
  have hEI455 := hEI439.put hI444 (by decide)
  show pl _ _ _ (10, [(0, .ref m0)], [], M440) _
  refine ps_st (S' := (11, [(0, .ref m0)], [.ref m0], M440)) rfl rfl rfl ?_
  refine ps_st (S' := (12, [(0, .ref m0)], [.int 0, .ref m0], M440)) rfl rfl rfl ?_
  refine pr_put (j := 69) rfl hR442 rfl (fun M456 I457 hR458 hi459 hI460 => ?_)
  have hi461 := (hI460 20 (by decide)).trans hi445
  have hi462 := (hI460 25 (by decide)).trans hi446
  have hi463 := (hI460 26 (by decide)).trans hi447
  have hi464 := (hI460 9 (by decide)).trans hi448
  have hi465 := (hI460 10 (by decide)).trans hi449
  have hi466 := (hI460 11 (by decide)).trans hi450
  have hi467 := (hI460 67 (by decide)).trans hi451
  have hi468 := (hI460 68 (by decide)).trans hi443
  have hF_469 := hF_452.mono (pIx hI460 (by decide)) (fun _ _ => rfl)
  have hY_470 := hY_453.mono (pIx hI460 (by decide)) (fun _ _ => rfl)
  have hK_471 := hK_454.mono (pIx hI460 (by decide)) (fun _ _ => rfl)
  have hEI472 := hEI455.put hI460 (by decide)
  show pl _ _ _ (15, [(0, .ref m0)], [], M456) _
  refine ps_st (S' := (16, [(0, .ref m0)], [.ref m0], M456)) rfl rfl rfl ?_
  refine ps_st (S' := (17, [(0, .ref m0)], [.int 0, .ref m0], M456)) rfl rfl rfl ?_
  refine pr_put (j := 65) rfl hR458 rfl (fun M473 I474 hR475 hi476 hI477 => ?_)
  have hi478 := (hI477 20 (by decide)).trans hi461
  have hi479 := (hI477 25 (by decide)).trans hi462
  have hi480 := (hI477 26 (by decide)).trans hi463
  have hi481 := (hI477 9 (by decide)).trans hi464
  have hi482 := (hI477 10 (by decide)).trans hi465
  have hi483 := (hI477 11 (by decide)).trans hi466
  have hi484 := (hI477 67 (by decide)).trans hi467
  have hi485 := (hI477 68 (by decide)).trans hi468
  have hi486 := (hI477 69 (by decide)).trans hi459
  have hF_487 := hF_469.mono (pIx hI477 (by decide)) (fun _ _ => rfl)
  have hY_488 := hY_470.mono (pIx hI477 (by decide)) (fun _ _ => rfl)
  have hK_489 := hK_471.mono (pIx hI477 (by decide)) (fun _ _ => rfl)
  have hEI490 := hEI472.put hI477 (by decide)
  show pl _ _ _ (20, [(0, .ref m0)], [], M473) _
  refine ps_st (S' := (21, [(0, .ref m0)], [.ref m0], M473)) rfl rfl rfl ?_
  refine ps_st (S' := (22, [(0, .ref m0)], [.int 0, .ref m0], M473)) rfl rfl rfl ?_
  refine pr_put (j := 66) rfl hR475 rfl (fun M491 I492 hR493 hi494 hI495 => ?_)
  have hi496 := (hI495 20 (by decide)).trans hi478
  have hi497 := (hI495 25 (by decide)).trans hi479
  have hi498 := (hI495 26 (by decide)).trans hi480
  have hi499 := (hI495 9 (by decide)).trans hi481
  have hi500 := (hI495 10 (by decide)).trans hi482
  have hi501 := (hI495 11 (by decide)).trans hi483
  have hi502 := (hI495 67 (by decide)).trans hi484
  have hi503 := (hI495 68 (by decide)).trans hi485
  have hi504 := (hI495 69 (by decide)).trans hi486
  have hi505 := (hI495 65 (by decide)).trans hi476
  have hF_506 := hF_487.mono (pIx hI495 (by decide)) (fun _ _ => rfl)
  have hY_507 := hY_488.mono (pIx hI495 (by decide)) (fun _ _ => rfl)
  have hK_508 := hK_489.mono (pIx hI495 (by decide)) (fun _ _ => rfl)
  have hEI509 := hEI490.put hI495 (by decide)
  show pl _ _ _ (25, [(0, .ref m0)], [], M491) _
  refine ps_st (S' := (26, [(0, .ref m0)], [.ref m0], M491)) rfl rfl rfl ?_
  refine ps_st (S' := (27, [(0, .ref m0)], [.int (-1), .ref m0], M491)) rfl rfl rfl ?_
  refine pr_put (j := 70) rfl hR493 rfl (fun M510 I511 hR512 hi513 hI514 => ?_)
  have hi515 := (hI514 20 (by decide)).trans hi496
  have hi516 := (hI514 25 (by decide)).trans hi497
  have hi517 := (hI514 26 (by decide)).trans hi498
  have hi518 := (hI514 9 (by decide)).trans hi499
  have hi519 := (hI514 10 (by decide)).trans hi500
  have hi520 := (hI514 11 (by decide)).trans hi501
  have hi521 := (hI514 67 (by decide)).trans hi502
  have hi522 := (hI514 68 (by decide)).trans hi503
  have hi523 := (hI514 69 (by decide)).trans hi504
  have hi524 := (hI514 65 (by decide)).trans hi505
  have hi525 := (hI514 66 (by decide)).trans hi494
  have hF_526 := hF_506.mono (pIx hI514 (by decide)) (fun _ _ => rfl)
  have hY_527 := hY_507.mono (pIx hI514 (by decide)) (fun _ _ => rfl)
  have hK_528 := hK_508.mono (pIx hI514 (by decide)) (fun _ _ => rfl)
  have hEI529 := hEI509.put hI514 (by decide)
  show pl _ _ _ (30, [(0, .ref m0)], [], M510) _
  refine ps_st (S' := (31, [(0, .ref m0)], [.ref m0], M510)) rfl rfl rfl ?_
  refine ps_st (S' := (32, [(0, .ref m0)], [.int 0, .ref m0], M510)) rfl rfl rfl ?_
  refine pr_put (j := 71) rfl hR512 rfl (fun M530 I531 hR532 hi533 hI534 => ?_)
  have hi535 := (hI534 20 (by decide)).trans hi515
  have hi536 := (hI534 25 (by decide)).trans hi516
  have hi537 := (hI534 26 (by decide)).trans hi517
  have hi538 := (hI534 9 (by decide)).trans hi518
  have hi539 := (hI534 10 (by decide)).trans hi519
  have hi540 := (hI534 11 (by decide)).trans hi520
  have hi541 := (hI534 67 (by decide)).trans hi521
  have hi542 := (hI534 68 (by decide)).trans hi522
  have hi543 := (hI534 69 (by decide)).trans hi523
  have hi544 := (hI534 65 (by decide)).trans hi524
  have hi545 := (hI534 66 (by decide)).trans hi525
  have hi546 := (hI534 70 (by decide)).trans hi513
  have hF_547 := hF_526.mono (pIx hI534 (by decide)) (fun _ _ => rfl)
  have hY_548 := hY_527.mono (pIx hI534 (by decide)) (fun _ _ => rfl)
  have hK_549 := hK_528.mono (pIx hI534 (by decide)) (fun _ _ => rfl)
  have hEI550 := hEI529.put hI534 (by decide)
  show pl _ _ _ (35, [(0, .ref m0)], [], M530) _
  refine ps_st (S' := (36, [(0, .ref m0)], [.ref m0], M530)) rfl rfl rfl ?_
  refine ps_st (S' := (37, [(0, .ref m0)], [.int (-1), .ref m0], M530)) rfl rfl rfl ?_
  refine pr_put (j := 72) rfl hR532 rfl (fun M551 I552 hR553 hi554 hI555 => ?_)
  have hi556 := (hI555 20 (by decide)).trans hi535
  have hi557 := (hI555 25 (by decide)).trans hi536
  have hi558 := (hI555 26 (by decide)).trans hi537
  have hi559 := (hI555 9 (by decide)).trans hi538
  have hi560 := (hI555 10 (by decide)).trans hi539
  have hi561 := (hI555 11 (by decide)).trans hi540
  have hi562 := (hI555 67 (by decide)).trans hi541
  have hi563 := (hI555 68 (by decide)).trans hi542
  have hi564 := (hI555 69 (by decide)).trans hi543
  have hi565 := (hI555 65 (by decide)).trans hi544
  have hi566 := (hI555 66 (by decide)).trans hi545
  have hi567 := (hI555 70 (by decide)).trans hi546
  have hi568 := (hI555 71 (by decide)).trans hi533
  have hF_569 := hF_547.mono (pIx hI555 (by decide)) (fun _ _ => rfl)
  have hY_570 := hY_548.mono (pIx hI555 (by decide)) (fun _ _ => rfl)
  have hK_571 := hK_549.mono (pIx hI555 (by decide)) (fun _ _ => rfl)
  have hEI572 := hEI550.put hI555 (by decide)
  show pl _ _ _ (40, [(0, .ref m0)], [], M551) _
  refine ps_st (S' := (41, [(0, .ref m0)], [.ref m0], M551)) rfl rfl rfl ?_
  refine pl_call (a := [.ref m0]) (rest := []) rfl rfl rfl (rd_readFile (n := n) (f := f) (tx := tx) (cN := cN) (A := A) hR553 hi556 hF_569 hY_570) (fun v573 M574 q575 => ?_)
  rcases q575 with q575 | q575
  · skip
    obtain ⟨E576, p1577, pF578, pM579, pA580, tx1581, cN1582, A1583, I584, R585, q41_s, q41_k, q41_c, q41_f, q41_m, q41_a, rfl, hR586, hI587, hX588, hi589, hi590, hi591, hi592, hi593, hi594, hi595, hY_596, hP_597⟩ := q575
    have hi598 := (hI587 25 (by decide)).trans hi557
    have hi599 := (hI587 26 (by decide)).trans hi558
    have hi600 := (hI587 9 (by decide)).trans hi559
    have hi601 := (hI587 10 (by decide)).trans hi560
    have hi602 := (hI587 11 (by decide)).trans hi561
    have hi603 := (hI587 67 (by decide)).trans hi562
    have hi604 := (hI587 68 (by decide)).trans hi563
    have hi605 := (hI587 69 (by decide)).trans hi564
    have hi606 := (hI587 65 (by decide)).trans hi565
    have hi607 := (hI587 66 (by decide)).trans hi566
    have hi608 := (hI587 70 (by decide)).trans hi567
    have hi609 := (hI587 71 (by decide)).trans hi568
    have hi610 := (hI587 72 (by decide)).trans hi554
    have hF_611 := hF_569.mono (cIx hI587 (by decide)) (cRx hX588 (by decide))
    have hK_612 := hK_571.mono (cIx hI587 (by decide)) (cRx hX588 (by decide))
    have hEI613 := hEI572.tr hI587 (by decide)
    have hER614 := hER.tr hX588 (by decide)
    show pl _ _ _ (44, [(0, .ref m0)], [.int 1], M574) _
    refine ps_if (S1 := (75, [], [], M574)) (S2 := (47, [(0, .ref m0)], [], M574)) rfl rfl rfl (fun c_44 => ?_) (fun c_44 => ?_)
    · exact absurd (of_decide_eq_true c_44) (by decide)
    exact (LL kf).1 (by2 f 8) (by2 f 6) (p1577) (pF578) (pM579) (pA580) (E576) (tx1581) (cN1582) (A1583) M574 I584 R585 hR586 hEI613 hER614 hi589 hi590 hi591 hi592 hi593 hi594 hi595 hi598 hi599 hi609 hi607 hi606 hi604 hi605 hi608 hi610 hi600 hi601 hi602 hF_611 hY_596 hP_597 hK_612 (rfl) (rfl) (q41_s) (⟨Nat.lt_of_lt_of_le hs1.1 q41_k.1, (q41_k.2 _ hs1.1).trans hs1.2⟩) (⟨Nat.lt_of_lt_of_le hs2.1 q41_k.1, (q41_k.2 _ hs2.1).trans hs2.2⟩) (⟨Nat.lt_of_lt_of_le hs3.1 q41_k.1, (q41_k.2 _ hs3.1).trans hs3.2⟩) (q41_c) (q41_f) (q41_m) (q41_a)
  · skip
    obtain ⟨e615, I616, R617, q41_s, rfl, hR618, hI619, hX620, hi621, hi622⟩ := q575
    have hi623 := (hI619 25 (by decide)).trans hi557
    have hi624 := (hI619 26 (by decide)).trans hi558
    have hi625 := (hI619 9 (by decide)).trans hi559
    have hi626 := (hI619 10 (by decide)).trans hi560
    have hi627 := (hI619 11 (by decide)).trans hi561
    have hi628 := (hI619 67 (by decide)).trans hi562
    have hi629 := (hI619 68 (by decide)).trans hi563
    have hi630 := (hI619 69 (by decide)).trans hi564
    have hi631 := (hI619 65 (by decide)).trans hi565
    have hi632 := (hI619 66 (by decide)).trans hi566
    have hi633 := (hI619 70 (by decide)).trans hi567
    have hi634 := (hI619 71 (by decide)).trans hi568
    have hi635 := (hI619 72 (by decide)).trans hi554
    have hF_636 := hF_569.mono (cIx hI619 (by decide)) (cRx hX620 (by decide))
    have hK_637 := hK_571.mono (cIx hI619 (by decide)) (cRx hX620 (by decide))
    have hEI638 := hEI572.tr hI619 (by decide)
    have hER639 := hER.tr hX620 (by decide)
    show pl _ _ _ (44, [(0, .ref m0)], [.int 0], M574) _
    refine ps_if (S1 := (75, [], [], M574)) (S2 := (47, [(0, .ref m0)], [], M574)) rfl rfl rfl (fun c_44 => ?_) (fun c_44 => ?_)
    rotate_left
    · exact absurd (by decide) (of_decide_eq_false c_44)
    refine ps_st (S' := (76, [], [.int 0], M574)) rfl rfl rfl ?_
    exact ps_ret rfl rfl (Or.inr ⟨e615, I616, R617, by
        exact s_read_1 q41_s, rfl, hR618, hEI638, hER639, hi621, hi622⟩)
set_option maxHeartbeats 4000000 in
theorem rd_parse13b {g : xe_G} {m0 : Nat} {q : Nat → Nat} {z : Nat × Nat} {I : rI} {R : rR} {M : mi_H} {n : Nat} {f : Nat → Int32} (hR : RS g m0 q z I R M) (hi49 : I 49 = some 0) (hB : BX 13 n f I R) (hK : KX I R) (hn : n ≤ 65540) : pt (mT g) 230 [.ref m0, .ref (q 13), .int (nI n)] M (fun v M' => (∃  (I' : rI) (R' : rR), (s_read f n = none) ∧ v = some (.int 1) ∧ RS g m0 q z I' R' M' ∧ eqI [3, 8, 9, 10, 11, 16, 20, 25, 26, 47, 48, 50, 51, 52, 53, 54, 55, 56, 57, 58, 59, 60, 61, 65, 66, 67, 68, 69, 70, 71, 72] I I' ∧ eqR [1, 2, 4, 5, 6, 7, 12, 21, 22, 27, 28, 29, 30, 31, 32, 33, 34, 35, 36, 37, 38, 39, 40, 41, 42, 43, 44, 45, 46] R R' ∧ XKV f n I' R') ∨ (∃ (e9 : Nat × Nat) (I' : rI) (R' : rR), (s_read f n = some e9) ∧ v = some (.int 0) ∧ RS g m0 q z I' R' M' ∧ eqI [3, 8, 9, 10, 11, 16, 20, 25, 26, 47, 48, 50, 51, 52, 53, 54, 55, 56, 57, 58, 59, 60, 61, 65, 66, 67, 68, 69, 70, 71, 72] I I' ∧ eqR [1, 2, 4, 5, 6, 7, 12, 21, 22, 27, 28, 29, 30, 31, 32, 33, 34, 35, 36, 37, 38, 39, 40, 41, 42, 43, 44, 45, 46] R R' ∧ I' 47 = some (nI e9.1) ∧ I' 48 = some (nI e9.2))) := by
  refine pt_in (b := mb_230 g) rfl (fun kf => ?_)
  show pl (mT g) kf (mb_230 g).2 (0, [(0, .ref m0), (1, .ref (q 13)), (2, .int (nI n))], [], M) _
  have hEI : eqI [3, 8, 9, 10, 11, 16, 20, 25, 26, 47, 48, 50, 51, 52, 53, 54, 55, 56, 57, 58, 59, 60, 61, 65, 66, 67, 68, 69, 70, 71, 72] I I := eqI.rf
  have hER : eqR [1, 2, 4, 5, 6, 7, 12, 21, 22, 27, 28, 29, 30, 31, 32, 33, 34, 35, 36, 37, 38, 39, 40, 41, 42, 43, 44, 45, 46] R R := eqR.rf
  have LL : ∀ (kf : Nat), (∀ (i : Nat) (tx : List (List Nat)) (cN : Nat) (A : Nat → Nat) (s1 s2 s3 : Nat) (M1 : mi_H) (I1 : rI) (R1 : rR), (RS g m0 q z I1 R1 M1) → (eqI [3, 8, 9, 10, 11, 16, 20, 25, 26, 47, 48, 50, 51, 52, 53, 54, 55, 56, 57, 58, 59, 60, 61, 65, 66, 67, 68, 69, 70, 71, 72] I I1) → (eqR [1, 2, 4, 5, 6, 7, 12, 21, 22, 27, 28, 29, 30, 31, 32, 33, 34, 35, 36, 37, 38, 39, 40, 41, 42, 43, 44, 45, 46] R R1) → (I1 49 = some 0) → (I1 16 = some (nI n)) → (I1 20 = some 0) → (I1 25 = some 0) → (I1 26 = some 0) → (I1 9 = some (nI s1)) → (I1 10 = some (nI s2)) → (I1 11 = some (nI s3)) → (BX 13 n f I1 R1) → (KX I1 R1) → (SYT tx cN A I1 R1) → (BX 12 i f I1 R1) → (i ≤ n) → (s1 < tx.length ∧ tx.getD s1 [] = ltx 25) → (s2 < tx.length ∧ tx.getD s2 [] = ltx 26) → (s3 < tx.length ∧ tx.getD s3 [] = ltx 27) →  pl (mT g) kf (mb_230 g).2 (11, [(0, .ref m0), (1, .ref (q 13)), (2, .int (nI n)), (3, .int (nI i))], [], M1) (fun v M' => (∃  (I' : rI) (R' : rR), (s_read f n = none) ∧ v = some (.int 1) ∧ RS g m0 q z I' R' M' ∧ eqI [3, 8, 9, 10, 11, 16, 20, 25, 26, 47, 48, 50, 51, 52, 53, 54, 55, 56, 57, 58, 59, 60, 61, 65, 66, 67, 68, 69, 70, 71, 72] I I' ∧ eqR [1, 2, 4, 5, 6, 7, 12, 21, 22, 27, 28, 29, 30, 31, 32, 33, 34, 35, 36, 37, 38, 39, 40, 41, 42, 43, 44, 45, 46] R R' ∧ XKV f n I' R') ∨ (∃ (e9 : Nat × Nat) (I' : rI) (R' : rR), (s_read f n = some e9) ∧ v = some (.int 0) ∧ RS g m0 q z I' R' M' ∧ eqI [3, 8, 9, 10, 11, 16, 20, 25, 26, 47, 48, 50, 51, 52, 53, 54, 55, 56, 57, 58, 59, 60, 61, 65, 66, 67, 68, 69, 70, 71, 72] I I' ∧ eqR [1, 2, 4, 5, 6, 7, 12, 21, 22, 27, 28, 29, 30, 31, 32, 33, 34, 35, 36, 37, 38, 39, 40, 41, 42, 43, 44, 45, 46] R R' ∧ I' 47 = some (nI e9.1) ∧ I' 48 = some (nI e9.2)))) := by
    intro kf
    induction kf with
    | zero => exact (by intros; exact pl_0)
    | succ kf ih =>
      intro i tx cN A s1 s2 s3 M1 I1 R1 hR1 hEI1 hER1 hl49 hl16 hl20 hl25 hl26 hl9 hl10 hl11 hB1 hK1 hY1 hC1 hi hs1 hs2 hs3
      refine ps_st1 (S' := (12, [(0, .ref m0), (1, .ref (q 13)), (2, .int (nI n)), (3, .int (nI i))], [.int (nI i)], M1)) rfl rfl rfl ?_
      refine ps_st (S' := (13, [(0, .ref m0), (1, .ref (q 13)), (2, .int (nI n)), (3, .int (nI i))], [.int (nI n), .int (nI i)], M1)) rfl rfl rfl ?_
      refine ps_if2 (S1 := (31, [(0, .ref m0), (1, .ref (q 13)), (2, .int (nI n)), (3, .int (nI i))], [], M1)) (S2 := (16, [(0, .ref m0), (1, .ref (q 13)), (2, .int (nI n)), (3, .int (nI i))], [], M1)) rfl rfl rfl (fun c_13 => ?_) (fun c_13 => ?_)
      · have c_13 : (nI n) ≤ (nI i) := of_decide_eq_true c_13
        have n_13 : n ≤ i := (le_nI (p := n) (n := i) (by omega) (by omega)).mp c_13
        refine ps_st (S' := (32, [(0, .ref m0), (1, .ref (q 13)), (2, .int (nI n)), (3, .int (nI i))], [.ref m0], M1)) rfl rfl rfl ?_
        have hF9 : FK n f I1 R1 := ⟨hn, hl49, hl16, fun i9 h9 => (hC1 i9 (by omega)).1⟩
        refine pl_call (a := [.ref m0]) (rest := []) rfl rfl rfl (rd_checkFile2 (n := n) (f := f) (tx := tx) (cN := cN) (A := A) (s1 := s1) (s2 := s2) (s3 := s3) hR1 hl20 hl25 hl26 hl9 hl10 hl11 hF9 hY1 hK1 (hs1) (hs2) (hs3)) (fun v1 M2 q3 => ?_)
        rcases q3 with q3 | q3
        · skip
          obtain ⟨I4, R5, q32_s, rfl, hR6, hI7, hX8, hX_9⟩ := q3
          have hi10 := (hI7 49 (by decide)).trans hl49
          have hi11 := (hI7 16 (by decide)).trans hl16
          have hi12 := (hI7 9 (by decide)).trans hl9
          have hi13 := (hI7 10 (by decide)).trans hl10
          have hi14 := (hI7 11 (by decide)).trans hl11
          have hB_15 := hB1.mono (cIx hI7 (by decide)) (cRx hX8 (by decide))
          have hK_16 := hK1.mono (cIx hI7 (by decide)) (cRx hX8 (by decide))
          have hC_17 := hC1.mono (cIx hI7 (by decide)) (cRx hX8 (by decide))
          have hF_18 := hF9.mono (cIx hI7 (by decide)) (cRx hX8 (by decide))
          have hEI19 := hEI1.tr hI7 (by decide)
          have hER20 := hER1.tr hX8 (by decide)
          show pl _ _ _ (35, [(0, .ref m0), (1, .ref (q 13)), (2, .int (nI n)), (3, .int (nI i))], [.int 1], M2) _
          exact ps_ret rfl rfl (Or.inl ⟨I4, R5, q32_s, rfl, hR6, hEI19, hER20, hX_9⟩)
        · skip
          obtain ⟨e921, I22, R23, q32_s, rfl, hR24, hI25, hX26, hi27, hi28⟩ := q3
          have hi29 := (hI25 49 (by decide)).trans hl49
          have hi30 := (hI25 16 (by decide)).trans hl16
          have hi31 := (hI25 9 (by decide)).trans hl9
          have hi32 := (hI25 10 (by decide)).trans hl10
          have hi33 := (hI25 11 (by decide)).trans hl11
          have hB_34 := hB1.mono (cIx hI25 (by decide)) (cRx hX26 (by decide))
          have hK_35 := hK1.mono (cIx hI25 (by decide)) (cRx hX26 (by decide))
          have hC_36 := hC1.mono (cIx hI25 (by decide)) (cRx hX26 (by decide))
          have hF_37 := hF9.mono (cIx hI25 (by decide)) (cRx hX26 (by decide))
          have hEI38 := hEI1.tr hI25 (by decide)
          have hER39 := hER1.tr hX26 (by decide)
          show pl _ _ _ (35, [(0, .ref m0), (1, .ref (q 13)), (2, .int (nI n)), (3, .int (nI i))], [.int 0], M2) _
          exact ps_ret rfl rfl (Or.inr ⟨e921, I22, R23, q32_s, rfl, hR24, hEI38, hER39, hi27, hi28⟩)
      · have c_13 : ¬ ((nI n) ≤ (nI i)) := of_decide_eq_false c_13
        have n_13 : ¬ (n ≤ i) := fun h9 => c_13 ((le_nI (p := n) (n := i) (by omega) (by omega)).mpr h9)
        refine ps_st (S' := (17, [(0, .ref m0), (1, .ref (q 13)), (2, .int (nI n)), (3, .int (nI i))], [.ref m0], M1)) rfl rfl rfl ?_
        refine pr_ref (j := 12) (S' := (20, [(0, .ref m0), (1, .ref (q 13)), (2, .int (nI n)), (3, .int (nI i))], [.ref (q 12)], M1)) rfl hR1 rfl rfl ?_
        refine ps_st (S' := (21, [(0, .ref m0), (1, .ref (q 13)), (2, .int (nI n)), (3, .int (nI i))], [.int (nI i), .ref (q 12)], M1)) rfl rfl rfl ?_
        refine ps_st (S' := (22, [(0, .ref m0), (1, .ref (q 13)), (2, .int (nI n)), (3, .int (nI i))], [.ref (q 13), .int (nI i), .ref (q 12)], M1)) rfl rfl rfl ?_
        refine ps_st (S' := (23, [(0, .ref m0), (1, .ref (q 13)), (2, .int (nI n)), (3, .int (nI i))], [.int (nI i), .ref (q 13), .int (nI i), .ref (q 12)], M1)) rfl rfl rfl ?_
        refine pr_ld (a := 13) (j := i) (y := (f i)) (S' := (24, [(0, .ref m0), (1, .ref (q 13)), (2, .int (nI n)), (3, .int (nI i))], [.int (f i), .int (nI i), .ref (q 12)], M1)) rfl hR1 rfl (by omega) (fun _ => (hB1 i (by omega)).1) rfl (fun i1_23 => ?_)
        refine pr_st (a := 12) (j := i) rfl hR1 rfl (by omega) (fun M40 R41 i1_24 hR42 hS43 => ?_)
        have hB_44 := hB1.mono (fun _ _ => rfl) (rRx hS43 (by decide))
        have hK_45 := hK1.mono (fun _ _ => rfl) (rRx hS43 (by decide))
        have hY_46 := hY1.mono (fun _ _ => rfl) (rRx hS43 (by decide))
        have hER47 := hER1.st hS43 (by decide)
        show pl _ _ _ (25, [(0, .ref m0), (1, .ref (q 13)), (2, .int (nI n)), (3, .int (nI i))], [], M40) _
        have hC_48 : BX 12 (i + 1) f I1 R41 := BX.st hC1 hS43 (hB1 i (by omega)).2 rfl
        refine ps_st (S' := (28, [(3, .int ((nI i) + 1)), (0, .ref m0), (1, .ref (q 13)), (2, .int (nI n))], [], M40)) rfl rfl rfl ?_
        rw [nI_add1 (p := i) (k := 1) (x := 1) rfl (by omega)]
        show pl _ _ _ (_, [(3, .int (nI (i + 1))), (0, .ref m0), (1, .ref (q 13)), (2, .int (nI n))], [], M40) _
        refine ps_st (S' := (11, [(0, .ref m0), (1, .ref (q 13)), (2, .int (nI n)), (3, .int (nI (i + 1)))], [], M40)) rfl rfl rfl ?_
        exact ih (i + 1) (tx) (cN) (A) (s1) (s2) (s3) M40 I1 R41 hR42 hEI1 hER47 hl49 hl16 hl20 hl25 hl26 hl9 hl10 hl11 hB_44 hK_45 hY_46 hC_48 (by omega) (hs1) (hs2) (hs3)
  refine ps_st (S' := (1, [(0, .ref m0), (1, .ref (q 13)), (2, .int (nI n))], [.ref m0], M)) rfl rfl rfl ?_
  refine pl_call (a := [.ref m0]) (rest := []) rfl rfl rfl (rd_clear hR) (fun v49 M50 q51 => ?_)
  obtain ⟨tx52, cN53, A54, s155, s256, s357, I58, R59, q1_s, rfl, hR60, hI61, hX62, hi63, hi64, hi65, hi66, hi67, hi68, hY_69⟩ := q51
  have hi70 := (hI61 49 (by decide)).trans hi49
  have hB_71 := hB.mono (cIx hI61 (by decide)) (cRx hX62 (by decide))
  have hK_72 := hK.mono (cIx hI61 (by decide)) (cRx hX62 (by decide))
  have hEI73 := hEI.tr hI61 (by decide)
  have hER74 := hER.tr hX62 (by decide)
  show pl _ _ _ (4, [(0, .ref m0), (1, .ref (q 13)), (2, .int (nI n))], [], M50) _
  refine ps_st (S' := (5, [(0, .ref m0), (1, .ref (q 13)), (2, .int (nI n))], [.ref m0], M50)) rfl rfl rfl ?_
  refine ps_st (S' := (6, [(0, .ref m0), (1, .ref (q 13)), (2, .int (nI n))], [.int (nI n), .ref m0], M50)) rfl rfl rfl ?_
  refine pr_put (j := 16) rfl hR60 rfl (fun M75 I76 hR77 hi78 hI79 => ?_)
  have hi80 := (hI79 49 (by decide)).trans hi70
  have hi81 := (hI79 9 (by decide)).trans hi63
  have hi82 := (hI79 10 (by decide)).trans hi64
  have hi83 := (hI79 11 (by decide)).trans hi65
  have hi84 := (hI79 20 (by decide)).trans hi66
  have hi85 := (hI79 25 (by decide)).trans hi67
  have hi86 := (hI79 26 (by decide)).trans hi68
  have hB_87 := hB_71.mono (pIx hI79 (by decide)) (fun _ _ => rfl)
  have hK_88 := hK_72.mono (pIx hI79 (by decide)) (fun _ _ => rfl)
  have hY_89 := hY_69.mono (pIx hI79 (by decide)) (fun _ _ => rfl)
  have hEI90 := hEI73.put hI79 (by decide)
  show pl _ _ _ (9, [(0, .ref m0), (1, .ref (q 13)), (2, .int (nI n))], [], M75) _
  refine ps_st (S' := (10, [(0, .ref m0), (1, .ref (q 13)), (2, .int (nI n))], [.int 0], M75)) rfl rfl rfl ?_
  refine ps_st (S' := (11, [(0, .ref m0), (1, .ref (q 13)), (2, .int (nI n)), (3, .int 0)], [], M75)) rfl rfl rfl ?_
  have hC0 : BX 12 0 f I76 R59 := fun i9 h9 => absurd h9 (Nat.not_lt_zero _)
  exact (LL kf) (0) (tx52) (cN53) (A54) (s155) (s256) (s357) M75 I76 R59 hR77 hEI90 hER74 hi80 hi78 hi84 hi85 hi86 hi81 hi82 hi83 hB_87 hK_88 hY_89 hC0 (by omega) (⟨q1_s.1, q1_s.2.1⟩) (⟨q1_s.2.2.1, q1_s.2.2.2.1⟩) (⟨q1_s.2.2.2.2.1, q1_s.2.2.2.2.2⟩)
set_option maxHeartbeats 4000000 in
theorem rd_parse14b {g : xe_G} {m0 : Nat} {q : Nat → Nat} {z : Nat × Nat} {I : rI} {R : rR} {M : mi_H} {n : Nat} {f : Nat → Int32} (hR : RS g m0 q z I R M) (hi49 : I 49 = some 0) (hB : BX 14 n f I R) (hK : KX I R) (hn : n ≤ 65540) : pt (mT g) 230 [.ref m0, .ref (q 14), .int (nI n)] M (fun v M' => (∃  (I' : rI) (R' : rR), (s_read f n = none) ∧ v = some (.int 1) ∧ RS g m0 q z I' R' M' ∧ eqI [3, 8, 9, 10, 11, 16, 20, 25, 26, 47, 48, 50, 51, 52, 53, 54, 55, 56, 57, 58, 59, 60, 61, 65, 66, 67, 68, 69, 70, 71, 72] I I' ∧ eqR [1, 2, 4, 5, 6, 7, 12, 21, 22, 27, 28, 29, 30, 31, 32, 33, 34, 35, 36, 37, 38, 39, 40, 41, 42, 43, 44, 45, 46] R R' ∧ XKV f n I' R') ∨ (∃ (e9 : Nat × Nat) (I' : rI) (R' : rR), (s_read f n = some e9) ∧ v = some (.int 0) ∧ RS g m0 q z I' R' M' ∧ eqI [3, 8, 9, 10, 11, 16, 20, 25, 26, 47, 48, 50, 51, 52, 53, 54, 55, 56, 57, 58, 59, 60, 61, 65, 66, 67, 68, 69, 70, 71, 72] I I' ∧ eqR [1, 2, 4, 5, 6, 7, 12, 21, 22, 27, 28, 29, 30, 31, 32, 33, 34, 35, 36, 37, 38, 39, 40, 41, 42, 43, 44, 45, 46] R R' ∧ I' 47 = some (nI e9.1) ∧ I' 48 = some (nI e9.2))) := by
  refine pt_in (b := mb_230 g) rfl (fun kf => ?_)
  show pl (mT g) kf (mb_230 g).2 (0, [(0, .ref m0), (1, .ref (q 14)), (2, .int (nI n))], [], M) _
  have hEI : eqI [3, 8, 9, 10, 11, 16, 20, 25, 26, 47, 48, 50, 51, 52, 53, 54, 55, 56, 57, 58, 59, 60, 61, 65, 66, 67, 68, 69, 70, 71, 72] I I := eqI.rf
  have hER : eqR [1, 2, 4, 5, 6, 7, 12, 21, 22, 27, 28, 29, 30, 31, 32, 33, 34, 35, 36, 37, 38, 39, 40, 41, 42, 43, 44, 45, 46] R R := eqR.rf
  have LL : ∀ (kf : Nat), (∀ (i : Nat) (tx : List (List Nat)) (cN : Nat) (A : Nat → Nat) (s1 s2 s3 : Nat) (M1 : mi_H) (I1 : rI) (R1 : rR), (RS g m0 q z I1 R1 M1) → (eqI [3, 8, 9, 10, 11, 16, 20, 25, 26, 47, 48, 50, 51, 52, 53, 54, 55, 56, 57, 58, 59, 60, 61, 65, 66, 67, 68, 69, 70, 71, 72] I I1) → (eqR [1, 2, 4, 5, 6, 7, 12, 21, 22, 27, 28, 29, 30, 31, 32, 33, 34, 35, 36, 37, 38, 39, 40, 41, 42, 43, 44, 45, 46] R R1) → (I1 49 = some 0) → (I1 16 = some (nI n)) → (I1 20 = some 0) → (I1 25 = some 0) → (I1 26 = some 0) → (I1 9 = some (nI s1)) → (I1 10 = some (nI s2)) → (I1 11 = some (nI s3)) → (BX 14 n f I1 R1) → (KX I1 R1) → (SYT tx cN A I1 R1) → (BX 12 i f I1 R1) → (i ≤ n) → (s1 < tx.length ∧ tx.getD s1 [] = ltx 25) → (s2 < tx.length ∧ tx.getD s2 [] = ltx 26) → (s3 < tx.length ∧ tx.getD s3 [] = ltx 27) →  pl (mT g) kf (mb_230 g).2 (11, [(0, .ref m0), (1, .ref (q 14)), (2, .int (nI n)), (3, .int (nI i))], [], M1) (fun v M' => (∃  (I' : rI) (R' : rR), (s_read f n = none) ∧ v = some (.int 1) ∧ RS g m0 q z I' R' M' ∧ eqI [3, 8, 9, 10, 11, 16, 20, 25, 26, 47, 48, 50, 51, 52, 53, 54, 55, 56, 57, 58, 59, 60, 61, 65, 66, 67, 68, 69, 70, 71, 72] I I' ∧ eqR [1, 2, 4, 5, 6, 7, 12, 21, 22, 27, 28, 29, 30, 31, 32, 33, 34, 35, 36, 37, 38, 39, 40, 41, 42, 43, 44, 45, 46] R R' ∧ XKV f n I' R') ∨ (∃ (e9 : Nat × Nat) (I' : rI) (R' : rR), (s_read f n = some e9) ∧ v = some (.int 0) ∧ RS g m0 q z I' R' M' ∧ eqI [3, 8, 9, 10, 11, 16, 20, 25, 26, 47, 48, 50, 51, 52, 53, 54, 55, 56, 57, 58, 59, 60, 61, 65, 66, 67, 68, 69, 70, 71, 72] I I' ∧ eqR [1, 2, 4, 5, 6, 7, 12, 21, 22, 27, 28, 29, 30, 31, 32, 33, 34, 35, 36, 37, 38, 39, 40, 41, 42, 43, 44, 45, 46] R R' ∧ I' 47 = some (nI e9.1) ∧ I' 48 = some (nI e9.2)))) := by
    intro kf
    induction kf with
    | zero => exact (by intros; exact pl_0)
    | succ kf ih =>
      intro i tx cN A s1 s2 s3 M1 I1 R1 hR1 hEI1 hER1 hl49 hl16 hl20 hl25 hl26 hl9 hl10 hl11 hB1 hK1 hY1 hC1 hi hs1 hs2 hs3
      refine ps_st1 (S' := (12, [(0, .ref m0), (1, .ref (q 14)), (2, .int (nI n)), (3, .int (nI i))], [.int (nI i)], M1)) rfl rfl rfl ?_
      refine ps_st (S' := (13, [(0, .ref m0), (1, .ref (q 14)), (2, .int (nI n)), (3, .int (nI i))], [.int (nI n), .int (nI i)], M1)) rfl rfl rfl ?_
      refine ps_if2 (S1 := (31, [(0, .ref m0), (1, .ref (q 14)), (2, .int (nI n)), (3, .int (nI i))], [], M1)) (S2 := (16, [(0, .ref m0), (1, .ref (q 14)), (2, .int (nI n)), (3, .int (nI i))], [], M1)) rfl rfl rfl (fun c_13 => ?_) (fun c_13 => ?_)
      · have c_13 : (nI n) ≤ (nI i) := of_decide_eq_true c_13
        have n_13 : n ≤ i := (le_nI (p := n) (n := i) (by omega) (by omega)).mp c_13
        refine ps_st (S' := (32, [(0, .ref m0), (1, .ref (q 14)), (2, .int (nI n)), (3, .int (nI i))], [.ref m0], M1)) rfl rfl rfl ?_
        have hF9 : FK n f I1 R1 := ⟨hn, hl49, hl16, fun i9 h9 => (hC1 i9 (by omega)).1⟩
        refine pl_call (a := [.ref m0]) (rest := []) rfl rfl rfl (rd_checkFile2 (n := n) (f := f) (tx := tx) (cN := cN) (A := A) (s1 := s1) (s2 := s2) (s3 := s3) hR1 hl20 hl25 hl26 hl9 hl10 hl11 hF9 hY1 hK1 (hs1) (hs2) (hs3)) (fun v1 M2 q3 => ?_)
        rcases q3 with q3 | q3
        · skip
          obtain ⟨I4, R5, q32_s, rfl, hR6, hI7, hX8, hX_9⟩ := q3
          have hi10 := (hI7 49 (by decide)).trans hl49
          have hi11 := (hI7 16 (by decide)).trans hl16
          have hi12 := (hI7 9 (by decide)).trans hl9
          have hi13 := (hI7 10 (by decide)).trans hl10
          have hi14 := (hI7 11 (by decide)).trans hl11
          have hB_15 := hB1.mono (cIx hI7 (by decide)) (cRx hX8 (by decide))
          have hK_16 := hK1.mono (cIx hI7 (by decide)) (cRx hX8 (by decide))
          have hC_17 := hC1.mono (cIx hI7 (by decide)) (cRx hX8 (by decide))
          have hF_18 := hF9.mono (cIx hI7 (by decide)) (cRx hX8 (by decide))
          have hEI19 := hEI1.tr hI7 (by decide)
          have hER20 := hER1.tr hX8 (by decide)
          show pl _ _ _ (35, [(0, .ref m0), (1, .ref (q 14)), (2, .int (nI n)), (3, .int (nI i))], [.int 1], M2) _
          exact ps_ret rfl rfl (Or.inl ⟨I4, R5, q32_s, rfl, hR6, hEI19, hER20, hX_9⟩)
        · skip
          obtain ⟨e921, I22, R23, q32_s, rfl, hR24, hI25, hX26, hi27, hi28⟩ := q3
          have hi29 := (hI25 49 (by decide)).trans hl49
          have hi30 := (hI25 16 (by decide)).trans hl16
          have hi31 := (hI25 9 (by decide)).trans hl9
          have hi32 := (hI25 10 (by decide)).trans hl10
          have hi33 := (hI25 11 (by decide)).trans hl11
          have hB_34 := hB1.mono (cIx hI25 (by decide)) (cRx hX26 (by decide))
          have hK_35 := hK1.mono (cIx hI25 (by decide)) (cRx hX26 (by decide))
          have hC_36 := hC1.mono (cIx hI25 (by decide)) (cRx hX26 (by decide))
          have hF_37 := hF9.mono (cIx hI25 (by decide)) (cRx hX26 (by decide))
          have hEI38 := hEI1.tr hI25 (by decide)
          have hER39 := hER1.tr hX26 (by decide)
          show pl _ _ _ (35, [(0, .ref m0), (1, .ref (q 14)), (2, .int (nI n)), (3, .int (nI i))], [.int 0], M2) _
          exact ps_ret rfl rfl (Or.inr ⟨e921, I22, R23, q32_s, rfl, hR24, hEI38, hER39, hi27, hi28⟩)
      · have c_13 : ¬ ((nI n) ≤ (nI i)) := of_decide_eq_false c_13
        have n_13 : ¬ (n ≤ i) := fun h9 => c_13 ((le_nI (p := n) (n := i) (by omega) (by omega)).mpr h9)
        refine ps_st (S' := (17, [(0, .ref m0), (1, .ref (q 14)), (2, .int (nI n)), (3, .int (nI i))], [.ref m0], M1)) rfl rfl rfl ?_
        refine pr_ref (j := 12) (S' := (20, [(0, .ref m0), (1, .ref (q 14)), (2, .int (nI n)), (3, .int (nI i))], [.ref (q 12)], M1)) rfl hR1 rfl rfl ?_
        refine ps_st (S' := (21, [(0, .ref m0), (1, .ref (q 14)), (2, .int (nI n)), (3, .int (nI i))], [.int (nI i), .ref (q 12)], M1)) rfl rfl rfl ?_
        refine ps_st (S' := (22, [(0, .ref m0), (1, .ref (q 14)), (2, .int (nI n)), (3, .int (nI i))], [.ref (q 14), .int (nI i), .ref (q 12)], M1)) rfl rfl rfl ?_
        refine ps_st (S' := (23, [(0, .ref m0), (1, .ref (q 14)), (2, .int (nI n)), (3, .int (nI i))], [.int (nI i), .ref (q 14), .int (nI i), .ref (q 12)], M1)) rfl rfl rfl ?_
        refine pr_ld (a := 14) (j := i) (y := (f i)) (S' := (24, [(0, .ref m0), (1, .ref (q 14)), (2, .int (nI n)), (3, .int (nI i))], [.int (f i), .int (nI i), .ref (q 12)], M1)) rfl hR1 rfl (by omega) (fun _ => (hB1 i (by omega)).1) rfl (fun i1_23 => ?_)
        refine pr_st (a := 12) (j := i) rfl hR1 rfl (by omega) (fun M40 R41 i1_24 hR42 hS43 => ?_)
        have hB_44 := hB1.mono (fun _ _ => rfl) (rRx hS43 (by decide))
        have hK_45 := hK1.mono (fun _ _ => rfl) (rRx hS43 (by decide))
        have hY_46 := hY1.mono (fun _ _ => rfl) (rRx hS43 (by decide))
        have hER47 := hER1.st hS43 (by decide)
        show pl _ _ _ (25, [(0, .ref m0), (1, .ref (q 14)), (2, .int (nI n)), (3, .int (nI i))], [], M40) _
        have hC_48 : BX 12 (i + 1) f I1 R41 := BX.st hC1 hS43 (hB1 i (by omega)).2 rfl
        refine ps_st (S' := (28, [(3, .int ((nI i) + 1)), (0, .ref m0), (1, .ref (q 14)), (2, .int (nI n))], [], M40)) rfl rfl rfl ?_
        rw [nI_add1 (p := i) (k := 1) (x := 1) rfl (by omega)]
        show pl _ _ _ (_, [(3, .int (nI (i + 1))), (0, .ref m0), (1, .ref (q 14)), (2, .int (nI n))], [], M40) _
        refine ps_st (S' := (11, [(0, .ref m0), (1, .ref (q 14)), (2, .int (nI n)), (3, .int (nI (i + 1)))], [], M40)) rfl rfl rfl ?_
        exact ih (i + 1) (tx) (cN) (A) (s1) (s2) (s3) M40 I1 R41 hR42 hEI1 hER47 hl49 hl16 hl20 hl25 hl26 hl9 hl10 hl11 hB_44 hK_45 hY_46 hC_48 (by omega) (hs1) (hs2) (hs3)
  refine ps_st (S' := (1, [(0, .ref m0), (1, .ref (q 14)), (2, .int (nI n))], [.ref m0], M)) rfl rfl rfl ?_
  refine pl_call (a := [.ref m0]) (rest := []) rfl rfl rfl (rd_clear hR) (fun v49 M50 q51 => ?_)
  obtain ⟨tx52, cN53, A54, s155, s256, s357, I58, R59, q1_s, rfl, hR60, hI61, hX62, hi63, hi64, hi65, hi66, hi67, hi68, hY_69⟩ := q51
  have hi70 := (hI61 49 (by decide)).trans hi49
  have hB_71 := hB.mono (cIx hI61 (by decide)) (cRx hX62 (by decide))
  have hK_72 := hK.mono (cIx hI61 (by decide)) (cRx hX62 (by decide))
  have hEI73 := hEI.tr hI61 (by decide)
  have hER74 := hER.tr hX62 (by decide)
  show pl _ _ _ (4, [(0, .ref m0), (1, .ref (q 14)), (2, .int (nI n))], [], M50) _
  refine ps_st (S' := (5, [(0, .ref m0), (1, .ref (q 14)), (2, .int (nI n))], [.ref m0], M50)) rfl rfl rfl ?_
  refine ps_st (S' := (6, [(0, .ref m0), (1, .ref (q 14)), (2, .int (nI n))], [.int (nI n), .ref m0], M50)) rfl rfl rfl ?_
  refine pr_put (j := 16) rfl hR60 rfl (fun M75 I76 hR77 hi78 hI79 => ?_)
  have hi80 := (hI79 49 (by decide)).trans hi70
  have hi81 := (hI79 9 (by decide)).trans hi63
  have hi82 := (hI79 10 (by decide)).trans hi64
  have hi83 := (hI79 11 (by decide)).trans hi65
  have hi84 := (hI79 20 (by decide)).trans hi66
  have hi85 := (hI79 25 (by decide)).trans hi67
  have hi86 := (hI79 26 (by decide)).trans hi68
  have hB_87 := hB_71.mono (pIx hI79 (by decide)) (fun _ _ => rfl)
  have hK_88 := hK_72.mono (pIx hI79 (by decide)) (fun _ _ => rfl)
  have hY_89 := hY_69.mono (pIx hI79 (by decide)) (fun _ _ => rfl)
  have hEI90 := hEI73.put hI79 (by decide)
  show pl _ _ _ (9, [(0, .ref m0), (1, .ref (q 14)), (2, .int (nI n))], [], M75) _
  refine ps_st (S' := (10, [(0, .ref m0), (1, .ref (q 14)), (2, .int (nI n))], [.int 0], M75)) rfl rfl rfl ?_
  refine ps_st (S' := (11, [(0, .ref m0), (1, .ref (q 14)), (2, .int (nI n)), (3, .int 0)], [], M75)) rfl rfl rfl ?_
  have hC0 : BX 12 0 f I76 R59 := fun i9 h9 => absurd h9 (Nat.not_lt_zero _)
  exact (LL kf) (0) (tx52) (cN53) (A54) (s155) (s256) (s357) M75 I76 R59 hR77 hEI90 hER74 hi80 hi78 hi84 hi85 hi86 hi81 hi82 hi83 hB_87 hK_88 hY_89 hC0 (by omega) (⟨q1_s.1, q1_s.2.1⟩) (⟨q1_s.2.2.1, q1_s.2.2.2.1⟩) (⟨q1_s.2.2.2.2.1, q1_s.2.2.2.2.2⟩)
set_option maxHeartbeats 4000000 in
theorem rd_read2a {g : xe_G} {m0 : Nat} {q : Nat → Nat} {z : Nat × Nat} {I : rI} {R : rR} {M : mi_H} {n : Nat} {f : Nat → Int32} {kn : Int32} (hR : RS g m0 q z I R M) (hi49 : I 49 = some 0) (hi17 : I 17 = some (nI n)) (hi18 : I 18 = some kn) (hB : BX 13 n f I R) (hK : KX I R) (hn : n ≤ 65540) (hk : kn < 0) : pt (mT g) 236 [.ref m0] M (fun v M' => (∃  (I' : rI) (R' : rR), (s_read f n = none) ∧ v = some (.int 0) ∧ RS g m0 q z I' R' M' ∧ eqI [0, 3, 8, 9, 10, 11, 16, 17, 18, 20, 25, 26, 47, 48, 50, 51, 52, 53, 54, 55, 56, 57, 58, 59, 60, 61, 65, 66, 67, 68, 69, 70, 71, 72, 73, 74] I I' ∧ eqR [1, 2, 4, 5, 6, 7, 12, 14, 21, 22, 27, 28, 29, 30, 31, 32, 33, 34, 35, 36, 37, 38, 39, 40, 41, 42, 43, 44, 45, 46] R R' ∧ I' 73 = some (-1) ∧ I' 17 = some (nI 0) ∧ I' 18 = some (nI n) ∧ XKV f n I' R' ∧ BX 14 n f I' R') ∨ (∃ (e9 : Nat × Nat) (I' : rI) (R' : rR), (s_read f n = some e9) ∧ v = some (.int (nI e9.1)) ∧ RS g m0 q z I' R' M' ∧ eqI [0, 3, 8, 9, 10, 11, 16, 17, 18, 20, 25, 26, 47, 48, 50, 51, 52, 53, 54, 55, 56, 57, 58, 59, 60, 61, 65, 66, 67, 68, 69, 70, 71, 72, 73, 74] I I' ∧ eqR [1, 2, 4, 5, 6, 7, 12, 14, 21, 22, 27, 28, 29, 30, 31, 32, 33, 34, 35, 36, 37, 38, 39, 40, 41, 42, 43, 44, 45, 46] R R' ∧ I' 73 = some (nI e9.2) ∧ I' 17 = some (nI 0) ∧ I' 18 = some kn)) := by
  refine pt_in (b := mb_236 g) rfl (fun kf => ?_)
  show pl (mT g) kf (mb_236 g).2 (0, [(0, .ref m0)], [], M) _
  have hEI : eqI [0, 3, 8, 9, 10, 11, 16, 17, 18, 20, 25, 26, 47, 48, 50, 51, 52, 53, 54, 55, 56, 57, 58, 59, 60, 61, 65, 66, 67, 68, 69, 70, 71, 72, 73, 74] I I := eqI.rf
  have hER : eqR [1, 2, 4, 5, 6, 7, 12, 14, 21, 22, 27, 28, 29, 30, 31, 32, 33, 34, 35, 36, 37, 38, 39, 40, 41, 42, 43, 44, 45, 46] R R := eqR.rf
  have LL : ∀ (kf : Nat), (∀ (i : Nat) (M1 : mi_H) (I1 : rI) (R1 : rR), (RS g m0 q z I1 R1 M1) → (eqI [0, 3, 8, 9, 10, 11, 16, 17, 18, 20, 25, 26, 47, 48, 50, 51, 52, 53, 54, 55, 56, 57, 58, 59, 60, 61, 65, 66, 67, 68, 69, 70, 71, 72, 73, 74] I I1) → (eqR [1, 2, 4, 5, 6, 7, 12, 14, 21, 22, 27, 28, 29, 30, 31, 32, 33, 34, 35, 36, 37, 38, 39, 40, 41, 42, 43, 44, 45, 46] R R1) → (I1 17 = some (nI n)) → (I1 73 = some (-1)) → (BX 13 n f I1 R1) → (BX 14 i f I1 R1) → (XKV f n I1 R1) → (i ≤ n) → (s_read f n = none) →  pl (mT g) kf (mb_236 g).2 (53, [(0, .ref m0), (2, .int 0), (3, .int (nI i))], [], M1) (fun v M' => (∃  (I' : rI) (R' : rR), (s_read f n = none) ∧ v = some (.int 0) ∧ RS g m0 q z I' R' M' ∧ eqI [0, 3, 8, 9, 10, 11, 16, 17, 18, 20, 25, 26, 47, 48, 50, 51, 52, 53, 54, 55, 56, 57, 58, 59, 60, 61, 65, 66, 67, 68, 69, 70, 71, 72, 73, 74] I I' ∧ eqR [1, 2, 4, 5, 6, 7, 12, 14, 21, 22, 27, 28, 29, 30, 31, 32, 33, 34, 35, 36, 37, 38, 39, 40, 41, 42, 43, 44, 45, 46] R R' ∧ I' 73 = some (-1) ∧ I' 17 = some (nI 0) ∧ I' 18 = some (nI n) ∧ XKV f n I' R' ∧ BX 14 n f I' R') ∨ (∃ (e9 : Nat × Nat) (I' : rI) (R' : rR), (s_read f n = some e9) ∧ v = some (.int (nI e9.1)) ∧ RS g m0 q z I' R' M' ∧ eqI [0, 3, 8, 9, 10, 11, 16, 17, 18, 20, 25, 26, 47, 48, 50, 51, 52, 53, 54, 55, 56, 57, 58, 59, 60, 61, 65, 66, 67, 68, 69, 70, 71, 72, 73, 74] I I' ∧ eqR [1, 2, 4, 5, 6, 7, 12, 14, 21, 22, 27, 28, 29, 30, 31, 32, 33, 34, 35, 36, 37, 38, 39, 40, 41, 42, 43, 44, 45, 46] R R' ∧ I' 73 = some (nI e9.2) ∧ I' 17 = some (nI 0) ∧ I' 18 = some kn))) := by
    intro kf
    induction kf with
    | zero => exact (by intros; exact pl_0)
    | succ kf ih =>
      intro i M1 I1 R1 hR1 hEI1 hER1 hl17 hl73 hB1 hD1 hX1 hi hr
      refine ps_st1 (S' := (54, [(0, .ref m0), (2, .int 0), (3, .int (nI i))], [.int (nI i)], M1)) rfl rfl rfl ?_
      refine ps_st (S' := (55, [(0, .ref m0), (2, .int 0), (3, .int (nI i))], [.ref m0, .int (nI i)], M1)) rfl rfl rfl ?_
      refine pr_int (j := 17) (S' := (58, [(0, .ref m0), (2, .int 0), (3, .int (nI i))], [.int (nI n), .int (nI i)], M1)) rfl hR1 rfl hl17 rfl ?_
      refine ps_if2 (S1 := (79, [(0, .ref m0), (2, .int 0), (3, .int (nI i))], [], M1)) (S2 := (61, [(0, .ref m0), (2, .int 0), (3, .int (nI i))], [], M1)) rfl rfl rfl (fun c_58 => ?_) (fun c_58 => ?_)
      · have c_58 : (nI n) ≤ (nI i) := of_decide_eq_true c_58
        have n_58 : n ≤ i := (le_nI (p := n) (n := i) (by omega) (by omega)).mp c_58
        refine ps_st (S' := (80, [(0, .ref m0), (2, .int 0), (3, .int (nI i))], [.ref m0], M1)) rfl rfl rfl ?_
        refine ps_st (S' := (81, [(0, .ref m0), (2, .int 0), (3, .int (nI i))], [.ref m0, .ref m0], M1)) rfl rfl rfl ?_
        refine pr_int (j := 17) (S' := (84, [(0, .ref m0), (2, .int 0), (3, .int (nI i))], [.int (nI n), .ref m0], M1)) rfl hR1 rfl hl17 rfl ?_
        refine pr_put (j := 18) rfl hR1 rfl (fun M1 I2 hR3 hi4 hI5 => ?_)
        have hi6 := (hI5 17 (by decide)).trans hl17
        have hi7 := (hI5 73 (by decide)).trans hl73
        have hB_8 := hB1.mono (pIx hI5 (by decide)) (fun _ _ => rfl)
        have hD_9 := hD1.mono (pIx hI5 (by decide)) (fun _ _ => rfl)
        have hX_10 := hX1.mono (pIx hI5 (by decide)) (fun _ _ => rfl)
        have hEI11 := hEI1.put hI5 (by decide)
        show pl _ _ _ (87, [(0, .ref m0), (2, .int 0), (3, .int (nI i))], [], M1) _
        refine ps_st (S' := (110, [(0, .ref m0), (2, .int 0)], [], M1)) rfl rfl rfl ?_
        refine ps_st (S' := (111, [(0, .ref m0), (2, .int 0)], [.ref m0], M1)) rfl rfl rfl ?_
        refine ps_st (S' := (112, [(0, .ref m0), (2, .int 0)], [.int (-1), .ref m0], M1)) rfl rfl rfl ?_
        refine pr_put (j := 74) rfl hR3 rfl (fun M12 I13 hR14 hi15 hI16 => ?_)
        have hi19 := (hI16 17 (by decide)).trans hi6
        have hi20 := (hI16 73 (by decide)).trans hi7
        have hi21 := (hI16 18 (by decide)).trans hi4
        have hB_22 := hB_8.mono (pIx hI16 (by decide)) (fun _ _ => rfl)
        have hD_23 := hD_9.mono (pIx hI16 (by decide)) (fun _ _ => rfl)
        have hX_24 := hX_10.mono (pIx hI16 (by decide)) (fun _ _ => rfl)
        have hEI25 := hEI11.put hI16 (by decide)
        show pl _ _ _ (115, [(0, .ref m0), (2, .int 0)], [], M12) _
        refine ps_st (S' := (116, [(0, .ref m0), (2, .int 0)], [.ref m0], M12)) rfl rfl rfl ?_
        refine ps_st (S' := (117, [(0, .ref m0), (2, .int 0)], [.int 0, .ref m0], M12)) rfl rfl rfl ?_
        refine pr_put (j := 17) rfl hR14 rfl (fun M26 I27 hR28 hi29 hI30 => ?_)
        have hi31 := (hI30 73 (by decide)).trans hi20
        have hi32 := (hI30 18 (by decide)).trans hi21
        have hi33 := (hI30 74 (by decide)).trans hi15
        have hB_34 := hB_22.mono (pIx hI30 (by decide)) (fun _ _ => rfl)
        have hD_35 := hD_23.mono (pIx hI30 (by decide)) (fun _ _ => rfl)
        have hX_36 := hX_24.mono (pIx hI30 (by decide)) (fun _ _ => rfl)
        have hEI37 := hEI25.put hI30 (by decide)
        show pl _ _ _ (120, [(0, .ref m0), (2, .int 0)], [], M26) _
        refine ps_st (S' := (121, [(0, .ref m0), (2, .int 0)], [.int 0], M26)) rfl rfl rfl ?_
        exact ps_ret rfl rfl (Or.inl ⟨I27, R1, hr, rfl, hR28, hEI37, hER1, hi31, hi29, hi32, hX_36, BX.le hD_35 (by omega)⟩)
      · have c_58 : ¬ ((nI n) ≤ (nI i)) := of_decide_eq_false c_58
        have n_58 : ¬ (n ≤ i) := fun h9 => c_58 ((le_nI (p := n) (n := i) (by omega) (by omega)).mpr h9)
        refine ps_st (S' := (62, [(0, .ref m0), (2, .int 0), (3, .int (nI i))], [.ref m0], M1)) rfl rfl rfl ?_
        refine pr_ref (j := 14) (S' := (65, [(0, .ref m0), (2, .int 0), (3, .int (nI i))], [.ref (q 14)], M1)) rfl hR1 rfl rfl ?_
        refine ps_st (S' := (66, [(0, .ref m0), (2, .int 0), (3, .int (nI i))], [.int (nI i), .ref (q 14)], M1)) rfl rfl rfl ?_
        refine ps_st (S' := (67, [(0, .ref m0), (2, .int 0), (3, .int (nI i))], [.ref m0, .int (nI i), .ref (q 14)], M1)) rfl rfl rfl ?_
        refine pr_ref (j := 13) (S' := (70, [(0, .ref m0), (2, .int 0), (3, .int (nI i))], [.ref (q 13), .int (nI i), .ref (q 14)], M1)) rfl hR1 rfl rfl ?_
        refine ps_st (S' := (71, [(0, .ref m0), (2, .int 0), (3, .int (nI i))], [.int (nI i), .ref (q 13), .int (nI i), .ref (q 14)], M1)) rfl rfl rfl ?_
        refine pr_ld (a := 13) (j := i) (y := (f i)) (S' := (72, [(0, .ref m0), (2, .int 0), (3, .int (nI i))], [.int (f i), .int (nI i), .ref (q 14)], M1)) rfl hR1 rfl (by omega) (fun _ => (hB1 i (by omega)).1) rfl (fun i1_71 => ?_)
        refine pr_st (a := 14) (j := i) rfl hR1 rfl (by omega) (fun M38 R39 i1_72 hR40 hS41 => ?_)
        have hB_42 := hB1.mono (fun _ _ => rfl) (rRx hS41 (by decide))
        have hX_43 := hX1.mono (fun _ _ => rfl) (rRx hS41 (by decide))
        have hER44 := hER1.st hS41 (by decide)
        show pl _ _ _ (73, [(0, .ref m0), (2, .int 0), (3, .int (nI i))], [], M38) _
        have hD_45 : BX 14 (i + 1) f I1 R39 := BX.st hD1 hS41 (hB1 i (by omega)).2 rfl
        refine ps_st (S' := (76, [(3, .int ((nI i) + 1)), (0, .ref m0), (2, .int 0)], [], M38)) rfl rfl rfl ?_
        rw [nI_add1 (p := i) (k := 1) (x := 1) rfl (by omega)]
        show pl _ _ _ (_, [(3, .int (nI (i + 1))), (0, .ref m0), (2, .int 0)], [], M38) _
        refine ps_st (S' := (53, [(0, .ref m0), (2, .int 0), (3, .int (nI (i + 1)))], [], M38)) rfl rfl rfl ?_
        exact ih (i + 1) M38 I1 R39 hR40 hEI1 hER44 hl17 hl73 hB_42 hD_45 hX_43 (by omega) (hr)
  refine ps_st (S' := (1, [(0, .ref m0)], [.ref m0], M)) rfl rfl rfl ?_
  refine ps_st (S' := (2, [(0, .ref m0)], [.int 0, .ref m0], M)) rfl rfl rfl ?_
  refine pr_put (j := 0) rfl hR rfl (fun M46 I47 hR48 hi50 hI51 => ?_)
  have hi52 := (hI51 49 (by decide)).trans hi49
  have hi53 := (hI51 17 (by decide)).trans hi17
  have hi54 := (hI51 18 (by decide)).trans hi18
  have hB_55 := hB.mono (pIx hI51 (by decide)) (fun _ _ => rfl)
  have hK_56 := hK.mono (pIx hI51 (by decide)) (fun _ _ => rfl)
  have hEI57 := hEI.put hI51 (by decide)
  show pl _ _ _ (5, [(0, .ref m0)], [], M46) _
  refine ps_st (S' := (6, [(0, .ref m0)], [.ref m0], M46)) rfl rfl rfl ?_
  refine ps_st (S' := (7, [(0, .ref m0)], [.ref m0, .ref m0], M46)) rfl rfl rfl ?_
  refine pr_ref (j := 13) (S' := (10, [(0, .ref m0)], [.ref (q 13), .ref m0], M46)) rfl hR48 rfl rfl ?_
  refine ps_st (S' := (11, [(0, .ref m0)], [.ref m0, .ref (q 13), .ref m0], M46)) rfl rfl rfl ?_
  refine pr_int (j := 17) (S' := (14, [(0, .ref m0)], [.int (nI n), .ref (q 13), .ref m0], M46)) rfl hR48 rfl hi53 rfl ?_
  refine pl_call (a := [.ref m0, .ref (q 13), .int (nI n)]) (rest := []) rfl rfl rfl (rd_parse13b (n := n) (f := f) hR48 hi52 hB_55 hK_56 (hn)) (fun v58 M59 q60 => ?_)
  rcases q60 with q60 | q60
  · skip
    obtain ⟨I61, R62, q14_s, rfl, hR63, hI64, hX65, hX_66⟩ := q60
    have hi67 := (hI64 49 (by decide)).trans hi52
    have hi68 := (hI64 17 (by decide)).trans hi53
    have hi69 := (hI64 18 (by decide)).trans hi54
    have hi70 := (hI64 0 (by decide)).trans hi50
    have hB_71 := hB_55.mono (cIx hI64 (by decide)) (cRx hX65 (by decide))
    have hK_72 := hK_56.mono (cIx hI64 (by decide)) (cRx hX65 (by decide))
    have hEI73 := hEI57.tr hI64 (by decide)
    have hER74 := hER.tr hX65 (by decide)
    show pl _ _ _ (17, [(0, .ref m0)], [.int 1], M59) _
    refine ps_st (S' := (18, [(1, .int 1), (0, .ref m0)], [], M59)) rfl rfl rfl ?_
    refine ps_st (S' := (19, [(1, .int 1), (0, .ref m0)], [.ref m0], M59)) rfl rfl rfl ?_
    refine ps_st (S' := (20, [(1, .int 1), (0, .ref m0)], [.int 1, .ref m0], M59)) rfl rfl rfl ?_
    refine ps_if (S1 := (27, [(1, .int 1), (0, .ref m0)], [.ref m0], M59)) (S2 := (23, [(1, .int 1), (0, .ref m0)], [.ref m0], M59)) rfl rfl rfl (fun c_20 => ?_) (fun c_20 => ?_)
    · exact absurd (of_decide_eq_true c_20) (by decide)
    refine ps_st (S' := (24, [(1, .int 1), (0, .ref m0)], [.int (-1), .ref m0], M59)) rfl rfl rfl ?_
    refine ps_st (S' := (31, [(0, .ref m0), (1, .int 1)], [.int (-1), .ref m0], M59)) rfl rfl rfl ?_
    refine pr_put (j := 73) rfl hR63 rfl (fun M75 I76 hR77 hi78 hI79 => ?_)
    have hi80 := (hI79 49 (by decide)).trans hi67
    have hi81 := (hI79 17 (by decide)).trans hi68
    have hi82 := (hI79 18 (by decide)).trans hi69
    have hi83 := (hI79 0 (by decide)).trans hi70
    have hB_84 := hB_71.mono (pIx hI79 (by decide)) (fun _ _ => rfl)
    have hK_85 := hK_72.mono (pIx hI79 (by decide)) (fun _ _ => rfl)
    have hX_86 := hX_66.mono (pIx hI79 (by decide)) (fun _ _ => rfl)
    have hEI87 := hEI73.put hI79 (by decide)
    show pl _ _ _ (34, [(0, .ref m0), (1, .int 1)], [], M75) _
    refine ps_st (S' := (35, [(0, .ref m0), (1, .int 1)], [.int 1], M75)) rfl rfl rfl ?_
    refine ps_if (S1 := (42, [(0, .ref m0), (1, .int 1)], [], M75)) (S2 := (38, [(0, .ref m0), (1, .int 1)], [], M75)) rfl rfl rfl (fun c_35 => ?_) (fun c_35 => ?_)
    · exact absurd (of_decide_eq_true c_35) (by decide)
    refine ps_st (S' := (39, [(0, .ref m0), (1, .int 1)], [.int 0], M75)) rfl rfl rfl ?_
    refine ps_st (S' := (46, [(0, .ref m0), (1, .int 1)], [.int 0], M75)) rfl rfl rfl ?_
    refine ps_st (S' := (47, [(2, .int 0), (0, .ref m0), (1, .int 1)], [], M75)) rfl rfl rfl ?_
    refine ps_st (S' := (48, [(2, .int 0), (0, .ref m0), (1, .int 1)], [.int 1], M75)) rfl rfl rfl ?_
    refine ps_if (S1 := (90, [(2, .int 0), (0, .ref m0), (1, .int 1)], [], M75)) (S2 := (51, [(2, .int 0), (0, .ref m0), (1, .int 1)], [], M75)) rfl rfl rfl (fun c_48 => ?_) (fun c_48 => ?_)
    · exact absurd (of_decide_eq_true c_48) (by decide)
    refine ps_st (S' := (52, [(2, .int 0), (0, .ref m0), (1, .int 1)], [.int 0], M75)) rfl rfl rfl ?_
    refine ps_st (S' := (53, [(0, .ref m0), (2, .int 0), (3, .int 0)], [], M75)) rfl rfl rfl ?_
    have hD0 : BX 14 0 f I76 R62 := fun i9 h9 => absurd h9 (Nat.not_lt_zero _)
    exact (LL kf) (0) M75 I76 R62 hR77 hEI87 hER74 hi81 hi78 hB_84 hD0 hX_86 (by omega) (q14_s)
  · skip
    obtain ⟨e988, I89, R90, q14_s, rfl, hR91, hI92, hX93, hi94, hi95⟩ := q60
    have hi96 := (hI92 49 (by decide)).trans hi52
    have hi97 := (hI92 17 (by decide)).trans hi53
    have hi98 := (hI92 18 (by decide)).trans hi54
    have hi99 := (hI92 0 (by decide)).trans hi50
    have hB_100 := hB_55.mono (cIx hI92 (by decide)) (cRx hX93 (by decide))
    have hK_101 := hK_56.mono (cIx hI92 (by decide)) (cRx hX93 (by decide))
    have hEI102 := hEI57.tr hI92 (by decide)
    have hER103 := hER.tr hX93 (by decide)
    show pl _ _ _ (17, [(0, .ref m0)], [.int 0], M59) _
    refine ps_st (S' := (18, [(1, .int 0), (0, .ref m0)], [], M59)) rfl rfl rfl ?_
    refine ps_st (S' := (19, [(1, .int 0), (0, .ref m0)], [.ref m0], M59)) rfl rfl rfl ?_
    refine ps_st (S' := (20, [(1, .int 0), (0, .ref m0)], [.int 0, .ref m0], M59)) rfl rfl rfl ?_
    refine ps_if (S1 := (27, [(1, .int 0), (0, .ref m0)], [.ref m0], M59)) (S2 := (23, [(1, .int 0), (0, .ref m0)], [.ref m0], M59)) rfl rfl rfl (fun c_20 => ?_) (fun c_20 => ?_)
    rotate_left
    · exact absurd (by decide) (of_decide_eq_false c_20)
    refine ps_st (S' := (28, [(1, .int 0), (0, .ref m0)], [.ref m0, .ref m0], M59)) rfl rfl rfl ?_
    refine pr_int (j := 48) (S' := (31, [(0, .ref m0), (1, .int 0)], [.int (nI e988.2), .ref m0], M59)) rfl hR91 rfl hi95 rfl ?_
    refine pr_put (j := 73) rfl hR91 rfl (fun M104 I105 hR106 hi107 hI108 => ?_)
    have hi109 := (hI108 49 (by decide)).trans hi96
    have hi110 := (hI108 17 (by decide)).trans hi97
    have hi111 := (hI108 18 (by decide)).trans hi98
    have hi112 := (hI108 0 (by decide)).trans hi99
    have hi113 := (hI108 47 (by decide)).trans hi94
    have hi114 := (hI108 48 (by decide)).trans hi95
    have hB_115 := hB_100.mono (pIx hI108 (by decide)) (fun _ _ => rfl)
    have hK_116 := hK_101.mono (pIx hI108 (by decide)) (fun _ _ => rfl)
    have hEI117 := hEI102.put hI108 (by decide)
    show pl _ _ _ (34, [(0, .ref m0), (1, .int 0)], [], M104) _
    refine ps_st (S' := (35, [(0, .ref m0), (1, .int 0)], [.int 0], M104)) rfl rfl rfl ?_
    refine ps_if (S1 := (42, [(0, .ref m0), (1, .int 0)], [], M104)) (S2 := (38, [(0, .ref m0), (1, .int 0)], [], M104)) rfl rfl rfl (fun c_35 => ?_) (fun c_35 => ?_)
    rotate_left
    · exact absurd (by decide) (of_decide_eq_false c_35)
    refine ps_st (S' := (43, [(0, .ref m0), (1, .int 0)], [.ref m0], M104)) rfl rfl rfl ?_
    refine pr_int (j := 47) (S' := (46, [(0, .ref m0), (1, .int 0)], [.int (nI e988.1)], M104)) rfl hR106 rfl hi113 rfl ?_
    refine ps_st (S' := (47, [(2, .int (nI e988.1)), (0, .ref m0), (1, .int 0)], [], M104)) rfl rfl rfl ?_
    refine ps_st (S' := (48, [(2, .int (nI e988.1)), (0, .ref m0), (1, .int 0)], [.int 0], M104)) rfl rfl rfl ?_
    refine ps_if (S1 := (90, [(2, .int (nI e988.1)), (0, .ref m0), (1, .int 0)], [], M104)) (S2 := (51, [(2, .int (nI e988.1)), (0, .ref m0), (1, .int 0)], [], M104)) rfl rfl rfl (fun c_48 => ?_) (fun c_48 => ?_)
    rotate_left
    · exact absurd (by decide) (of_decide_eq_false c_48)
    refine ps_st (S' := (91, [(2, .int (nI e988.1)), (0, .ref m0), (1, .int 0)], [.ref m0], M104)) rfl rfl rfl ?_
    refine pr_int (j := 18) (S' := (94, [(2, .int (nI e988.1)), (0, .ref m0), (1, .int 0)], [.int kn], M104)) rfl hR106 rfl hi111 rfl ?_
    refine ps_if (S1 := (110, [(0, .ref m0), (2, .int (nI e988.1))], [], M104)) (S2 := (97, [(2, .int (nI e988.1)), (0, .ref m0), (1, .int 0)], [], M104)) rfl rfl rfl (fun c_94 => ?_) (fun c_94 => ?_)
    rotate_left
    · exact absurd (hk) (of_decide_eq_false c_94)
    refine ps_st (S' := (111, [(0, .ref m0), (2, .int (nI e988.1))], [.ref m0], M104)) rfl rfl rfl ?_
    refine ps_st (S' := (112, [(0, .ref m0), (2, .int (nI e988.1))], [.int (-1), .ref m0], M104)) rfl rfl rfl ?_
    refine pr_put (j := 74) rfl hR106 rfl (fun M118 I119 hR120 hi121 hI122 => ?_)
    have hi123 := (hI122 49 (by decide)).trans hi109
    have hi124 := (hI122 17 (by decide)).trans hi110
    have hi125 := (hI122 18 (by decide)).trans hi111
    have hi126 := (hI122 0 (by decide)).trans hi112
    have hi127 := (hI122 47 (by decide)).trans hi113
    have hi128 := (hI122 48 (by decide)).trans hi114
    have hi129 := (hI122 73 (by decide)).trans hi107
    have hB_130 := hB_115.mono (pIx hI122 (by decide)) (fun _ _ => rfl)
    have hK_131 := hK_116.mono (pIx hI122 (by decide)) (fun _ _ => rfl)
    have hEI132 := hEI117.put hI122 (by decide)
    show pl _ _ _ (115, [(0, .ref m0), (2, .int (nI e988.1))], [], M118) _
    refine ps_st (S' := (116, [(0, .ref m0), (2, .int (nI e988.1))], [.ref m0], M118)) rfl rfl rfl ?_
    refine ps_st (S' := (117, [(0, .ref m0), (2, .int (nI e988.1))], [.int 0, .ref m0], M118)) rfl rfl rfl ?_
    refine pr_put (j := 17) rfl hR120 rfl (fun M133 I134 hR135 hi136 hI137 => ?_)
    have hi138 := (hI137 49 (by decide)).trans hi123
    have hi139 := (hI137 18 (by decide)).trans hi125
    have hi140 := (hI137 0 (by decide)).trans hi126
    have hi141 := (hI137 47 (by decide)).trans hi127
    have hi142 := (hI137 48 (by decide)).trans hi128
    have hi143 := (hI137 73 (by decide)).trans hi129
    have hi144 := (hI137 74 (by decide)).trans hi121
    have hB_145 := hB_130.mono (pIx hI137 (by decide)) (fun _ _ => rfl)
    have hK_146 := hK_131.mono (pIx hI137 (by decide)) (fun _ _ => rfl)
    have hEI147 := hEI132.put hI137 (by decide)
    show pl _ _ _ (120, [(0, .ref m0), (2, .int (nI e988.1))], [], M133) _
    refine ps_st (S' := (121, [(0, .ref m0), (2, .int (nI e988.1))], [.int (nI e988.1)], M133)) rfl rfl rfl ?_
    exact ps_reti rfl (Or.inr ⟨e988, I134, R90, q14_s, rfl, hR135, hEI147, hER103, hi143, hi136, hi139⟩)
set_option maxHeartbeats 4000000 in
theorem rd_read2b {g : xe_G} {m0 : Nat} {q : Nat → Nat} {z : Nat × Nat} {I : rI} {R : rR} {M : mi_H} {n : Nat} {f : Nat → Int32} {n2 : Nat} {f2 : Nat → Int32} (hR : RS g m0 q z I R M) (hi49 : I 49 = some 0) (hi17 : I 17 = some (nI n)) (hi18 : I 18 = some (nI n2)) (hB : BX 13 n f I R) (hK : KX I R) (hQ : BX 14 n2 f2 I R) (hn : n ≤ 65540) (hk2 : n2 ≤ 65540) (hr2 : s_read f2 n2 = none) : pt (mT g) 236 [.ref m0] M (fun v M' => (∃  (I' : rI) (R' : rR), (s_read f n = none) ∧ v = some (.int 0) ∧ RS g m0 q z I' R' M' ∧ eqI [0, 3, 8, 9, 10, 11, 16, 17, 18, 20, 25, 26, 47, 48, 50, 51, 52, 53, 54, 55, 56, 57, 58, 59, 60, 61, 65, 66, 67, 68, 69, 70, 71, 72, 73, 74] I I' ∧ eqR [1, 2, 4, 5, 6, 7, 12, 14, 21, 22, 27, 28, 29, 30, 31, 32, 33, 34, 35, 36, 37, 38, 39, 40, 41, 42, 43, 44, 45, 46] R R' ∧ I' 73 = some (-1) ∧ I' 17 = some (nI 0) ∧ I' 18 = some (nI n) ∧ XKV f n I' R' ∧ BX 14 n f I' R') ∨ (∃ (e9 : Nat × Nat) (I' : rI) (R' : rR), (s_read f n = some e9) ∧ v = some (.int (nI e9.1)) ∧ RS g m0 q z I' R' M' ∧ eqI [0, 3, 8, 9, 10, 11, 16, 17, 18, 20, 25, 26, 47, 48, 50, 51, 52, 53, 54, 55, 56, 57, 58, 59, 60, 61, 65, 66, 67, 68, 69, 70, 71, 72, 73, 74] I I' ∧ eqR [1, 2, 4, 5, 6, 7, 12, 14, 21, 22, 27, 28, 29, 30, 31, 32, 33, 34, 35, 36, 37, 38, 39, 40, 41, 42, 43, 44, 45, 46] R R' ∧ I' 73 = some (nI e9.2) ∧ I' 17 = some (nI 0) ∧ I' 18 = some (nI n2) ∧ XKV f2 n2 I' R' ∧ BX 14 n2 f2 I' R')) := by
  refine pt_in (b := mb_236 g) rfl (fun kf => ?_)
  show pl (mT g) kf (mb_236 g).2 (0, [(0, .ref m0)], [], M) _
  have hEI : eqI [0, 3, 8, 9, 10, 11, 16, 17, 18, 20, 25, 26, 47, 48, 50, 51, 52, 53, 54, 55, 56, 57, 58, 59, 60, 61, 65, 66, 67, 68, 69, 70, 71, 72, 73, 74] I I := eqI.rf
  have hER : eqR [1, 2, 4, 5, 6, 7, 12, 14, 21, 22, 27, 28, 29, 30, 31, 32, 33, 34, 35, 36, 37, 38, 39, 40, 41, 42, 43, 44, 45, 46] R R := eqR.rf
  have LL : ∀ (kf : Nat), (∀ (i : Nat) (M1 : mi_H) (I1 : rI) (R1 : rR), (RS g m0 q z I1 R1 M1) → (eqI [0, 3, 8, 9, 10, 11, 16, 17, 18, 20, 25, 26, 47, 48, 50, 51, 52, 53, 54, 55, 56, 57, 58, 59, 60, 61, 65, 66, 67, 68, 69, 70, 71, 72, 73, 74] I I1) → (eqR [1, 2, 4, 5, 6, 7, 12, 14, 21, 22, 27, 28, 29, 30, 31, 32, 33, 34, 35, 36, 37, 38, 39, 40, 41, 42, 43, 44, 45, 46] R R1) → (I1 17 = some (nI n)) → (I1 73 = some (-1)) → (BX 13 n f I1 R1) → (BX 14 i f I1 R1) → (XKV f n I1 R1) → (i ≤ n) → (s_read f n = none) →  pl (mT g) kf (mb_236 g).2 (53, [(0, .ref m0), (2, .int 0), (3, .int (nI i))], [], M1) (fun v M' => (∃  (I' : rI) (R' : rR), (s_read f n = none) ∧ v = some (.int 0) ∧ RS g m0 q z I' R' M' ∧ eqI [0, 3, 8, 9, 10, 11, 16, 17, 18, 20, 25, 26, 47, 48, 50, 51, 52, 53, 54, 55, 56, 57, 58, 59, 60, 61, 65, 66, 67, 68, 69, 70, 71, 72, 73, 74] I I' ∧ eqR [1, 2, 4, 5, 6, 7, 12, 14, 21, 22, 27, 28, 29, 30, 31, 32, 33, 34, 35, 36, 37, 38, 39, 40, 41, 42, 43, 44, 45, 46] R R' ∧ I' 73 = some (-1) ∧ I' 17 = some (nI 0) ∧ I' 18 = some (nI n) ∧ XKV f n I' R' ∧ BX 14 n f I' R') ∨ (∃ (e9 : Nat × Nat) (I' : rI) (R' : rR), (s_read f n = some e9) ∧ v = some (.int (nI e9.1)) ∧ RS g m0 q z I' R' M' ∧ eqI [0, 3, 8, 9, 10, 11, 16, 17, 18, 20, 25, 26, 47, 48, 50, 51, 52, 53, 54, 55, 56, 57, 58, 59, 60, 61, 65, 66, 67, 68, 69, 70, 71, 72, 73, 74] I I' ∧ eqR [1, 2, 4, 5, 6, 7, 12, 14, 21, 22, 27, 28, 29, 30, 31, 32, 33, 34, 35, 36, 37, 38, 39, 40, 41, 42, 43, 44, 45, 46] R R' ∧ I' 73 = some (nI e9.2) ∧ I' 17 = some (nI 0) ∧ I' 18 = some (nI n2) ∧ XKV f2 n2 I' R' ∧ BX 14 n2 f2 I' R'))) := by
    intro kf
    induction kf with
    | zero => exact (by intros; exact pl_0)
    | succ kf ih =>
      intro i M1 I1 R1 hR1 hEI1 hER1 hl17 hl73 hB1 hD1 hX1 hi hr
      refine ps_st1 (S' := (54, [(0, .ref m0), (2, .int 0), (3, .int (nI i))], [.int (nI i)], M1)) rfl rfl rfl ?_
      refine ps_st (S' := (55, [(0, .ref m0), (2, .int 0), (3, .int (nI i))], [.ref m0, .int (nI i)], M1)) rfl rfl rfl ?_
      refine pr_int (j := 17) (S' := (58, [(0, .ref m0), (2, .int 0), (3, .int (nI i))], [.int (nI n), .int (nI i)], M1)) rfl hR1 rfl hl17 rfl ?_
      refine ps_if2 (S1 := (79, [(0, .ref m0), (2, .int 0), (3, .int (nI i))], [], M1)) (S2 := (61, [(0, .ref m0), (2, .int 0), (3, .int (nI i))], [], M1)) rfl rfl rfl (fun c_58 => ?_) (fun c_58 => ?_)
      · have c_58 : (nI n) ≤ (nI i) := of_decide_eq_true c_58
        have n_58 : n ≤ i := (le_nI (p := n) (n := i) (by omega) (by omega)).mp c_58
        refine ps_st (S' := (80, [(0, .ref m0), (2, .int 0), (3, .int (nI i))], [.ref m0], M1)) rfl rfl rfl ?_
        refine ps_st (S' := (81, [(0, .ref m0), (2, .int 0), (3, .int (nI i))], [.ref m0, .ref m0], M1)) rfl rfl rfl ?_
        refine pr_int (j := 17) (S' := (84, [(0, .ref m0), (2, .int 0), (3, .int (nI i))], [.int (nI n), .ref m0], M1)) rfl hR1 rfl hl17 rfl ?_
        refine pr_put (j := 18) rfl hR1 rfl (fun M1 I2 hR3 hi4 hI5 => ?_)
        have hi6 := (hI5 17 (by decide)).trans hl17
        have hi7 := (hI5 73 (by decide)).trans hl73
        have hB_8 := hB1.mono (pIx hI5 (by decide)) (fun _ _ => rfl)
        have hD_9 := hD1.mono (pIx hI5 (by decide)) (fun _ _ => rfl)
        have hX_10 := hX1.mono (pIx hI5 (by decide)) (fun _ _ => rfl)
        have hEI11 := hEI1.put hI5 (by decide)
        show pl _ _ _ (87, [(0, .ref m0), (2, .int 0), (3, .int (nI i))], [], M1) _
        refine ps_st (S' := (110, [(0, .ref m0), (2, .int 0)], [], M1)) rfl rfl rfl ?_
        refine ps_st (S' := (111, [(0, .ref m0), (2, .int 0)], [.ref m0], M1)) rfl rfl rfl ?_
        refine ps_st (S' := (112, [(0, .ref m0), (2, .int 0)], [.int (-1), .ref m0], M1)) rfl rfl rfl ?_
        refine pr_put (j := 74) rfl hR3 rfl (fun M12 I13 hR14 hi15 hI16 => ?_)
        have hi19 := (hI16 17 (by decide)).trans hi6
        have hi20 := (hI16 73 (by decide)).trans hi7
        have hi21 := (hI16 18 (by decide)).trans hi4
        have hB_22 := hB_8.mono (pIx hI16 (by decide)) (fun _ _ => rfl)
        have hD_23 := hD_9.mono (pIx hI16 (by decide)) (fun _ _ => rfl)
        have hX_24 := hX_10.mono (pIx hI16 (by decide)) (fun _ _ => rfl)
        have hEI25 := hEI11.put hI16 (by decide)
        show pl _ _ _ (115, [(0, .ref m0), (2, .int 0)], [], M12) _
        refine ps_st (S' := (116, [(0, .ref m0), (2, .int 0)], [.ref m0], M12)) rfl rfl rfl ?_
        refine ps_st (S' := (117, [(0, .ref m0), (2, .int 0)], [.int 0, .ref m0], M12)) rfl rfl rfl ?_
        refine pr_put (j := 17) rfl hR14 rfl (fun M26 I27 hR28 hi29 hI30 => ?_)
        have hi31 := (hI30 73 (by decide)).trans hi20
        have hi32 := (hI30 18 (by decide)).trans hi21
        have hi33 := (hI30 74 (by decide)).trans hi15
        have hB_34 := hB_22.mono (pIx hI30 (by decide)) (fun _ _ => rfl)
        have hD_35 := hD_23.mono (pIx hI30 (by decide)) (fun _ _ => rfl)
        have hX_36 := hX_24.mono (pIx hI30 (by decide)) (fun _ _ => rfl)
        have hEI37 := hEI25.put hI30 (by decide)
        show pl _ _ _ (120, [(0, .ref m0), (2, .int 0)], [], M26) _
        refine ps_st (S' := (121, [(0, .ref m0), (2, .int 0)], [.int 0], M26)) rfl rfl rfl ?_
        exact ps_ret rfl rfl (Or.inl ⟨I27, R1, hr, rfl, hR28, hEI37, hER1, hi31, hi29, hi32, hX_36, BX.le hD_35 (by omega)⟩)
      · have c_58 : ¬ ((nI n) ≤ (nI i)) := of_decide_eq_false c_58
        have n_58 : ¬ (n ≤ i) := fun h9 => c_58 ((le_nI (p := n) (n := i) (by omega) (by omega)).mpr h9)
        refine ps_st (S' := (62, [(0, .ref m0), (2, .int 0), (3, .int (nI i))], [.ref m0], M1)) rfl rfl rfl ?_
        refine pr_ref (j := 14) (S' := (65, [(0, .ref m0), (2, .int 0), (3, .int (nI i))], [.ref (q 14)], M1)) rfl hR1 rfl rfl ?_
        refine ps_st (S' := (66, [(0, .ref m0), (2, .int 0), (3, .int (nI i))], [.int (nI i), .ref (q 14)], M1)) rfl rfl rfl ?_
        refine ps_st (S' := (67, [(0, .ref m0), (2, .int 0), (3, .int (nI i))], [.ref m0, .int (nI i), .ref (q 14)], M1)) rfl rfl rfl ?_
        refine pr_ref (j := 13) (S' := (70, [(0, .ref m0), (2, .int 0), (3, .int (nI i))], [.ref (q 13), .int (nI i), .ref (q 14)], M1)) rfl hR1 rfl rfl ?_
        refine ps_st (S' := (71, [(0, .ref m0), (2, .int 0), (3, .int (nI i))], [.int (nI i), .ref (q 13), .int (nI i), .ref (q 14)], M1)) rfl rfl rfl ?_
        refine pr_ld (a := 13) (j := i) (y := (f i)) (S' := (72, [(0, .ref m0), (2, .int 0), (3, .int (nI i))], [.int (f i), .int (nI i), .ref (q 14)], M1)) rfl hR1 rfl (by omega) (fun _ => (hB1 i (by omega)).1) rfl (fun i1_71 => ?_)
        refine pr_st (a := 14) (j := i) rfl hR1 rfl (by omega) (fun M38 R39 i1_72 hR40 hS41 => ?_)
        have hB_42 := hB1.mono (fun _ _ => rfl) (rRx hS41 (by decide))
        have hX_43 := hX1.mono (fun _ _ => rfl) (rRx hS41 (by decide))
        have hER44 := hER1.st hS41 (by decide)
        show pl _ _ _ (73, [(0, .ref m0), (2, .int 0), (3, .int (nI i))], [], M38) _
        have hD_45 : BX 14 (i + 1) f I1 R39 := BX.st hD1 hS41 (hB1 i (by omega)).2 rfl
        refine ps_st (S' := (76, [(3, .int ((nI i) + 1)), (0, .ref m0), (2, .int 0)], [], M38)) rfl rfl rfl ?_
        rw [nI_add1 (p := i) (k := 1) (x := 1) rfl (by omega)]
        show pl _ _ _ (_, [(3, .int (nI (i + 1))), (0, .ref m0), (2, .int 0)], [], M38) _
        refine ps_st (S' := (53, [(0, .ref m0), (2, .int 0), (3, .int (nI (i + 1)))], [], M38)) rfl rfl rfl ?_
        exact ih (i + 1) M38 I1 R39 hR40 hEI1 hER44 hl17 hl73 hB_42 hD_45 hX_43 (by omega) (hr)
  refine ps_st (S' := (1, [(0, .ref m0)], [.ref m0], M)) rfl rfl rfl ?_
  refine ps_st (S' := (2, [(0, .ref m0)], [.int 0, .ref m0], M)) rfl rfl rfl ?_
  refine pr_put (j := 0) rfl hR rfl (fun M46 I47 hR48 hi50 hI51 => ?_)
  have hi52 := (hI51 49 (by decide)).trans hi49
  have hi53 := (hI51 17 (by decide)).trans hi17
  have hi54 := (hI51 18 (by decide)).trans hi18
  have hB_55 := hB.mono (pIx hI51 (by decide)) (fun _ _ => rfl)
  have hK_56 := hK.mono (pIx hI51 (by decide)) (fun _ _ => rfl)
  have hQ_57 := hQ.mono (pIx hI51 (by decide)) (fun _ _ => rfl)
  have hEI58 := hEI.put hI51 (by decide)
  show pl _ _ _ (5, [(0, .ref m0)], [], M46) _
  refine ps_st (S' := (6, [(0, .ref m0)], [.ref m0], M46)) rfl rfl rfl ?_
  refine ps_st (S' := (7, [(0, .ref m0)], [.ref m0, .ref m0], M46)) rfl rfl rfl ?_
  refine pr_ref (j := 13) (S' := (10, [(0, .ref m0)], [.ref (q 13), .ref m0], M46)) rfl hR48 rfl rfl ?_
  refine ps_st (S' := (11, [(0, .ref m0)], [.ref m0, .ref (q 13), .ref m0], M46)) rfl rfl rfl ?_
  refine pr_int (j := 17) (S' := (14, [(0, .ref m0)], [.int (nI n), .ref (q 13), .ref m0], M46)) rfl hR48 rfl hi53 rfl ?_
  refine pl_call (a := [.ref m0, .ref (q 13), .int (nI n)]) (rest := []) rfl rfl rfl (rd_parse13b (n := n) (f := f) hR48 hi52 hB_55 hK_56 (hn)) (fun v59 M60 q61 => ?_)
  rcases q61 with q61 | q61
  · skip
    obtain ⟨I62, R63, q14_s, rfl, hR64, hI65, hX66, hX_67⟩ := q61
    have hi68 := (hI65 49 (by decide)).trans hi52
    have hi69 := (hI65 17 (by decide)).trans hi53
    have hi70 := (hI65 18 (by decide)).trans hi54
    have hi71 := (hI65 0 (by decide)).trans hi50
    have hB_72 := hB_55.mono (cIx hI65 (by decide)) (cRx hX66 (by decide))
    have hK_73 := hK_56.mono (cIx hI65 (by decide)) (cRx hX66 (by decide))
    have hQ_74 := hQ_57.mono (cIx hI65 (by decide)) (cRx hX66 (by decide))
    have hEI75 := hEI58.tr hI65 (by decide)
    have hER76 := hER.tr hX66 (by decide)
    show pl _ _ _ (17, [(0, .ref m0)], [.int 1], M60) _
    refine ps_st (S' := (18, [(1, .int 1), (0, .ref m0)], [], M60)) rfl rfl rfl ?_
    refine ps_st (S' := (19, [(1, .int 1), (0, .ref m0)], [.ref m0], M60)) rfl rfl rfl ?_
    refine ps_st (S' := (20, [(1, .int 1), (0, .ref m0)], [.int 1, .ref m0], M60)) rfl rfl rfl ?_
    refine ps_if (S1 := (27, [(1, .int 1), (0, .ref m0)], [.ref m0], M60)) (S2 := (23, [(1, .int 1), (0, .ref m0)], [.ref m0], M60)) rfl rfl rfl (fun c_20 => ?_) (fun c_20 => ?_)
    · exact absurd (of_decide_eq_true c_20) (by decide)
    refine ps_st (S' := (24, [(1, .int 1), (0, .ref m0)], [.int (-1), .ref m0], M60)) rfl rfl rfl ?_
    refine ps_st (S' := (31, [(0, .ref m0), (1, .int 1)], [.int (-1), .ref m0], M60)) rfl rfl rfl ?_
    refine pr_put (j := 73) rfl hR64 rfl (fun M77 I78 hR79 hi80 hI81 => ?_)
    have hi82 := (hI81 49 (by decide)).trans hi68
    have hi83 := (hI81 17 (by decide)).trans hi69
    have hi84 := (hI81 18 (by decide)).trans hi70
    have hi85 := (hI81 0 (by decide)).trans hi71
    have hB_86 := hB_72.mono (pIx hI81 (by decide)) (fun _ _ => rfl)
    have hK_87 := hK_73.mono (pIx hI81 (by decide)) (fun _ _ => rfl)
    have hQ_88 := hQ_74.mono (pIx hI81 (by decide)) (fun _ _ => rfl)
    have hX_89 := hX_67.mono (pIx hI81 (by decide)) (fun _ _ => rfl)
    have hEI90 := hEI75.put hI81 (by decide)
    show pl _ _ _ (34, [(0, .ref m0), (1, .int 1)], [], M77) _
    refine ps_st (S' := (35, [(0, .ref m0), (1, .int 1)], [.int 1], M77)) rfl rfl rfl ?_
    refine ps_if (S1 := (42, [(0, .ref m0), (1, .int 1)], [], M77)) (S2 := (38, [(0, .ref m0), (1, .int 1)], [], M77)) rfl rfl rfl (fun c_35 => ?_) (fun c_35 => ?_)
    · exact absurd (of_decide_eq_true c_35) (by decide)
    refine ps_st (S' := (39, [(0, .ref m0), (1, .int 1)], [.int 0], M77)) rfl rfl rfl ?_
    refine ps_st (S' := (46, [(0, .ref m0), (1, .int 1)], [.int 0], M77)) rfl rfl rfl ?_
    refine ps_st (S' := (47, [(2, .int 0), (0, .ref m0), (1, .int 1)], [], M77)) rfl rfl rfl ?_
    refine ps_st (S' := (48, [(2, .int 0), (0, .ref m0), (1, .int 1)], [.int 1], M77)) rfl rfl rfl ?_
    refine ps_if (S1 := (90, [(2, .int 0), (0, .ref m0), (1, .int 1)], [], M77)) (S2 := (51, [(2, .int 0), (0, .ref m0), (1, .int 1)], [], M77)) rfl rfl rfl (fun c_48 => ?_) (fun c_48 => ?_)
    · exact absurd (of_decide_eq_true c_48) (by decide)
    refine ps_st (S' := (52, [(2, .int 0), (0, .ref m0), (1, .int 1)], [.int 0], M77)) rfl rfl rfl ?_
    refine ps_st (S' := (53, [(0, .ref m0), (2, .int 0), (3, .int 0)], [], M77)) rfl rfl rfl ?_
    have hD0 : BX 14 0 f I78 R63 := fun i9 h9 => absurd h9 (Nat.not_lt_zero _)
    exact (LL kf) (0) M77 I78 R63 hR79 hEI90 hER76 hi83 hi80 hB_86 hD0 hX_89 (by omega) (q14_s)
  · skip
    obtain ⟨e991, I92, R93, q14_s, rfl, hR94, hI95, hX96, hi97, hi98⟩ := q61
    have hi99 := (hI95 49 (by decide)).trans hi52
    have hi100 := (hI95 17 (by decide)).trans hi53
    have hi101 := (hI95 18 (by decide)).trans hi54
    have hi102 := (hI95 0 (by decide)).trans hi50
    have hB_103 := hB_55.mono (cIx hI95 (by decide)) (cRx hX96 (by decide))
    have hK_104 := hK_56.mono (cIx hI95 (by decide)) (cRx hX96 (by decide))
    have hQ_105 := hQ_57.mono (cIx hI95 (by decide)) (cRx hX96 (by decide))
    have hEI106 := hEI58.tr hI95 (by decide)
    have hER107 := hER.tr hX96 (by decide)
    show pl _ _ _ (17, [(0, .ref m0)], [.int 0], M60) _
    refine ps_st (S' := (18, [(1, .int 0), (0, .ref m0)], [], M60)) rfl rfl rfl ?_
    refine ps_st (S' := (19, [(1, .int 0), (0, .ref m0)], [.ref m0], M60)) rfl rfl rfl ?_
    refine ps_st (S' := (20, [(1, .int 0), (0, .ref m0)], [.int 0, .ref m0], M60)) rfl rfl rfl ?_
    refine ps_if (S1 := (27, [(1, .int 0), (0, .ref m0)], [.ref m0], M60)) (S2 := (23, [(1, .int 0), (0, .ref m0)], [.ref m0], M60)) rfl rfl rfl (fun c_20 => ?_) (fun c_20 => ?_)
    rotate_left
    · exact absurd (by decide) (of_decide_eq_false c_20)
    refine ps_st (S' := (28, [(1, .int 0), (0, .ref m0)], [.ref m0, .ref m0], M60)) rfl rfl rfl ?_
    refine pr_int (j := 48) (S' := (31, [(0, .ref m0), (1, .int 0)], [.int (nI e991.2), .ref m0], M60)) rfl hR94 rfl hi98 rfl ?_
    refine pr_put (j := 73) rfl hR94 rfl (fun M108 I109 hR110 hi111 hI112 => ?_)
    have hi113 := (hI112 49 (by decide)).trans hi99
    have hi114 := (hI112 17 (by decide)).trans hi100
    have hi115 := (hI112 18 (by decide)).trans hi101
    have hi116 := (hI112 0 (by decide)).trans hi102
    have hi117 := (hI112 47 (by decide)).trans hi97
    have hi118 := (hI112 48 (by decide)).trans hi98
    have hB_119 := hB_103.mono (pIx hI112 (by decide)) (fun _ _ => rfl)
    have hK_120 := hK_104.mono (pIx hI112 (by decide)) (fun _ _ => rfl)
    have hQ_121 := hQ_105.mono (pIx hI112 (by decide)) (fun _ _ => rfl)
    have hEI122 := hEI106.put hI112 (by decide)
    show pl _ _ _ (34, [(0, .ref m0), (1, .int 0)], [], M108) _
    refine ps_st (S' := (35, [(0, .ref m0), (1, .int 0)], [.int 0], M108)) rfl rfl rfl ?_
    refine ps_if (S1 := (42, [(0, .ref m0), (1, .int 0)], [], M108)) (S2 := (38, [(0, .ref m0), (1, .int 0)], [], M108)) rfl rfl rfl (fun c_35 => ?_) (fun c_35 => ?_)
    rotate_left
    · exact absurd (by decide) (of_decide_eq_false c_35)
    refine ps_st (S' := (43, [(0, .ref m0), (1, .int 0)], [.ref m0], M108)) rfl rfl rfl ?_
    refine pr_int (j := 47) (S' := (46, [(0, .ref m0), (1, .int 0)], [.int (nI e991.1)], M108)) rfl hR110 rfl hi117 rfl ?_
    refine ps_st (S' := (47, [(2, .int (nI e991.1)), (0, .ref m0), (1, .int 0)], [], M108)) rfl rfl rfl ?_
    refine ps_st (S' := (48, [(2, .int (nI e991.1)), (0, .ref m0), (1, .int 0)], [.int 0], M108)) rfl rfl rfl ?_
    refine ps_if (S1 := (90, [(2, .int (nI e991.1)), (0, .ref m0), (1, .int 0)], [], M108)) (S2 := (51, [(2, .int (nI e991.1)), (0, .ref m0), (1, .int 0)], [], M108)) rfl rfl rfl (fun c_48 => ?_) (fun c_48 => ?_)
    rotate_left
    · exact absurd (by decide) (of_decide_eq_false c_48)
    refine ps_st (S' := (91, [(2, .int (nI e991.1)), (0, .ref m0), (1, .int 0)], [.ref m0], M108)) rfl rfl rfl ?_
    refine pr_int (j := 18) (S' := (94, [(2, .int (nI e991.1)), (0, .ref m0), (1, .int 0)], [.int (nI n2)], M108)) rfl hR110 rfl hi115 rfl ?_
    refine ps_if (S1 := (110, [(0, .ref m0), (2, .int (nI e991.1))], [], M108)) (S2 := (97, [(2, .int (nI e991.1)), (0, .ref m0), (1, .int 0)], [], M108)) rfl rfl rfl (fun c_94 => ?_) (fun c_94 => ?_)
    · exact absurd (of_decide_eq_true c_94) (show ¬ ((nI n2) < 0) from fun h9 => absurd ((lt_nI (p := n2) (n := 0) (by omega) (by decide)).mp h9) (by omega))
    refine ps_st (S' := (98, [(2, .int (nI e991.1)), (0, .ref m0), (1, .int 0)], [.ref m0], M108)) rfl rfl rfl ?_
    refine ps_st (S' := (99, [(2, .int (nI e991.1)), (0, .ref m0), (1, .int 0)], [.ref m0, .ref m0], M108)) rfl rfl rfl ?_
    refine pr_ref (j := 14) (S' := (102, [(2, .int (nI e991.1)), (0, .ref m0), (1, .int 0)], [.ref (q 14), .ref m0], M108)) rfl hR110 rfl rfl ?_
    refine ps_st (S' := (103, [(2, .int (nI e991.1)), (0, .ref m0), (1, .int 0)], [.ref m0, .ref (q 14), .ref m0], M108)) rfl rfl rfl ?_
    refine pr_int (j := 18) (S' := (106, [(2, .int (nI e991.1)), (0, .ref m0), (1, .int 0)], [.int (nI n2), .ref (q 14), .ref m0], M108)) rfl hR110 rfl hi115 rfl ?_
    refine pl_call (a := [.ref m0, .ref (q 14), .int (nI n2)]) (rest := []) rfl rfl rfl (rd_parse14b (n := n2) (f := f2) hR110 hi113 hQ_121 hK_120 (hk2)) (fun v123 M124 q125 => ?_)
    rcases q125 with q125 | q125
    · skip
      obtain ⟨I126, R127, q106_s, rfl, hR128, hI129, hX130, hX_131⟩ := q125
      have hi132 := (hI129 49 (by decide)).trans hi113
      have hi133 := (hI129 17 (by decide)).trans hi114
      have hi134 := (hI129 18 (by decide)).trans hi115
      have hi135 := (hI129 0 (by decide)).trans hi116
      have hi136 := (hI129 73 (by decide)).trans hi111
      have hB_137 := hB_119.mono (cIx hI129 (by decide)) (cRx hX130 (by decide))
      have hK_138 := hK_120.mono (cIx hI129 (by decide)) (cRx hX130 (by decide))
      have hQ_139 := hQ_121.mono (cIx hI129 (by decide)) (cRx hX130 (by decide))
      have hEI140 := hEI122.tr hI129 (by decide)
      have hER141 := hER107.tr hX130 (by decide)
      show pl _ _ _ (109, [(2, .int (nI e991.1)), (0, .ref m0), (1, .int 0)], [.int 1], M124) _
      refine ps_st (S' := (110, [(0, .ref m0), (2, .int (nI e991.1))], [], M124)) rfl rfl rfl ?_
      refine ps_st (S' := (111, [(0, .ref m0), (2, .int (nI e991.1))], [.ref m0], M124)) rfl rfl rfl ?_
      refine ps_st (S' := (112, [(0, .ref m0), (2, .int (nI e991.1))], [.int (-1), .ref m0], M124)) rfl rfl rfl ?_
      refine pr_put (j := 74) rfl hR128 rfl (fun M142 I143 hR144 hi145 hI146 => ?_)
      have hi147 := (hI146 49 (by decide)).trans hi132
      have hi148 := (hI146 17 (by decide)).trans hi133
      have hi149 := (hI146 18 (by decide)).trans hi134
      have hi150 := (hI146 0 (by decide)).trans hi135
      have hi151 := (hI146 73 (by decide)).trans hi136
      have hB_152 := hB_137.mono (pIx hI146 (by decide)) (fun _ _ => rfl)
      have hK_153 := hK_138.mono (pIx hI146 (by decide)) (fun _ _ => rfl)
      have hQ_154 := hQ_139.mono (pIx hI146 (by decide)) (fun _ _ => rfl)
      have hX_155 := hX_131.mono (pIx hI146 (by decide)) (fun _ _ => rfl)
      have hEI156 := hEI140.put hI146 (by decide)
      show pl _ _ _ (115, [(0, .ref m0), (2, .int (nI e991.1))], [], M142) _
      refine ps_st (S' := (116, [(0, .ref m0), (2, .int (nI e991.1))], [.ref m0], M142)) rfl rfl rfl ?_
      refine ps_st (S' := (117, [(0, .ref m0), (2, .int (nI e991.1))], [.int 0, .ref m0], M142)) rfl rfl rfl ?_
      refine pr_put (j := 17) rfl hR144 rfl (fun M157 I158 hR159 hi160 hI161 => ?_)
      have hi162 := (hI161 49 (by decide)).trans hi147
      have hi163 := (hI161 18 (by decide)).trans hi149
      have hi164 := (hI161 0 (by decide)).trans hi150
      have hi165 := (hI161 73 (by decide)).trans hi151
      have hi166 := (hI161 74 (by decide)).trans hi145
      have hB_167 := hB_152.mono (pIx hI161 (by decide)) (fun _ _ => rfl)
      have hK_168 := hK_153.mono (pIx hI161 (by decide)) (fun _ _ => rfl)
      have hQ_169 := hQ_154.mono (pIx hI161 (by decide)) (fun _ _ => rfl)
      have hX_170 := hX_155.mono (pIx hI161 (by decide)) (fun _ _ => rfl)
      have hEI171 := hEI156.put hI161 (by decide)
      show pl _ _ _ (120, [(0, .ref m0), (2, .int (nI e991.1))], [], M157) _
      refine ps_st (S' := (121, [(0, .ref m0), (2, .int (nI e991.1))], [.int (nI e991.1)], M157)) rfl rfl rfl ?_
      exact ps_reti rfl (Or.inr ⟨e991, I158, R127, q14_s, rfl, hR159, hEI171, hER141, hi165, hi160, hi163, hX_170, hQ_169⟩)
    · skip
      obtain ⟨e9172, I173, R174, q106_s, rfl, hR175, hI176, hX177, hi178, hi179⟩ := q125
      have hi180 := (hI176 49 (by decide)).trans hi113
      have hi181 := (hI176 17 (by decide)).trans hi114
      have hi182 := (hI176 18 (by decide)).trans hi115
      have hi183 := (hI176 0 (by decide)).trans hi116
      have hi184 := (hI176 73 (by decide)).trans hi111
      have hB_185 := hB_119.mono (cIx hI176 (by decide)) (cRx hX177 (by decide))
      have hK_186 := hK_120.mono (cIx hI176 (by decide)) (cRx hX177 (by decide))
      have hQ_187 := hQ_121.mono (cIx hI176 (by decide)) (cRx hX177 (by decide))
      have hEI188 := hEI122.tr hI176 (by decide)
      have hER189 := hER107.tr hX177 (by decide)
      show pl _ _ _ (109, [(2, .int (nI e991.1)), (0, .ref m0), (1, .int 0)], [.int 0], M124) _
      exact absurd (hr2.symm.trans q106_s) (fun h9 => by cases h9)
