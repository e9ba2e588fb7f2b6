section
/-! what the reference keeps (my own text) -/
section XKA
variable {f : Nat → Int32} {n : Nat} {I I' : rI} {R R' : rR}
/-- its members: how many, their names and descriptors -/
def XKM (f : Nat → Int32) (n : Nat) (tx : List (List Nat)) (E : List (Nat × Nat)) (p1 pF pM pA : Nat) (I : rI) (R : rR) : Prop := I 25 = some (nI (mbs f n (by2 f pF) (pF + 2)).length) ∧ I 26 = some (nI (mbs f n (by2 f pM) (pM + 2)).length) ∧ FN 28 29 f n E tx (mbs f n (by2 f pF) (pF + 2)) 0 (mbs f n (by2 f pF) (pF + 2)).length I R ∧ FN 35 36 f n E tx (mbs f n (by2 f pM) (pM + 2)) 0 (mbs f n (by2 f pM) (pM + 2)).length I R ∧ s_mbs f n pF = .inr pM ∧ s_mbs f n pM = .inr pA ∧ s_class f n p1 = .inr pF ∧ s_attributes f n pA = .inr n ∧ (I 54 = some (nI p1) ∧ I 58 = some (nI (by2 f p1)) ∧ I 61 = some (nI (by2 f (p1 + 6))) ∧ FQ f n E (mbs f n (by2 f pF) (pF + 2)) 0 (mbs f n (by2 f pF) (pF + 2)).length I R ∧ MQX f n E (mbs f n (by2 f pM) (pM + 2)) 0 (mbs f n (by2 f pM) (pM + 2)).length I R) ∧ ∃ (bc : Nat) (K : KT), clS f n E (by2 f p1) (by2 f 6) (by2 f pA) (pA + 2) 0 0 = .inr bc ∧ clU f n E (by2 f 6) (by2 f pA) (pA + 2) (0, 0, 0, 0, 0, -1) = K ∧ I 71 = some (nI bc) ∧ I 66 = some (nI K.1) ∧ I 65 = some (nI K.2.2.1) ∧ I 68 = some (nI K.2.2.2.1) ∧ I 69 = some (nI K.2.2.2.2.1) ∧ I 70 = some (b7 K) ∧ I 72 = some K.2.2.2.2.2
theorem XKM.mono {tx : List (List Nat)} {E : List (Nat × Nat)} {p1 pF pM pA : Nat} (h : XKM f n tx E p1 pF pM pA I R) (hI : ∀ k, k ∈ [3, 8, 16, 49, 51, 52, 53, 25, 26, 54, 58, 61, 65, 66, 68, 69, 70, 71, 72] → I' k = I k) (hR : ∀ k, k ∈ [1, 4, 5, 6, 7, 12, 21, 22, 28, 29, 35, 36, 27, 30, 31, 32, 33, 34, 37, 38, 39, 40, 41, 42, 43, 44, 45, 46] → R' k = R k) : XKM f n tx E p1 pF pM pA I' R' := by
  obtain ⟨h1, h2, h3, h4, h5, h6, h7, h8, ⟨a1, a2, a3, a4, a5⟩, bc, K, h9, h10, g1, g2, g3, g4, g5, g6, g7⟩ := h
  exact ⟨(hI 25 (by decide)).trans h1, (hI 26 (by decide)).trans h2, h3.mono (fun k hk => by cases hk) (fun k hk => hR k (by revert k; decide)), h4.mono (fun k hk => by cases hk) (fun k hk => hR k (by revert k; decide)), h5, h6, h7, h8, ⟨(hI 54 (by decide)).trans a1, (hI 58 (by decide)).trans a2, (hI 61 (by decide)).trans a3, a4.mono (fun k hk => by cases hk) (fun k hk => hR k (by revert k; decide)), a5.mono (fun k hk => by cases hk) (fun k hk => hR k (by revert k; decide))⟩, bc, K, h9, h10, (hI 71 (by decide)).trans g1, (hI 66 (by decide)).trans g2, (hI 65 (by decide)).trans g3, (hI 68 (by decide)).trans g4, (hI 69 (by decide)).trans g5, (hI 70 (by decide)).trans g6, (hI 72 (by decide)).trans g7⟩
/-- a file that is kept, as it was parsed -/
def XKV (f : Nat → Int32) (n : Nat) (I : rI) (R : rR) : Prop := ∃ (tx : List (List Nat)) (cN : Nat) (A : Nat → Nat) (E : List (Nat × Nat)) (N mj p1 pF pM pA : Nat), FK n f I R ∧ SYT tx cN A I R ∧ RPV f n E tx N I R ∧ I 51 = some 0 ∧ I 52 = some (nI N) ∧ I 53 = some (nI mj) ∧ s_whole f n = .inr (E, p1, pF, pM, pA) ∧ N = by2 f 8 ∧ mj = by2 f 6 ∧ XKM f n tx E p1 pF pM pA I R
theorem XKV.mono (h : XKV f n I R) (hI : ∀ k, k ∈ [3, 8, 16, 49, 51, 52, 53, 25, 26, 54, 58, 61, 65, 66, 68, 69, 70, 71, 72] → I' k = I k) (hR : ∀ k, k ∈ [1, 4, 5, 6, 7, 12, 21, 22, 28, 29, 35, 36, 27, 30, 31, 32, 33, 34, 37, 38, 39, 40, 41, 42, 43, 44, 45, 46] → R' k = R k) : XKV f n I' R' := by
  obtain ⟨tx, cN, A, E, N, mj, p1, pF, pM, pA, h1, h2, h3, h4, h5, h6, h7, h8, h9, h10⟩ := h
  refine ⟨tx, cN, A, E, N, mj, p1, pF, pM, pA, h1.mono (fun k hk => hI k (by revert k; decide)) (fun k hk => hR k (by revert k; decide)), h2.mono (fun k hk => hI k (by revert k; decide)) (fun k hk => hR k (by revert k; decide)), h3.mono (fun k hk => by cases hk) (fun k hk => hR k (by revert k; decide)), (hI 51 (by decide)).trans h4, (hI 52 (by decide)).trans h5, (hI 53 (by decide)).trans h6, h7, h8, h9, h10.mono hI hR⟩
/-- what is kept, if anything is -/
def KPR (ko : Option (Nat × (Nat → Int32))) (I : rI) (R : rR) : Prop := match ko with
  | none => ∃ kn : Int32, I 18 = some kn ∧ kn < 0
  | some p => I 18 = some (nI p.1) ∧ p.1 ≤ 65540 ∧ BX 14 p.1 p.2 I R ∧ s_read p.2 p.1 = none ∧ XKV p.2 p.1 I R
theorem KPR.mono {ko : Option (Nat × (Nat → Int32))} (h : KPR ko I R) (hI : ∀ k, k ∈ [18, 3, 8, 16, 49, 51, 52, 53, 25, 26, 54, 58, 61, 65, 66, 68, 69, 70, 71, 72] → I' k = I k) (hR : ∀ k, k ∈ [14, 1, 4, 5, 6, 7, 12, 21, 22, 28, 29, 35, 36, 27, 30, 31, 32, 33, 34, 37, 38, 39, 40, 41, 42, 43, 44, 45, 46] → R' k = R k) : KPR ko I' R' := by
  cases ko with
  | none =>
    obtain ⟨kn, h1, h2⟩ := h
    exact ⟨kn, (hI 18 (by decide)).trans h1, h2⟩
  | some p =>
    obtain ⟨h1, h2, h3, h4, h5⟩ := h
    exact ⟨(hI 18 (by decide)).trans h1, h2, h3.mono (fun k hk => by cases hk) (fun k hk => hR k (by revert k; decide)), h4, h5.mono (fun k hk => hI k (by revert k; decide)) (fun k hk => hR k (by revert k; decide))⟩
end XKA
set_option maxHeartbeats 4000000 in
theorem rd_checkFile2 {g : xe_G} {m0 : Nat} {q : Nat → Nat} {z : Nat × Nat} {I : rI} {R : rR} {M : mi_H} {n : Nat} {f : Nat → Int32} {tx : List (List Nat)} {cN : Nat} {A : Nat → Nat} {s1 s2 s3 : Nat} (hR : RS g m0 q z I R M) (hi20 : I 20 = some 0) (hi25 : I 25 = some 0) (hi26 : I 26 = some 0) (hi9 : I 9 = some (nI s1)) (hi10 : I 10 = some (nI s2)) (hi11 : I 11 = some (nI s3)) (hF : FK n f I R) (hY : SYT tx cN A I R) (hK : KX I R) (hs1 : s1 < tx.length ∧ tx.getD s1 [] = ltx 25) (hs2 : s2 < tx.length ∧ tx.getD s2 [] = ltx 26) (hs3 : s3 < tx.length ∧ tx.getD s3 [] = ltx 27) : pt (mT g) 190 [.ref m0] M (fun v M' => (∃  (I' : rI) (R' : rR), (s_read f n = none) ∧ v = some (.int 1) ∧ RS g m0 q z I' R' M' ∧ eqI [3, 8, 20, 25, 26, 47, 48, 50, 51, 52, 53, 54, 55, 56, 57, 58, 59, 60, 61, 65, 66, 67, 68, 69, 70, 71, 72] I I' ∧ eqR [1, 2, 4, 5, 6, 7, 21, 22, 27, 28, 29, 30, 31, 32, 33, 34, 35, 36, 37, 38, 39, 40, 41, 42, 43, 44, 45, 46] R R' ∧ XKV f n I' R') ∨ (∃ (e9 : Nat × Nat) (I' : rI) (R' : rR), (s_read f n = some e9) ∧ v = some (.int 0) ∧ RS g m0 q z I' R' M' ∧ eqI [3, 8, 20, 25, 26, 47, 48, 50, 51, 52, 53, 54, 55, 56, 57, 58, 59, 60, 61, 65, 66, 67, 68, 69, 70, 71, 72] I I' ∧ eqR [1, 2, 4, 5, 6, 7, 21, 22, 27, 28, 29, 30, 31, 32, 33, 34, 35, 36, 37, 38, 39, 40, 41, 42, 43, 44, 45, 46] R R' ∧ I' 47 = some (nI e9.1) ∧ I' 48 = some (nI e9.2))) := by
  refine pt_in (b := mb_190 g) rfl (fun kf => ?_)
  show pl (mT g) kf (mb_190 g).2 (0, [(0, .ref m0)], [], M) _
  have hEI : eqI [3, 8, 20, 25, 26, 47, 48, 50, 51, 52, 53, 54, 55, 56, 57, 58, 59, 60, 61, 65, 66, 67, 68, 69, 70, 71, 72] I I := eqI.rf
  have hER : eqR [1, 2, 4, 5, 6, 7, 21, 22, 27, 28, 29, 30, 31, 32, 33, 34, 35, 36, 37, 38, 39, 40, 41, 42, 43, 44, 45, 46] R R := eqR.rf
  have hn := hF.1
  have LL : ∀ (kf : Nat), (∀ (N mj p1 pF pM pA : Nat) (E : List (Nat × Nat)) (tx : List (List Nat)) (cN : Nat) (A : Nat → Nat) (M1 : mi_H) (I1 : rI) (R1 : rR), (RS g m0 q z I1 R1 M1) → (eqI [3, 8, 20, 25, 26, 47, 48, 50, 51, 52, 53, 54, 55, 56, 57, 58, 59, 60, 61, 65, 66, 67, 68, 69, 70, 71, 72] I I1) → (eqR [1, 2, 4, 5, 6, 7, 21, 22, 27, 28, 29, 30, 31, 32, 33, 34, 35, 36, 37, 38, 39, 40, 41, 42, 43, 44, 45, 46] R R1) → (I1 51 = some 0) → (I1 52 = some (nI N)) → (I1 53 = some (nI mj)) → (I1 54 = some (nI p1)) → (I1 55 = some (nI pF)) → (I1 56 = some (nI pM)) → (I1 57 = some (nI pA)) → (I1 25 = some (nI 0)) → (I1 26 = some (nI 0)) → (I1 71 = some (nI 0)) → (I1 66 = some 0) → (I1 65 = some (nI 0)) → (I1 68 = some (nI 0)) → (I1 69 = some (nI 0)) → (I1 70 = some (-1)) → (I1 72 = some (-1)) → (I1 9 = some (nI s1)) → (I1 10 = some (nI s2)) → (I1 11 = some (nI s3)) → (FK n f I1 R1) → (SYT tx cN A I1 R1) → (RPV f n E tx N I1 R1) → (KX I1 R1) → (N = by2 f 8) → (mj = by2 f 6) → (s_whole f n = .inr (E, p1, pF, pM, pA)) → (s1 < tx.length ∧ tx.getD s1 [] = ltx 25) → (s2 < tx.length ∧ tx.getD s2 [] = ltx 26) → (s3 < tx.length ∧ tx.getD s3 [] = ltx 27) → (s_class f n p1 = .inr pF) → (s_mbs f n pF = .inr pM) → (s_mbs f n pM = .inr pA) → (s_attributes f n pA = .inr n) →  pl (mT g) kf (mb_190 g).2 (47, [(0, .ref m0)], [], M1) (fun v M' => (∃  (I' : rI) (R' : rR), (s_read f n = none) ∧ v = some (.int 1) ∧ RS g m0 q z I' R' M' ∧ eqI [3, 8, 20, 25, 26, 47, 48, 50, 51, 52, 53, 54, 55, 56, 57, 58, 59, 60, 61, 65, 66, 67, 68, 69, 70, 71, 72] I I' ∧ eqR [1, 2, 4, 5, 6, 7, 21, 22, 27, 28, 29, 30, 31, 32, 33, 34, 35, 36, 37, 38, 39, 40, 41, 42, 43, 44, 45, 46] R R' ∧ XKV f n I' R') ∨ (∃ (e9 : Nat × Nat) (I' : rI) (R' : rR), (s_read f n = some e9) ∧ v = some (.int 0) ∧ RS g m0 q z I' R' M' ∧ eqI [3, 8, 20, 25, 26, 47, 48, 50, 51, 52, 53, 54, 55, 56, 57, 58, 59, 60, 61, 65, 66, 67, 68, 69, 70, 71, 72] I I' ∧ eqR [1, 2, 4, 5, 6, 7, 21, 22, 27, 28, 29, 30, 31, 32, 33, 34, 35, 36, 37, 38, 39, 40, 41, 42, 43, 44, 45, 46] R R' ∧ I' 47 = some (nI e9.1) ∧ I' 48 = some (nI e9.2)))) ∧ (∀ (N mj bc k p1 pF pM pA : Nat) (K : KT) (E : List (Nat × Nat)) (tx : List (List Nat)) (cN : Nat) (A : Nat → Nat) (M1 : mi_H) (I1 : rI) (R1 : rR), (RS g m0 q z I1 R1 M1) → (eqI [3, 8, 20, 25, 26, 47, 48, 50, 51, 52, 53, 54, 55, 56, 57, 58, 59, 60, 61, 65, 66, 67, 68, 69, 70, 71, 72] I I1) → (eqR [1, 2, 4, 5, 6, 7, 21, 22, 27, 28, 29, 30, 31, 32, 33, 34, 35, 36, 37, 38, 39, 40, 41, 42, 43, 44, 45, 46] R R1) → (I1 51 = some 0) → (I1 52 = some (nI N)) → (I1 53 = some (nI mj)) → (I1 71 = some (nI bc)) → (I1 25 = some (nI (0 + (mbs f n (by2 f pF) (pF + 2)).length))) → (I1 26 = some (nI (0 + (mbs f n (by2 f pM) (pM + 2)).length))) → (I1 54 = some (nI p1)) → (I1 58 = some (nI (by2 f p1))) → (I1 61 = some (nI (by2 f (p1 + 6)))) → (I1 66 = some (nI K.1)) → (I1 65 = some (nI K.2.2.1)) → (I1 68 = some (nI K.2.2.2.1)) → (I1 69 = some (nI K.2.2.2.2.1)) → (I1 70 = some (b7 K)) → (I1 72 = some K.2.2.2.2.2) → (FK n f I1 R1) → (SYT tx cN A I1 R1) → (RPV f n E tx N I1 R1) → (FN 28 29 f n E tx (mbs f n (by2 f pF) (pF + 2)) 0 (mbs f n (by2 f pF) (pF + 2)).length I1 R1) → (FN 35 36 f n E tx (mbs f n (by2 f pM) (pM + 2)) 0 (mbs f n (by2 f pM) (pM + 2)).length I1 R1) → (FQ f n E (mbs f n (by2 f pF) (pF + 2)) 0 (mbs f n (by2 f pF) (pF + 2)).length I1 R1) → (MQX f n E (mbs f n (by2 f pM) (pM + 2)) 0 (mbs f n (by2 f pM) (pM + 2)).length I1 R1) → (EP f n E) → (N < 65536) → (mj < 65536) → (bc < 65536) → (1 ≤ k ∧ k ≤ N) → (s_read f n = chkB f E bc (N - 1) 1) → (chkB f E bc (N - k) k = chkB f E bc (N - 1) 1) → (N = by2 f 8) → (mj = by2 f 6) → (s_whole f n = .inr (E, p1, pF, pM, pA)) → (s_class f n p1 = .inr pF) → (s_mbs f n pF = .inr pM) → (s_mbs f n pM = .inr pA) → (s_attributes f n pA = .inr n) → (clS f n E (by2 f p1) mj (by2 f pA) (pA + 2) 0 0 = .inr bc) → (clU f n E mj (by2 f pA) (pA + 2) (0, 0, 0, 0, 0, -1) = K) →  pl (mT g) kf (mb_190 g).2 (94, [(0, .ref m0), (1, .int (nI k))], [], M1) (fun v M' => (∃  (I' : rI) (R' : rR), (s_read f n = none) ∧ v = some (.int 1) ∧ RS g m0 q z I' R' M' ∧ eqI [3, 8, 20, 25, 26, 47, 48, 50, 51, 52, 53, 54, 55, 56, 57, 58, 59, 60, 61, 65, 66, 67, 68, 69, 70, 71, 72] I I' ∧ eqR [1, 2, 4, 5, 6, 7, 21, 22, 27, 28, 29, 30, 31, 32, 33, 34, 35, 36, 37, 38, 39, 40, 41, 42, 43, 44, 45, 46] R R' ∧ XKV f n I' R') ∨ (∃ (e9 : Nat × Nat) (I' : rI) (R' : rR), (s_read f n = some e9) ∧ v = some (.int 0) ∧ RS g m0 q z I' R' M' ∧ eqI [3, 8, 20, 25, 26, 47, 48, 50, 51, 52, 53, 54, 55, 56, 57, 58, 59, 60, 61, 65, 66, 67, 68, 69, 70, 71, 72] I I' ∧ eqR [1, 2, 4, 5, 6, 7, 21, 22, 27, 28, 29, 30, 31, 32, 33, 34, 35, 36, 37, 38, 39, 40, 41, 42, 43, 44, 45, 46] R R' ∧ I' 47 = some (nI e9.1) ∧ I' 48 = some (nI e9.2)))) := by
    intro kf
    induction kf with
    | zero => exact ⟨by intros; exact pl_0, by intros; exact pl_0⟩
    | succ kf ih =>
      refine ⟨?_, ?_⟩
      · skip
        intro N mj p1 pF pM pA E tx cN A M1 I1 R1 hR1 hEI1 hER1 hl51 hl52 hl53 hl54 hl55 hl56 hl57 hl25 hl26 hl71 hl66 hl65 hl68 hl69 hl70 hl72 hl9 hl10 hl11 hF1 hY1 hP1 hK1 hN8 hm6 hwh hs1 hs2 hs3 hc hf hm ha
        have hn := hF1.1
        obtain ⟨hEP, hN0⟩ := EP_of (whole_in hwh)
        have hN : N < 65536 := by rw [hN8]; exact by2_lt _ _
        have hmj : mj < 65536 := by rw [hm6]; exact by2_lt _ _
        have hN1 : 1 ≤ N := by omega
        have hin := (s_class_in hc).1
        have hMF := MBS_of hf
        have hMM := MBS_of hm
        have hat := atE_at ha
        have hb1 := by2_lt f pF
        have hb2 := by2_lt f pM
        have hcf := by2_lt f p1
        refine ps_st1 (S' := (48, [(0, .ref m0)], [.ref m0], M1)) rfl rfl rfl ?_
        refine pl_call (a := [.ref m0]) (rest := []) rfl rfl rfl (rd_checkPool (n := n) (f := f) (tx := tx) (cN := cN) (A := A) (N := N) (mj := mj) (E := E) (s1 := s1) hR1 hl51 hl52 hl53 hl9 hF1 hY1 hP1 (hEP) (hN) (hmj) (hs1) (hN1)) (fun v1 M2 q3 => ?_)
        rcases q3 with q3 | q3
        · skip
          obtain ⟨I4, R5, q48_s, rfl, hR6, hI7, hX8⟩ := q3
          have hi12 := (hI7 51 (by decide)).trans hl51
          have hi13 := (hI7 52 (by decide)).trans hl52
          have hi14 := (hI7 53 (by decide)).trans hl53
          have hi15 := (hI7 54 (by decide)).trans hl54
          have hi16 := (hI7 55 (by decide)).trans hl55
          have hi17 := (hI7 56 (by decide)).trans hl56
          have hi18 := (hI7 57 (by decide)).trans hl57
          have hi19 := (hI7 25 (by decide)).trans hl25
          have hi21 := (hI7 26 (by decide)).trans hl26
          have hi22 := (hI7 71 (by decide)).trans hl71
          have hi23 := (hI7 66 (by decide)).trans hl66
          have hi24 := (hI7 65 (by decide)).trans hl65
          have hi27 := (hI7 68 (by decide)).trans hl68
          have hi28 := (hI7 69 (by decide)).trans hl69
          have hi29 := (hI7 70 (by decide)).trans hl70
          have hi30 := (hI7 72 (by decide)).trans hl72
          have hi31 := (hI7 9 (by decide)).trans hl9
          have hi32 := (hI7 10 (by decide)).trans hl10
          have hi33 := (hI7 11 (by decide)).trans hl11
          have hF_34 := hF1.mono (cIx hI7 (by decide)) (cRx hX8 (by decide))
          have hY_35 := hY1.mono (cIx hI7 (by decide)) (cRx hX8 (by decide))
          have hP_36 := hP1.mono (cIx hI7 (by decide)) (cRx hX8 (by decide))
          have hK_37 := hK1.mono (cIx hI7 (by decide)) (cRx hX8 (by decide))
          have hEI38 := hEI1.tr hI7 (by decide)
          have hER39 := hER1.tr hX8 (by decide)
          show pl _ _ _ (51, [(0, .ref m0)], [.int 1], M2) _
          have hCP := CP_of q48_s hP1.1
          refine ps_if (S1 := (75, [], [], M2)) (S2 := (54, [(0, .ref m0)], [], M2)) rfl rfl rfl (fun c_51 => ?_) (fun c_51 => ?_)
          · exact absurd (of_decide_eq_true c_51) (by decide)
          refine ps_st (S' := (55, [(0, .ref m0)], [.ref m0], M2)) rfl rfl rfl ?_
          refine pl_call (a := [.ref m0]) (rest := []) rfl rfl rfl (rd_checkClass (n := n) (f := f) (tx := tx) (cN := cN) (A := A) (N := N) (mj := mj) (E := E) (hA := p1) (s3 := s3) hR6 hi15 hi33 hi12 hi13 hi14 hF_34 hY_35 hP_36 (hEP) (hN) (hmj) (hs3) (hCP) (hin)) (fun v40 M41 q42 => ?_)
          rcases q42 with q42 | q42
          · skip
            obtain ⟨I43, R44, q55_s, rfl, hR45, hI46, hX47, hi48, hi49⟩ := q42
            have hi50 := (hI46 51 (by decide)).trans hi12
            have hi51 := (hI46 52 (by decide)).trans hi13
            have hi52 := (hI46 53 (by decide)).trans hi14
            have hi53 := (hI46 54 (by decide)).trans hi15
            have hi54 := (hI46 55 (by decide)).trans hi16
            have hi55 := (hI46 56 (by decide)).trans hi17
            have hi56 := (hI46 57 (by decide)).trans hi18
            have hi57 := (hI46 25 (by decide)).trans hi19
            have hi58 := (hI46 26 (by decide)).trans hi21
            have hi59 := (hI46 71 (by decide)).trans hi22
            have hi60 := (hI46 66 (by decide)).trans hi23
            have hi61 := (hI46 65 (by decide)).trans hi24
            have hi62 := (hI46 68 (by decide)).trans hi27
            have hi63 := (hI46 69 (by decide)).trans hi28
            have hi64 := (hI46 70 (by decide)).trans hi29
            have hi65 := (hI46 72 (by decide)).trans hi30
            have hi66 := (hI46 9 (by decide)).trans hi31
            have hi67 := (hI46 10 (by decide)).trans hi32
            have hi68 := (hI46 11 (by decide)).trans hi33
            have hF_69 := hF_34.mono (cIx hI46 (by decide)) (cRx hX47 (by decide))
            have hY_70 := hY_35.mono (cIx hI46 (by decide)) (cRx hX47 (by decide))
            have hP_71 := hP_36.mono (cIx hI46 (by decide)) (cRx hX47 (by decide))
            have hK_72 := hK_37.mono (cIx hI46 (by decide)) (cRx hX47 (by decide))
            have hEI73 := hEI38.tr hI46 (by decide)
            have hER74 := hER39.tr hX47 (by decide)
            show pl _ _ _ (58, [(0, .ref m0)], [.int 1], M41) _
            refine ps_if (S1 := (75, [], [], M41)) (S2 := (61, [(0, .ref m0)], [], M41)) rfl rfl rfl (fun c_58 => ?_) (fun c_58 => ?_)
            · exact absurd (of_decide_eq_true c_58) (by decide)
            refine ps_st (S' := (62, [(0, .ref m0)], [.ref m0], M41)) rfl rfl rfl ?_
            refine pl_call (a := [.ref m0]) (rest := []) rfl rfl rfl (rd_checkFields7 (n := n) (f := f) (tx := tx) (cN := cN) (A := A) (N := N) (mj := mj) (E := E) (pF := pF) (f0 := 0) (cf := (by2 f p1)) (B := (mbs f n (by2 f pF) (pF + 2))) (E1 := (fun i => mE f n ((mbs f n (by2 f pF) (pF + 2)).getD i 0))) hR45 hi50 hi51 hi52 hi48 hi54 hi57 hF_69 hY_70 hP_71 hK_72 (hEP) (hN) (hmj) (hMF) (by omega) (hcf)) (fun v75 M76 q77 => ?_)
            rcases q77 with q77 | q77
            · skip
              obtain ⟨I78, R79, q62_s, rfl, hR80, hI81, hX82, hi83, hN9_84, hQ_85⟩ := q77
              have hi86 := (hI81 51 (by decide)).trans hi50
              have hi87 := (hI81 52 (by decide)).trans hi51
              have hi88 := (hI81 53 (by decide)).trans hi52
              have hi89 := (hI81 54 (by decide)).trans hi53
              have hi90 := (hI81 55 (by decide)).trans hi54
              have hi91 := (hI81 56 (by decide)).trans hi55
              have hi92 := (hI81 57 (by decide)).trans hi56
              have hi93 := (hI81 26 (by decide)).trans hi58
              have hi94 := (hI81 71 (by decide)).trans hi59
              have hi95 := (hI81 66 (by decide)).trans hi60
              have hi96 := (hI81 65 (by decide)).trans hi61
              have hi97 := (hI81 68 (by decide)).trans hi62
              have hi98 := (hI81 69 (by decide)).trans hi63
              have hi99 := (hI81 70 (by decide)).trans hi64
              have hi100 := (hI81 72 (by decide)).trans hi65
              have hi101 := (hI81 9 (by decide)).trans hi66
              have hi102 := (hI81 10 (by decide)).trans hi67
              have hi103 := (hI81 11 (by decide)).trans hi68
              have hi104 := (hI81 58 (by decide)).trans hi48
              have hi105 := (hI81 61 (by decide)).trans hi49
              have hF_106 := hF_69.mono (cIx hI81 (by decide)) (cRx hX82 (by decide))
              have hY_107 := hY_70.mono (cIx hI81 (by decide)) (cRx hX82 (by decide))
              have hP_108 := hP_71.mono (cIx hI81 (by decide)) (cRx hX82 (by decide))
              have hK_109 := hK_72.mono (cIx hI81 (by decide)) (cRx hX82 (by decide))
              have hEI110 := hEI73.tr hI81 (by decide)
              have hER111 := hER74.tr hX82 (by decide)
              show pl _ _ _ (65, [(0, .ref m0)], [.int 1], M76) _
              refine ps_if (S1 := (75, [], [], M76)) (S2 := (68, [(0, .ref m0)], [], M76)) rfl rfl rfl (fun c_65 => ?_) (fun c_65 => ?_)
              · exact absurd (of_decide_eq_true c_65) (by decide)
              refine ps_st (S' := (69, [(0, .ref m0)], [.ref m0], M76)) rfl rfl rfl ?_
              refine pl_call (a := [.ref m0]) (rest := []) rfl rfl rfl (rd_checkMethods7 (n := n) (f := f) (tx := tx) (cN := cN) (A := A) (N := N) (mj := mj) (E := E) (pM := pM) (f0 := 0) (cf := (by2 f p1)) (si := s1) (sc := s2) (B := (mbs f n (by2 f pM) (pM + 2))) (E1 := (fun i => mE f n ((mbs f n (by2 f pM) (pM + 2)).getD i 0))) hR80 hi86 hi87 hi88 hi104 hi91 hi93 hi101 hi102 hF_106 hY_107 hP_108 hK_109 (hEP) (hN) (hmj) (hMM) (by omega) (hcf) (⟨hs1.1, hs1.2.trans lt_eq.2.1⟩) (⟨hs2.1, hs2.2.trans lt_eq.2.2.1⟩)) (fun v112 M113 q114 => ?_)
              rcases q114 with q114 | q114
              · skip
                obtain ⟨I115, R116, q69_s, rfl, hR117, hI118, hX119, hi120, hN9_121, hQ_122⟩ := q114
                have hi123 := (hI118 51 (by decide)).trans hi86
                have hi124 := (hI118 52 (by decide)).trans hi87
                have hi125 := (hI118 53 (by decide)).trans hi88
                have hi126 := (hI118 54 (by decide)).trans hi89
                have hi127 := (hI118 55 (by decide)).trans hi90
                have hi128 := (hI118 56 (by decide)).trans hi91
                have hi129 := (hI118 57 (by decide)).trans hi92
                have hi130 := (hI118 71 (by decide)).trans hi94
                have hi131 := (hI118 66 (by decide)).trans hi95
                have hi132 := (hI118 65 (by decide)).trans hi96
                have hi133 := (hI118 68 (by decide)).trans hi97
                have hi134 := (hI118 69 (by decide)).trans hi98
                have hi135 := (hI118 70 (by decide)).trans hi99
                have hi136 := (hI118 72 (by decide)).trans hi100
                have hi137 := (hI118 9 (by decide)).trans hi101
                have hi138 := (hI118 10 (by decide)).trans hi102
                have hi139 := (hI118 11 (by decide)).trans hi103
                have hi140 := (hI118 58 (by decide)).trans hi104
                have hi141 := (hI118 61 (by decide)).trans hi105
                have hi142 := (hI118 25 (by decide)).trans hi83
                have hF_143 := hF_106.mono (cIx hI118 (by decide)) (cRx hX119 (by decide))
                have hY_144 := hY_107.mono (cIx hI118 (by decide)) (cRx hX119 (by decide))
                have hP_145 := hP_108.mono (cIx hI118 (by decide)) (cRx hX119 (by decide))
                have hK_146 := hK_109.mono (cIx hI118 (by decide)) (cRx hX119 (by decide))
                have hN1_147 := hN9_84.mono (cIx hI118 (by decide)) (cRx hX119 (by decide))
                have hQ1_148 := hQ_85.mono (cIx hI118 (by decide)) (cRx hX119 (by decide))
                have hEI149 := hEI110.tr hI118 (by decide)
                have hER150 := hER111.tr hX119 (by decide)
                show pl _ _ _ (72, [(0, .ref m0)], [.int 1], M113) _
                refine ps_if (S1 := (77, [(0, .ref m0)], [], M113)) (S2 := (75, [], [], M113)) rfl rfl rfl (fun c_72 => ?_) (fun c_72 => ?_)
                rotate_left
                · exact absurd (by decide) (of_decide_eq_false c_72)
                refine ps_st (S' := (78, [(0, .ref m0)], [.ref m0], M113)) rfl rfl rfl ?_
                refine ps_st (S' := (79, [(0, .ref m0)], [.ref m0, .ref m0], M113)) rfl rfl rfl ?_
                refine pr_int (j := 57) (S' := (82, [(0, .ref m0)], [.int (nI pA), .ref m0], M113)) rfl hR117 rfl hi129 rfl ?_
                refine ps_st (S' := (83, [(0, .ref m0)], [.int 4, .int (nI pA), .ref m0], M113)) rfl rfl rfl ?_
                refine ps_st (S' := (84, [(0, .ref m0)], [.int 0, .int 4, .int (nI pA), .ref m0], M113)) rfl rfl rfl ?_
                refine pl_call (a := [.ref m0, .int (nI pA), .int 4, .int 0]) (rest := []) rfl rfl rfl (rd_checkAttributes4 (n := n) (f := f) (tx := tx) (cN := cN) (A := A) (N := N) (mj := mj) (E := E) (p1 := pA) (e := n) (x := 0) (fl := (by2 f p1)) hR117 hi123 hi124 hi125 hi140 hi130 hi131 hi132 hi133 hi134 hi135 hi136 hF_143 hY_144 hP_145 hK_146 (hEP) (hN) (hmj) (⟨hat.1, hat.2.1⟩) (hat.2.2) (hcf)) (fun v151 M152 q153 => ?_)
                rcases q153 with q153 | q153
                · skip
                  obtain ⟨e9154, I155, R156, q84_s, rfl, hR157, hI158, hX159, hi160, hi161⟩ := q153
                  have hi162 := (hI158 51 (by decide)).trans hi123
                  have hi163 := (hI158 52 (by decide)).trans hi124
                  have hi164 := (hI158 53 (by decide)).trans hi125
                  have hi165 := (hI158 54 (by decide)).trans hi126
                  have hi166 := (hI158 55 (by decide)).trans hi127
                  have hi167 := (hI158 56 (by decide)).trans hi128
                  have hi168 := (hI158 57 (by decide)).trans hi129
                  have hi169 := (hI158 9 (by decide)).trans hi137
                  have hi170 := (hI158 10 (by decide)).trans hi138
                  have hi171 := (hI158 11 (by decide)).trans hi139
                  have hi172 := (hI158 58 (by decide)).trans hi140
                  have hi173 := (hI158 61 (by decide)).trans hi141
                  have hi174 := (hI158 25 (by decide)).trans hi142
                  have hi175 := (hI158 26 (by decide)).trans hi120
                  have hF_176 := hF_143.mono (cIx hI158 (by decide)) (cRx hX159 (by decide))
                  have hY_177 := hY_144.mono (cIx hI158 (by decide)) (cRx hX159 (by decide))
                  have hP_178 := hP_145.mono (cIx hI158 (by decide)) (cRx hX159 (by decide))
                  have hK_179 := hK_146.mono (cIx hI158 (by decide)) (cRx hX159 (by decide))
                  have hN1_180 := hN1_147.mono (cIx hI158 (by decide)) (cRx hX159 (by decide))
                  have hQ1_181 := hQ1_148.mono (cIx hI158 (by decide)) (cRx hX159 (by decide))
                  have hN2_182 := hN9_121.mono (cIx hI158 (by decide)) (cRx hX159 (by decide))
                  have hQ2_183 := hQ_122.mono (cIx hI158 (by decide)) (cRx hX159 (by decide))
                  have hEI184 := hEI149.tr hI158 (by decide)
                  have hER185 := hER150.tr hX159 (by decide)
                  show pl _ _ _ (87, [(0, .ref m0)], [.int (-1)], M152) _
                  refine ps_if (S1 := (92, [(0, .ref m0)], [], M152)) (S2 := (90, [(0, .ref m0)], [], M152)) rfl rfl rfl (fun c_87 => ?_) (fun c_87 => ?_)
                  · exact absurd (of_decide_eq_true c_87) (by decide)
                  refine ps_st (S' := (91, [(0, .ref m0)], [.int 0], M152)) rfl rfl rfl ?_
                  exact ps_ret rfl rfl (Or.inr ⟨e9154, I155, R156, by
                      refine s_read_2 hwh ?_
                      rw [← hN8, ← hm6]
                      unfold s_chk
                      rw [q48_s]
                      dsimp only
                      obtain ⟨hh9, hh8⟩ := cc_none q55_s
                      rw [hh9]
                      dsimp only
                      rw [hh8]
                      dsimp only
                      rw [q62_s]
                      dsimp only
                      rw [q69_s]
                      dsimp only
                      rw [q84_s], rfl, hR157, hEI184, hER185, hi160, hi161⟩)
                · skip
                  obtain ⟨bc186, K187, I188, R189, q84_s, q84_U, rfl, hR190, hI191, hX192, hi193, hi194, hi195, hi196, hi197, hi198, hi199⟩ := q153
                  have hi200 := (hI191 51 (by decide)).trans hi123
                  have hi201 := (hI191 52 (by decide)).trans hi124
                  have hi202 := (hI191 53 (by decide)).trans hi125
                  have hi203 := (hI191 54 (by decide)).trans hi126
                  have hi204 := (hI191 55 (by decide)).trans hi127
                  have hi205 := (hI191 56 (by decide)).trans hi128
                  have hi206 := (hI191 57 (by decide)).trans hi129
                  have hi207 := (hI191 9 (by decide)).trans hi137
                  have hi208 := (hI191 10 (by decide)).trans hi138
                  have hi209 := (hI191 11 (by decide)).trans hi139
                  have hi210 := (hI191 58 (by decide)).trans hi140
                  have hi211 := (hI191 61 (by decide)).trans hi141
                  have hi212 := (hI191 25 (by decide)).trans hi142
                  have hi213 := (hI191 26 (by decide)).trans hi120
                  have hF_214 := hF_143.mono (cIx hI191 (by decide)) (cRx hX192 (by decide))
                  have hY_215 := hY_144.mono (cIx hI191 (by decide)) (cRx hX192 (by decide))
                  have hP_216 := hP_145.mono (cIx hI191 (by decide)) (cRx hX192 (by decide))
                  have hK_217 := hK_146.mono (cIx hI191 (by decide)) (cRx hX192 (by decide))
                  have hN1_218 := hN1_147.mono (cIx hI191 (by decide)) (cRx hX192 (by decide))
                  have hQ1_219 := hQ1_148.mono (cIx hI191 (by decide)) (cRx hX192 (by decide))
                  have hN2_220 := hN9_121.mono (cIx hI191 (by decide)) (cRx hX192 (by decide))
                  have hQ2_221 := hQ_122.mono (cIx hI191 (by decide)) (cRx hX192 (by decide))
                  have hEI222 := hEI149.tr hI191 (by decide)
                  have hER223 := hER150.tr hX192 (by decide)
                  show pl _ _ _ (87, [(0, .ref m0)], [.int (nI n)], M152) _
                  refine ps_if (S1 := (92, [(0, .ref m0)], [], M152)) (S2 := (90, [(0, .ref m0)], [], M152)) rfl rfl rfl (fun c_87 => ?_) (fun c_87 => ?_)
                  rotate_left
                  · exact absurd ((le_nI (p := 0) (n := n) (by decide) (by omega)).mpr (by omega)) (of_decide_eq_false c_87)
                  refine ps_st (S' := (93, [(0, .ref m0)], [.int 1], M152)) rfl rfl rfl ?_
                  refine ps_st (S' := (94, [(0, .ref m0), (1, .int 1)], [], M152)) rfl rfl rfl ?_
                  exact ih.2 (N) (mj) (bc186) (1) (p1) (pF) (pM) (pA) (K187) (E) (tx) (cN) (A) M152 I188 R189 hR190 hEI222 hER223 hi200 hi201 hi202 hi193 hi212 hi213 hi203 hi210 hi211 hi194 hi195 hi196 hi197 hi198 hi199 hF_214 hY_215 hP_216 hN1_218 hN2_220 hQ1_219 hQ2_221 (hEP) (hN) (hmj) (clS_bc q84_s) (⟨Nat.le_refl _, hN1⟩) (by
                      refine s_read_2 hwh ?_
                      rw [← hN8, ← hm6]
                      unfold s_chk
                      rw [q48_s]
                      dsimp only
                      obtain ⟨hh9, hh8⟩ := cc_none q55_s
                      rw [hh9]
                      dsimp only
                      rw [hh8]
                      dsimp only
                      rw [q62_s]
                      dsimp only
                      rw [q69_s]
                      dsimp only
                      rw [q84_s]) (rfl) (hN8) (hm6) (hwh) (hc) (hf) (hm) (ha) (q84_s) (q84_U)
              · skip
                obtain ⟨e9224, I225, R226, q69_s, rfl, hR227, hI228, hX229, hi230, hi231⟩ := q114
                have hi232 := (hI228 51 (by decide)).trans hi86
                have hi233 := (hI228 52 (by decide)).trans hi87
                have hi234 := (hI228 53 (by decide)).trans hi88
                have hi235 := (hI228 54 (by decide)).trans hi89
                have hi236 := (hI228 55 (by decide)).trans hi90
                have hi237 := (hI228 56 (by decide)).trans hi91
                have hi238 := (hI228 57 (by decide)).trans hi92
                have hi239 := (hI228 71 (by decide)).trans hi94
                have hi240 := (hI228 66 (by decide)).trans hi95
                have hi241 := (hI228 65 (by decide)).trans hi96
                have hi242 := (hI228 68 (by decide)).trans hi97
                have hi243 := (hI228 69 (by decide)).trans hi98
                have hi244 := (hI228 70 (by decide)).trans hi99
                have hi245 := (hI228 72 (by decide)).trans hi100
                have hi246 := (hI228 9 (by decide)).trans hi101
                have hi247 := (hI228 10 (by decide)).trans hi102
                have hi248 := (hI228 11 (by decide)).trans hi103
                have hi249 := (hI228 58 (by decide)).trans hi104
                have hi250 := (hI228 61 (by decide)).trans hi105
                have hi251 := (hI228 25 (by decide)).trans hi83
                have hF_252 := hF_106.mono (cIx hI228 (by decide)) (cRx hX229 (by decide))
                have hY_253 := hY_107.mono (cIx hI228 (by decide)) (cRx hX229 (by decide))
                have hP_254 := hP_108.mono (cIx hI228 (by decide)) (cRx hX229 (by decide))
                have hK_255 := hK_109.mono (cIx hI228 (by decide)) (cRx hX229 (by decide))
                have hN1_256 := hN9_84.mono (cIx hI228 (by decide)) (cRx hX229 (by decide))
                have hQ1_257 := hQ_85.mono (cIx hI228 (by decide)) (cRx hX229 (by decide))
                have hEI258 := hEI110.tr hI228 (by decide)
                have hER259 := hER111.tr hX229 (by decide)
                show pl _ _ _ (72, [(0, .ref m0)], [.int 0], M113) _
                refine ps_if (S1 := (77, [(0, .ref m0)], [], M113)) (S2 := (75, [], [], M113)) rfl rfl rfl (fun c_72 => ?_) (fun c_72 => ?_)
                · exact absurd (of_decide_eq_true c_72) (by decide)
                refine ps_st (S' := (76, [], [.int 0], M113)) rfl rfl rfl ?_
                exact ps_ret rfl rfl (Or.inr ⟨e9224, I225, R226, by
                    refine s_read_2 hwh ?_
                    rw [← hN8, ← hm6]
                    unfold s_chk
                    rw [q48_s]
                    dsimp only
                    obtain ⟨hh9, hh8⟩ := cc_none q55_s
                    rw [hh9]
                    dsimp only
                    rw [hh8]
                    dsimp only
                    rw [q62_s]
                    dsimp only
                    rw [q69_s], rfl, hR227, hEI258, hER259, hi230, hi231⟩)
            · skip
              obtain ⟨e9260, I261, R262, q62_s, rfl, hR263, hI264, hX265, hi266, hi267⟩ := q77
              have hi268 := (hI264 51 (by decide)).trans hi50
              have hi269 := (hI264 52 (by decide)).trans hi51
              have hi270 := (hI264 53 (by decide)).trans hi52
              have hi271 := (hI264 54 (by decide)).trans hi53
              have hi272 := (hI264 55 (by decide)).trans hi54
              have hi273 := (hI264 56 (by decide)).trans hi55
              have hi274 := (hI264 57 (by decide)).trans hi56
              have hi275 := (hI264 26 (by decide)).trans hi58
              have hi276 := (hI264 71 (by decide)).trans hi59
              have hi277 := (hI264 66 (by decide)).trans hi60
              have hi278 := (hI264 65 (by decide)).trans hi61
              have hi279 := (hI264 68 (by decide)).trans hi62
              have hi280 := (hI264 69 (by decide)).trans hi63
              have hi281 := (hI264 70 (by decide)).trans hi64
              have hi282 := (hI264 72 (by decide)).trans hi65
              have hi283 := (hI264 9 (by decide)).trans hi66
              have hi284 := (hI264 10 (by decide)).trans hi67
              have hi285 := (hI264 11 (by decide)).trans hi68
              have hi286 := (hI264 58 (by decide)).trans hi48
              have hi287 := (hI264 61 (by decide)).trans hi49
              have hF_288 := hF_69.mono (cIx hI264 (by decide)) (cRx hX265 (by decide))
              have hY_289 := hY_70.mono (cIx hI264 (by decide)) (cRx hX265 (by decide))
              have hP_290 := hP_71.mono (cIx hI264 (by decide)) (cRx hX265 (by decide))
              have hK_291 := hK_72.mono (cIx hI264 (by decide)) (cRx hX265 (by decide))
              have hEI292 := hEI73.tr hI264 (by decide)
              have hER293 := hER74.tr hX265 (by decide)
              show pl _ _ _ (65, [(0, .ref m0)], [.int 0], M76) _
              refine ps_if (S1 := (75, [], [], M76)) (S2 := (68, [(0, .ref m0)], [], M76)) rfl rfl rfl (fun c_65 => ?_) (fun c_65 => ?_)
              rotate_left
              · exact absurd (by decide) (of_decide_eq_false c_65)
              refine ps_st (S' := (76, [], [.int 0], M76)) rfl rfl rfl ?_
              exact ps_ret rfl rfl (Or.inr ⟨e9260, I261, R262, by
                  refine s_read_2 hwh ?_
                  rw [← hN8, ← hm6]
                  unfold s_chk
                  rw [q48_s]
                  dsimp only
                  obtain ⟨hh9, hh8⟩ := cc_none q55_s
                  rw [hh9]
                  dsimp only
                  rw [hh8]
                  dsimp only
                  rw [q62_s], rfl, hR263, hEI292, hER293, hi266, hi267⟩)
          · skip
            obtain ⟨e294, I295, R296, q55_s, rfl, hR297, hI298, hX299, hi300, hi301⟩ := q42
            have hi302 := (hI298 51 (by decide)).trans hi12
            have hi303 := (hI298 52 (by decide)).trans hi13
            have hi304 := (hI298 53 (by decide)).trans hi14
            have hi305 := (hI298 54 (by decide)).trans hi15
            have hi306 := (hI298 55 (by decide)).trans hi16
            have hi307 := (hI298 56 (by decide)).trans hi17
            have hi308 := (hI298 57 (by decide)).trans hi18
            have hi309 := (hI298 25 (by decide)).trans hi19
            have hi310 := (hI298 26 (by decide)).trans hi21
            have hi311 := (hI298 71 (by decide)).trans hi22
            have hi312 := (hI298 66 (by decide)).trans hi23
            have hi313 := (hI298 65 (by decide)).trans hi24
            have hi314 := (hI298 68 (by decide)).trans hi27
            have hi315 := (hI298 69 (by decide)).trans hi28
            have hi316 := (hI298 70 (by decide)).trans hi29
            have hi317 := (hI298 72 (by decide)).trans hi30
            have hi318 := (hI298 9 (by decide)).trans hi31
            have hi319 := (hI298 10 (by decide)).trans hi32
            have hi320 := (hI298 11 (by decide)).trans hi33
            have hF_321 := hF_34.mono (cIx hI298 (by decide)) (cRx hX299 (by decide))
            have hY_322 := hY_35.mono (cIx hI298 (by decide)) (cRx hX299 (by decide))
            have hP_323 := hP_36.mono (cIx hI298 (by decide)) (cRx hX299 (by decide))
            have hK_324 := hK_37.mono (cIx hI298 (by decide)) (cRx hX299 (by decide))
            have hEI325 := hEI38.tr hI298 (by decide)
            have hER326 := hER39.tr hX299 (by decide)
            show pl _ _ _ (58, [(0, .ref m0)], [.int 0], M41) _
            refine ps_if (S1 := (75, [], [], M41)) (S2 := (61, [(0, .ref m0)], [], M41)) rfl rfl rfl (fun c_58 => ?_) (fun c_58 => ?_)
            rotate_left
            · exact absurd (by decide) (of_decide_eq_false c_58)
            refine ps_st (S' := (76, [], [.int 0], M41)) rfl rfl rfl ?_
            exact ps_ret rfl rfl (Or.inr ⟨e294, I295, R296, by
                refine s_read_2 hwh ?_
                rw [← hN8, ← hm6]
                unfold s_chk
                rw [q48_s]
                dsimp only
                exact cc_some q55_s, rfl, hR297, hEI325, hER326, hi300, hi301⟩)
        · skip
          obtain ⟨e327, I328, R329, q48_s, rfl, hR330, hI331, hX332, hi333, hi334⟩ := q3
          have hi335 := (hI331 51 (by decide)).trans hl51
          have hi336 := (hI331 52 (by decide)).trans hl52
          have hi337 := (hI331 53 (by decide)).trans hl53
          have hi338 := (hI331 54 (by decide)).trans hl54
          have hi339 := (hI331 55 (by decide)).trans hl55
          have hi340 := (hI331 56 (by decide)).trans hl56
          have hi341 := (hI331 57 (by decide)).trans hl57
          have hi342 := (hI331 25 (by decide)).trans hl25
          have hi343 := (hI331 26 (by decide)).trans hl26
          have hi344 := (hI331 71 (by decide)).trans hl71
          have hi345 := (hI331 66 (by decide)).trans hl66
          have hi346 := (hI331 65 (by decide)).trans hl65
          have hi347 := (hI331 68 (by decide)).trans hl68
          have hi348 := (hI331 69 (by decide)).trans hl69
          have hi349 := (hI331 70 (by decide)).trans hl70
          have hi350 := (hI331 72 (by decide)).trans hl72
          have hi351 := (hI331 9 (by decide)).trans hl9
          have hi352 := (hI331 10 (by decide)).trans hl10
          have hi353 := (hI331 11 (by decide)).trans hl11
          have hF_354 := hF1.mono (cIx hI331 (by decide)) (cRx hX332 (by decide))
          have hY_355 := hY1.mono (cIx hI331 (by decide)) (cRx hX332 (by decide))
          have hP_356 := hP1.mono (cIx hI331 (by decide)) (cRx hX332 (by decide))
          have hK_357 := hK1.mono (cIx hI331 (by decide)) (cRx hX332 (by decide))
          have hEI358 := hEI1.tr hI331 (by decide)
          have hER359 := hER1.tr hX332 (by decide)
          show pl _ _ _ (51, [(0, .ref m0)], [.int 0], M2) _
          refine ps_if (S1 := (75, [], [], M2)) (S2 := (54, [(0, .ref m0)], [], M2)) rfl rfl rfl (fun c_51 => ?_) (fun c_51 => ?_)
          rotate_left
          · exact absurd (by decide) (of_decide_eq_false c_51)
          refine ps_st (S' := (76, [], [.int 0], M2)) rfl rfl rfl ?_
          exact ps_ret rfl rfl (Or.inr ⟨e327, I328, R329, by
              refine s_read_2 hwh ?_
              rw [← hN8, ← hm6]
              unfold s_chk
              rw [q48_s], rfl, hR330, hEI358, hER359, hi333, hi334⟩)
      · skip
        intro N mj bc k p1 pF pM pA K E tx cN A M1 I1 R1 hR1 hEI1 hER1 hl51 hl52 hl53 hl71 hl25 hl26 hl54 hl58 hl61 hl66 hl65 hl68 hl69 hl70 hl72 hF1 hY1 hP1 hN11 hN21 hQ11 hQ21 hEP hN hmj hbc hk hr hs hN8 hm6 hwh hc hf hm ha hB hU
        have hn := hF1.1
        refine ps_st1 (S' := (95, [(0, .ref m0), (1, .int (nI k))], [.int (nI k)], M1)) rfl rfl rfl ?_
        refine ps_st (S' := (96, [(0, .ref m0), (1, .int (nI k))], [.ref m0, .int (nI k)], M1)) rfl rfl rfl ?_
        refine pr_int (j := 52) (S' := (99, [(0, .ref m0), (1, .int (nI k))], [.int (nI N), .int (nI k)], M1)) rfl hR1 rfl hl52 rfl ?_
        refine ps_if2 (S1 := (157, [(0, .ref m0), (1, .int (nI k))], [], M1)) (S2 := (102, [(0, .ref m0), (1, .int (nI k))], [], M1)) rfl rfl rfl (fun c_99 => ?_) (fun c_99 => ?_)
        · have c_99 : (nI N) ≤ (nI k) := of_decide_eq_true c_99
          have n_99 : N ≤ k := (le_nI (p := N) (n := k) (by omega) (by omega)).mp c_99
          refine ps_st (S' := (158, [(0, .ref m0), (1, .int (nI k))], [.int 1], M1)) rfl rfl rfl ?_
          exact ps_ret rfl rfl (Or.inl ⟨I1, R1, by
              rw [hr, ← hs, show N - k = 0 by omega]
              rfl, rfl, hR1, hEI1, hER1, ⟨tx, cN, A, E, N, mj, p1, pF, pM, pA, hF1, hY1, hP1, hl51, hl52, hl53, hwh, hN8, hm6, by rw [← Nat.zero_add (mbs f n (by2 f pF) (pF + 2)).length]; exact hl25, by rw [← Nat.zero_add (mbs f n (by2 f pM) (pM + 2)).length]; exact hl26, hN11, hN21, hf, hm, hc, ha, ⟨hl54, hl58, hl61, hQ11, hQ21⟩, bc, K, by rw [← hm6]; exact hB, by rw [← hm6]; exact hU, hl71, hl66, hl65, hl68, hl69, hl70, hl72⟩⟩)
        · have c_99 : ¬ ((nI N) ≤ (nI k)) := of_decide_eq_false c_99
          have n_99 : ¬ (N ≤ k) := fun h9 => c_99 ((le_nI (p := N) (n := k) (by omega) (by omega)).mpr h9)
          refine ps_st (S' := (103, [(0, .ref m0), (1, .int (nI k))], [.ref m0], M1)) rfl rfl rfl ?_
          refine ps_st (S' := (104, [(0, .ref m0), (1, .int (nI k))], [.int (nI k), .ref m0], M1)) rfl rfl rfl ?_
          refine pl_call (a := [.ref m0, .int (nI k)]) (rest := []) rfl rfl rfl (rd_tag (n := n) (f := f) (tx := tx) (cN := cN) (A := A) (N := N) (mj := mj) (E := E) (k := k) hR1 hl51 hl52 hl53 hF1 hY1 hP1 (hEP) (hN) (hmj) (by omega)) (fun v360 M361 q362 => ?_)
          obtain ⟨rfl, rfl⟩ := q362
          show pl _ _ _ (107, [(0, .ref m0), (1, .int (nI k))], [.int (nI (tg f E k))], M1) _
          have htg_104 := tg_lt f E k
          refine ps_st (S' := (108, [(2, .int (nI (tg f E k))), (0, .ref m0), (1, .int (nI k))], [], M1)) rfl rfl rfl ?_
          refine ps_st (S' := (109, [(2, .int (nI (tg f E k))), (0, .ref m0), (1, .int (nI k))], [.int (nI (tg f E k))], M1)) rfl rfl rfl ?_
          refine ps_st (S' := (111, [(2, .int (nI (tg f E k))), (0, .ref m0), (1, .int (nI k))], [.int 17, .int (nI (tg f E k))], M1)) rfl rfl rfl ?_
          refine ps_if2 (S1 := (120, [(0, .ref m0), (1, .int (nI k))], [], M1)) (S2 := (114, [(2, .int (nI (tg f E k))), (0, .ref m0), (1, .int (nI k))], [], M1)) rfl rfl rfl (fun c_111 => ?_) (fun c_111 => ?_)
          · have c_111 : (nI (tg f E k)) = 17 := of_decide_eq_true c_111
            have n_111 : tg f E k = 17 := (eq_nI (p := tg f E k) (n := 17) (Nat.lt_trans (tg_lt _ _ _) (by decide)) (by decide)).mp c_111
            refine ps_st (S' := (121, [(0, .ref m0), (1, .int (nI k))], [.ref m0], M1)) rfl rfl rfl ?_
            refine ps_st (S' := (122, [(0, .ref m0), (1, .int (nI k))], [.int (nI k), .ref m0], M1)) rfl rfl rfl ?_
            refine ps_st (S' := (123, [(0, .ref m0), (1, .int (nI k))], [.int 1, .int (nI k), .ref m0], M1)) rfl rfl rfl ?_
            refine pl_call (a := [.ref m0, .int (nI k), .int 1]) (rest := []) rfl rfl rfl (rd_idx1 (n := n) (f := f) (tx := tx) (cN := cN) (A := A) (N := N) (mj := mj) (E := E) (k := k) hR1 hl51 hl52 hl53 hF1 hY1 hP1 (hEP) (hN) (hmj) (by omega)) (fun v363 M364 q365 => ?_)
            obtain ⟨rfl, rfl⟩ := q365
            show pl _ _ _ (126, [(0, .ref m0), (1, .int (nI k))], [.int (nI (fi f E k))], M1) _
            have hix_123 := fi_lt f E k
            refine ps_st (S' := (127, [(0, .ref m0), (1, .int (nI k))], [.ref m0, .int (nI (fi f E k))], M1)) rfl rfl rfl ?_
            refine pr_int (j := 71) (S' := (130, [(0, .ref m0), (1, .int (nI k))], [.int (nI bc), .int (nI (fi f E k))], M1)) rfl hR1 rfl hl71 rfl ?_
            refine ps_if2 (S1 := (151, [(0, .ref m0), (1, .int (nI k))], [], M1)) (S2 := (133, [(0, .ref m0), (1, .int (nI k))], [], M1)) rfl rfl rfl (fun c_130 => ?_) (fun c_130 => ?_)
            · have c_130 : (nI (fi f E k)) < (nI bc) := of_decide_eq_true c_130
              have n_130 : fi f E k < bc := (lt_nI (p := fi f E k) (n := bc) (Nat.lt_trans (fi_lt _ _ _) (by decide)) (by omega)).mp c_130
              refine ps_st (S' := (154, [(1, .int ((nI k) + 1)), (0, .ref m0)], [], M1)) rfl rfl rfl ?_
              rw [nI_add1 (p := k) (k := 1) (x := 1) rfl (by omega)]
              show pl _ _ _ (_, [(1, .int (nI (k + 1))), (0, .ref m0)], [], M1) _
              refine ps_st (S' := (94, [(0, .ref m0), (1, .int (nI (k + 1)))], [], M1)) rfl rfl rfl ?_
              exact ih.2 (N) (mj) (bc) (k + 1) (p1) (pF) (pM) (pA) (K) (E) (tx) (cN) (A) M1 I1 R1 hR1 hEI1 hER1 hl51 hl52 hl53 hl71 hl25 hl26 hl54 hl58 hl61 hl66 hl65 hl68 hl69 hl70 hl72 hF1 hY1 hP1 hN11 hN21 hQ11 hQ21 (hEP) (hN) (hmj) (hbc) (by omega) (hr) (by
                  rw [← hs, chkB_st (k := k) (by omega), if_neg (by omega)]) (hN8) (hm6) (hwh) (hc) (hf) (hm) (ha) (hB) (hU)
            · have c_130 : ¬ ((nI (fi f E k)) < (nI bc)) := of_decide_eq_false c_130
              have n_130 : ¬ (fi f E k < bc) := fun h9 => c_130 ((lt_nI (p := fi f E k) (n := bc) (Nat.lt_trans (fi_lt _ _ _) (by decide)) (by omega)).mpr h9)
              obtain ⟨p, hk9, hb9⟩ := tg_lk (f := f) (E := E) (k := k) (by omega)
              have hep9 := hEP k p hk9
              refine ps_st (S' := (134, [(0, .ref m0), (1, .int (nI k))], [.ref m0], M1)) rfl rfl rfl ?_
              refine ps_st (S' := (136, [(0, .ref m0), (1, .int (nI k))], [.int 40, .ref m0], M1)) rfl rfl rfl ?_
              refine ps_st (S' := (137, [(0, .ref m0), (1, .int (nI k))], [.ref m0, .int 40, .ref m0], M1)) rfl rfl rfl ?_
              refine pr_ref (j := 21) (S' := (140, [(0, .ref m0), (1, .int (nI k))], [.ref (q 21), .int 40, .ref m0], M1)) rfl hR1 rfl rfl ?_
              refine ps_st (S' := (141, [(0, .ref m0), (1, .int (nI k))], [.ref m0, .ref (q 21), .int 40, .ref m0], M1)) rfl rfl rfl ?_
              refine pr_int (j := 51) (S' := (144, [(0, .ref m0), (1, .int (nI k))], [.int 0, .ref (q 21), .int 40, .ref m0], M1)) rfl hR1 rfl hl51 rfl ?_
              refine ps_st (S' := (145, [(0, .ref m0), (1, .int (nI k))], [.int (nI k), .int 0, .ref (q 21), .int 40, .ref m0], M1)) rfl rfl rfl ?_
              refine ps_st (S' := (146, [(0, .ref m0), (1, .int (nI k))], [.int (0 + (nI k)), .ref (q 21), .int 40, .ref m0], M1)) rfl rfl rfl ?_
              rw [show (0 : Int32) + (nI k) = (nI k) from Int32.zero_add _]
              show pl _ _ _ (_, [(0, .ref m0), (1, .int (nI k))], [.int (nI k), .ref (q 21), .int 40, .ref m0], M1) _
              refine pr_ld (a := 21) (j := k) (y := (nI p)) (S' := (147, [(0, .ref m0), (1, .int (nI k))], [.int (nI p), .int 40, .ref m0], M1)) rfl hR1 rfl (by omega) (fun _ => by rw [hP1.2.1 k (by omega), hk9]; rfl) rfl (fun i1_146 => ?_)
              refine pl_call (a := [.ref m0, .int 40, .int (nI p)]) (rest := []) rfl rfl rfl (rd_wrong (x1 := 40) (x2 := (nI p)) hR1) (fun v366 M367 q368 => ?_)
              obtain ⟨I369, R370, rfl, hR371, hI372, hX373, hi374, hi375⟩ := q368
              have hi376 := (hI372 51 (by decide)).trans hl51
              have hi377 := (hI372 52 (by decide)).trans hl52
              have hi378 := (hI372 53 (by decide)).trans hl53
              have hi379 := (hI372 71 (by decide)).trans hl71
              have hi380 := (hI372 25 (by decide)).trans hl25
              have hi381 := (hI372 26 (by decide)).trans hl26
              have hi382 := (hI372 54 (by decide)).trans hl54
              have hi383 := (hI372 58 (by decide)).trans hl58
              have hi384 := (hI372 61 (by decide)).trans hl61
              have hi385 := (hI372 66 (by decide)).trans hl66
              have hi386 := (hI372 65 (by decide)).trans hl65
              have hi387 := (hI372 68 (by decide)).trans hl68
              have hi388 := (hI372 69 (by decide)).trans hl69
              have hi389 := (hI372 70 (by decide)).trans hl70
              have hi390 := (hI372 72 (by decide)).trans hl72
              have hF_391 := hF1.mono (cIx hI372 (by decide)) (cRx hX373 (by decide))
              have hY_392 := hY1.mono (cIx hI372 (by decide)) (cRx hX373 (by decide))
              have hP_393 := hP1.mono (cIx hI372 (by decide)) (cRx hX373 (by decide))
              have hN1_394 := hN11.mono (cIx hI372 (by decide)) (cRx hX373 (by decide))
              have hN2_395 := hN21.mono (cIx hI372 (by decide)) (cRx hX373 (by decide))
              have hQ1_396 := hQ11.mono (cIx hI372 (by decide)) (cRx hX373 (by decide))
              have hQ2_397 := hQ21.mono (cIx hI372 (by decide)) (cRx hX373 (by decide))
              have hEI398 := hEI1.tr hI372 (by decide)
              have hER399 := hER1.tr hX373 (by decide)
              show pl _ _ _ (150, [(0, .ref m0), (1, .int (nI k))], [.int 0], M367) _
              exact ps_ret rfl rfl (Or.inr ⟨(40, p), I369, R370, by
                  rw [hr, ← hs, chkB_st (k := k) (by omega), if_pos (by omega), tp_is hk9], rfl, hR371, hEI398, hER399, hi374, hi375⟩)
          · have c_111 : ¬ ((nI (tg f E k)) = 17) := of_decide_eq_false c_111
            have n_111 : ¬ (tg f E k = 17) := fun h9 => c_111 ((eq_nI (p := tg f E k) (n := 17) (Nat.lt_trans (tg_lt _ _ _) (by decide)) (by decide)).mpr h9)
            refine ps_st (S' := (115, [(2, .int (nI (tg f E k))), (0, .ref m0), (1, .int (nI k))], [.int (nI (tg f E k))], M1)) rfl rfl rfl ?_
            refine ps_st (S' := (117, [(2, .int (nI (tg f E k))), (0, .ref m0), (1, .int (nI k))], [.int 18, .int (nI (tg f E k))], M1)) rfl rfl rfl ?_
            refine ps_if2 (S1 := (151, [(0, .ref m0), (1, .int (nI k))], [], M1)) (S2 := (120, [(0, .ref m0), (1, .int (nI k))], [], M1)) rfl rfl rfl (fun c_117 => ?_) (fun c_117 => ?_)
            · have c_117 : ¬ (nI (tg f E k)) = 18 := of_decide_eq_true c_117
              have n_117 : ¬ (tg f E k = 18) := fun h9 => c_117 ((eq_nI (p := tg f E k) (n := 18) (Nat.lt_trans (tg_lt _ _ _) (by decide)) (by decide)).mpr h9)
              refine ps_st (S' := (154, [(1, .int ((nI k) + 1)), (0, .ref m0)], [], M1)) rfl rfl rfl ?_
              rw [nI_add1 (p := k) (k := 1) (x := 1) rfl (by omega)]
              show pl _ _ _ (_, [(1, .int (nI (k + 1))), (0, .ref m0)], [], M1) _
              refine ps_st (S' := (94, [(0, .ref m0), (1, .int (nI (k + 1)))], [], M1)) rfl rfl rfl ?_
              exact ih.2 (N) (mj) (bc) (k + 1) (p1) (pF) (pM) (pA) (K) (E) (tx) (cN) (A) M1 I1 R1 hR1 hEI1 hER1 hl51 hl52 hl53 hl71 hl25 hl26 hl54 hl58 hl61 hl66 hl65 hl68 hl69 hl70 hl72 hF1 hY1 hP1 hN11 hN21 hQ11 hQ21 (hEP) (hN) (hmj) (hbc) (by omega) (hr) (by
                  rw [← hs, chkB_st (k := k) (by omega), if_neg (by omega)]) (hN8) (hm6) (hwh) (hc) (hf) (hm) (ha) (hB) (hU)
            · have c_117 : ¬ (¬ (nI (tg f E k)) = 18) := of_decide_eq_false c_117
              have n_117 : tg f E k = 18 := (eq_nI (p := tg f E k) (n := 18) (Nat.lt_trans (tg_lt _ _ _) (by decide)) (by decide)).mp (Decidable.not_not.mp c_117)
              refine ps_st (S' := (121, [(0, .ref m0), (1, .int (nI k))], [.ref m0], M1)) rfl rfl rfl ?_
              refine ps_st (S' := (122, [(0, .ref m0), (1, .int (nI k))], [.int (nI k), .ref m0], M1)) rfl rfl rfl ?_
              refine ps_st (S' := (123, [(0, .ref m0), (1, .int (nI k))], [.int 1, .int (nI k), .ref m0], M1)) rfl rfl rfl ?_
              refine pl_call (a := [.ref m0, .int (nI k), .int 1]) (rest := []) rfl rfl rfl (rd_idx1 (n := n) (f := f) (tx := tx) (cN := cN) (A := A) (N := N) (mj := mj) (E := E) (k := k) hR1 hl51 hl52 hl53 hF1 hY1 hP1 (hEP) (hN) (hmj) (by omega)) (fun v400 M401 q402 => ?_)
              obtain ⟨rfl, rfl⟩ := q402
              show pl _ _ _ (126, [(0, .ref m0), (1, .int (nI k))], [.int (nI (fi f E k))], M1) _
              have hix_123 := fi_lt f E k
              refine ps_st (S' := (127, [(0, .ref m0), (1, .int (nI k))], [.ref m0, .int (nI (fi f E k))], M1)) rfl rfl rfl ?_
              refine pr_int (j := 71) (S' := (130, [(0, .ref m0), (1, .int (nI k))], [.int (nI bc), .int (nI (fi f E k))], M1)) rfl hR1 rfl hl71 rfl ?_
              refine ps_if2 (S1 := (151, [(0, .ref m0), (1, .int (nI k))], [], M1)) (S2 := (133, [(0, .ref m0), (1, .int (nI k))], [], M1)) rfl rfl rfl (fun c_130 => ?_) (fun c_130 => ?_)
              · have c_130 : (nI (fi f E k)) < (nI bc) := of_decide_eq_true c_130
                have n_130 : fi f E k < bc := (lt_nI (p := fi f E k) (n := bc) (Nat.lt_trans (fi_lt _ _ _) (by decide)) (by omega)).mp c_130
                refine ps_st (S' := (154, [(1, .int ((nI k) + 1)), (0, .ref m0)], [], M1)) rfl rfl rfl ?_
                rw [nI_add1 (p := k) (k := 1) (x := 1) rfl (by omega)]
                show pl _ _ _ (_, [(1, .int (nI (k + 1))), (0, .ref m0)], [], M1) _
                refine ps_st (S' := (94, [(0, .ref m0), (1, .int (nI (k + 1)))], [], M1)) rfl rfl rfl ?_
                exact ih.2 (N) (mj) (bc) (k + 1) (p1) (pF) (pM) (pA) (K) (E) (tx) (cN) (A) M1 I1 R1 hR1 hEI1 hER1 hl51 hl52 hl53 hl71 hl25 hl26 hl54 hl58 hl61 hl66 hl65 hl68 hl69 hl70 hl72 hF1 hY1 hP1 hN11 hN21 hQ11 hQ21 (hEP) (hN) (hmj) (hbc) (by omega) (hr) (by
                    rw [← hs, chkB_st (k := k) (by omega), if_neg (by omega)]) (hN8) (hm6) (hwh) (hc) (hf) (hm) (ha) (hB) (hU)
              · have c_130 : ¬ ((nI (fi f E k)) < (nI bc)) := of_decide_eq_false c_130
                have n_130 : ¬ (fi f E k < bc) := fun h9 => c_130 ((lt_nI (p := fi f E k) (n := bc) (Nat.lt_trans (fi_lt _ _ _) (by decide)) (by omega)).mpr h9)
                obtain ⟨p, hk9, hb9⟩ := tg_lk (f := f) (E := E) (k := k) (by omega)
                have hep9 := hEP k p hk9
                refine ps_st (S' := (134, [(0, .ref m0), (1, .int (nI k))], [.ref m0], M1)) rfl rfl rfl ?_
                refine ps_st (S' := (136, [(0, .ref m0), (1, .int (nI k))], [.int 40, .ref m0], M1)) rfl rfl rfl ?_
                refine ps_st (S' := (137, [(0, .ref m0), (1, .int (nI k))], [.ref m0, .int 40, .ref m0], M1)) rfl rfl rfl ?_
                refine pr_ref (j := 21) (S' := (140, [(0, .ref m0), (1, .int (nI k))], [.ref (q 21), .int 40, .ref m0], M1)) rfl hR1 rfl rfl ?_
                refine ps_st (S' := (141, [(0, .ref m0), (1, .int (nI k))], [.ref m0, .ref (q 21), .int 40, .ref m0], M1)) rfl rfl rfl ?_
                refine pr_int (j := 51) (S' := (144, [(0, .ref m0), (1, .int (nI k))], [.int 0, .ref (q 21), .int 40, .ref m0], M1)) rfl hR1 rfl hl51 rfl ?_
                refine ps_st (S' := (145, [(0, .ref m0), (1, .int (nI k))], [.int (nI k), .int 0, .ref (q 21), .int 40, .ref m0], M1)) rfl rfl rfl ?_
                refine ps_st (S' := (146, [(0, .ref m0), (1, .int (nI k))], [.int (0 + (nI k)), .ref (q 21), .int 40, .ref m0], M1)) rfl rfl rfl ?_
                rw [show (0 : Int32) + (nI k) = (nI k) from Int32.zero_add _]
                show pl _ _ _ (_, [(0, .ref m0), (1, .int (nI k))], [.int (nI k), .ref (q 21), .int 40, .ref m0], M1) _
                refine pr_ld (a := 21) (j := k) (y := (nI p)) (S' := (147, [(0, .ref m0), (1, .int (nI k))], [.int (nI p), .int 40, .ref m0], M1)) rfl hR1 rfl (by omega) (fun _ => by rw [hP1.2.1 k (by omega), hk9]; rfl) rfl (fun i1_146 => ?_)
                refine pl_call (a := [.ref m0, .int 40, .int (nI p)]) (rest := []) rfl rfl rfl (rd_wrong (x1 := 40) (x2 := (nI p)) hR1) (fun v403 M404 q405 => ?_)
                obtain ⟨I406, R407, rfl, hR408, hI409, hX410, hi411, hi412⟩ := q405
                have hi413 := (hI409 51 (by decide)).trans hl51
                have hi414 := (hI409 52 (by decide)).trans hl52
                have hi415 := (hI409 53 (by decide)).trans hl53
                have hi416 := (hI409 71 (by decide)).trans hl71
                have hi417 := (hI409 25 (by decide)).trans hl25
                have hi418 := (hI409 26 (by decide)).trans hl26
                have hi419 := (hI409 54 (by decide)).trans hl54
                have hi420 := (hI409 58 (by decide)).trans hl58
                have hi421 := (hI409 61 (by decide)).trans hl61
                have hi422 := (hI409 66 (by decide)).trans hl66
                have hi423 := (hI409 65 (by decide)).trans hl65
                have hi424 := (hI409 68 (by decide)).trans hl68
                have hi425 := (hI409 69 (by decide)).trans hl69
                have hi426 := (hI409 70 (by decide)).trans hl70
                have hi427 := (hI409 72 (by decide)).trans hl72
                have hF_428 := hF1.mono (cIx hI409 (by decide)) (cRx hX410 (by decide))
                have hY_429 := hY1.mono (cIx hI409 (by decide)) (cRx hX410 (by decide))
                have hP_430 := hP1.mono (cIx hI409 (by decide)) (cRx hX410 (by decide))
                have hN1_431 := hN11.mono (cIx hI409 (by decide)) (cRx hX410 (by decide))
                have hN2_432 := hN21.mono (cIx hI409 (by decide)) (cRx hX410 (by decide))
                have hQ1_433 := hQ11.mono (cIx hI409 (by decide)) (cRx hX410 (by decide))
                have hQ2_434 := hQ21.mono (cIx hI409 (by decide)) (cRx hX410 (by decide))
                have hEI435 := hEI1.tr hI409 (by decide)
                have hER436 := hER1.tr hX410 (by decide)
                show pl _ _ _ (150, [(0, .ref m0), (1, .int (nI k))], [.int 0], M404) _
                exact ps_ret rfl rfl (Or.inr ⟨(40, p), I406, R407, by
                    rw [hr, ← hs, chkB_st (k := k) (by omega), if_pos (by omega), tp_is hk9], rfl, hR408, hEI435, hER436, hi411, hi412⟩)
  refine ps_st (S' := (1, [(0, .ref m0)], [.ref m0], M)) rfl rfl rfl ?_
  refine ps_st (S' := (2, [(0, .ref m0)], [.int (-1), .ref m0], M)) rfl rfl rfl ?_
  refine pr_put (j := 67) rfl hR rfl (fun M437 I438 hR439 hi440 hI441 => ?_)
  have hi442 := (hI441 20 (by decide)).trans hi20
  have hi443 := (hI441 25 (by decide)).trans hi25
  have hi444 := (hI441 26 (by decide)).trans hi26
  have hi445 := (hI441 9 (by decide)).trans hi9
  have hi446 := (hI441 10 (by decide)).trans hi10
  have hi447 := (hI441 11 (by decide)).trans hi11
  have hF_448 := hF.mono (pIx hI441 (by decide)) (fun _ _ => rfl)
  have hY_449 := hY.mono (pIx hI441 (by decide)) (fun _ _ => rfl)
  have hK_450 := hK.mono (pIx hI441 (by decide)) (fun _ _ => rfl)
  have hEI451 := hEI.put hI441 (by decide)
  show pl _ _ _ (5, [(0, .ref m0)], [], M437) _
  refine ps_st (S' := (6, [(0, .ref m0)], [.ref m0], M437)) rfl rfl rfl ?_
  refine ps_st (S' := (7, [(0, .ref m0)], [.int 0, .ref m0], M437)) rfl rfl rfl ?_
  refine pr_put (j := 68) rfl hR439 rfl (fun M452 I453 hR454 hi455 hI456 => ?_)
  have hi457 := (hI456 20 (by decide)).trans hi442
  have hi458 := (hI456 25 (by decide)).trans hi443
  have hi459 := (hI456 26 (by decide)).trans hi444
  have hi460 := (hI456 9 (by decide)).trans hi445
  have hi461 := (hI456 10 (by decide)).trans hi446
  have hi462 := (hI456 11 (by decide)).trans hi447
  have hi463 := (hI456 67 (by decide)).trans hi440
  have hF_464 := hF_448.mono (pIx hI456 (by decide)) (fun _ _ => rfl)
  have hY_465 := hY_449.mono (pIx hI456 (by decide)) (fun _ _ => rfl)
  have hK_466 := hK_450.mono (pIx hI456 (by decide)) (fun _ _ => rfl)
  have hEI467 := hEI451.put hI456 (by decide)
  show pl _ _ _ (10, [(0, .ref m0)], [], M452) _
  refine ps_st (S' := (11, [(0, .ref m0)], [.ref m0], M452)) rfl rfl rfl ?_
  refine ps_st (S' := (12, [(0, .ref m0)], [.int 0, .ref m0], M452)) rfl rfl rfl ?_
  refine pr_put (j := 69) rfl hR454 rfl (fun M468 I469 hR470 hi471 hI472 => ?_)
  have hi473 := (hI472 20 (by decide)).trans hi457
  have hi474 := (hI472 25 (by decide)).trans hi458
  have hi475 := (hI472 26 (by decide)).trans hi459
  have hi476 := (hI472 9 (by decide)).trans hi460
  have hi477 := (hI472 10 (by decide)).trans hi461
  have hi478 := (hI472 11 (by decide)).trans hi462
  have hi479 := (hI472 67 (by decide)).trans hi463
  have hi480 := (hI472 68 (by decide)).trans hi455
  have hF_481 := hF_464.mono (pIx hI472 (by decide)) (fun _ _ => rfl)
  have hY_482 := hY_465.mono (pIx hI472 (by decide)) (fun _ _ => rfl)
  have hK_483 := hK_466.mono (pIx hI472 (by decide)) (fun _ _ => rfl)
  have hEI484 := hEI467.put hI472 (by decide)
  show pl _ _ _ (15, [(0, .ref m0)], [], M468) _
  refine ps_st (S' := (16, [(0, .ref m0)], [.ref m0], M468)) rfl rfl rfl ?_
  refine ps_st (S' := (17, [(0, .ref m0)], [.int 0, .ref m0], M468)) rfl rfl rfl ?_
  refine pr_put (j := 65) rfl hR470 rfl (fun M485 I486 hR487 hi488 hI489 => ?_)
  have hi490 := (hI489 20 (by decide)).trans hi473
  have hi491 := (hI489 25 (by decide)).trans hi474
  have hi492 := (hI489 26 (by decide)).trans hi475
  have hi493 := (hI489 9 (by decide)).trans hi476
  have hi494 := (hI489 10 (by decide)).trans hi477
  have hi495 := (hI489 11 (by decide)).trans hi478
  have hi496 := (hI489 67 (by decide)).trans hi479
  have hi497 := (hI489 68 (by decide)).trans hi480
  have hi498 := (hI489 69 (by decide)).trans hi471
  have hF_499 := hF_481.mono (pIx hI489 (by decide)) (fun _ _ => rfl)
  have hY_500 := hY_482.mono (pIx hI489 (by decide)) (fun _ _ => rfl)
  have hK_501 := hK_483.mono (pIx hI489 (by decide)) (fun _ _ => rfl)
  have hEI502 := hEI484.put hI489 (by decide)
  show pl _ _ _ (20, [(0, .ref m0)], [], M485) _
  refine ps_st (S' := (21, [(0, .ref m0)], [.ref m0], M485)) rfl rfl rfl ?_
  refine ps_st (S' := (22, [(0, .ref m0)], [.int 0, .ref m0], M485)) rfl rfl rfl ?_
  refine pr_put (j := 66) rfl hR487 rfl (fun M503 I504 hR505 hi506 hI507 => ?_)
  have hi508 := (hI507 20 (by decide)).trans hi490
  have hi509 := (hI507 25 (by decide)).trans hi491
  have hi510 := (hI507 26 (by decide)).trans hi492
  have hi511 := (hI507 9 (by decide)).trans hi493
  have hi512 := (hI507 10 (by decide)).trans hi494
  have hi513 := (hI507 11 (by decide)).trans hi495
  have hi514 := (hI507 67 (by decide)).trans hi496
  have hi515 := (hI507 68 (by decide)).trans hi497
  have hi516 := (hI507 69 (by decide)).trans hi498
  have hi517 := (hI507 65 (by decide)).trans hi488
  have hF_518 := hF_499.mono (pIx hI507 (by decide)) (fun _ _ => rfl)
  have hY_519 := hY_500.mono (pIx hI507 (by decide)) (fun _ _ => rfl)
  have hK_520 := hK_501.mono (pIx hI507 (by decide)) (fun _ _ => rfl)
  have hEI521 := hEI502.put hI507 (by decide)
  show pl _ _ _ (25, [(0, .ref m0)], [], M503) _
  refine ps_st (S' := (26, [(0, .ref m0)], [.ref m0], M503)) rfl rfl rfl ?_
  refine ps_st (S' := (27, [(0, .ref m0)], [.int (-1), .ref m0], M503)) rfl rfl rfl ?_
  refine pr_put (j := 70) rfl hR505 rfl (fun M522 I523 hR524 hi525 hI526 => ?_)
  have hi527 := (hI526 20 (by decide)).trans hi508
  have hi528 := (hI526 25 (by decide)).trans hi509
  have hi529 := (hI526 26 (by decide)).trans hi510
  have hi530 := (hI526 9 (by decide)).trans hi511
  have hi531 := (hI526 10 (by decide)).trans hi512
  have hi532 := (hI526 11 (by decide)).trans hi513
  have hi533 := (hI526 67 (by decide)).trans hi514
  have hi534 := (hI526 68 (by decide)).trans hi515
  have hi535 := (hI526 69 (by decide)).trans hi516
  have hi536 := (hI526 65 (by decide)).trans hi517
  have hi537 := (hI526 66 (by decide)).trans hi506
  have hF_538 := hF_518.mono (pIx hI526 (by decide)) (fun _ _ => rfl)
  have hY_539 := hY_519.mono (pIx hI526 (by decide)) (fun _ _ => rfl)
  have hK_540 := hK_520.mono (pIx hI526 (by decide)) (fun _ _ => rfl)
  have hEI541 := hEI521.put hI526 (by decide)
  show pl _ _ _ (30, [(0, .ref m0)], [], M522) _
  refine ps_st (S' := (31, [(0, .ref m0)], [.ref m0], M522)) rfl rfl rfl ?_
  refine ps_st (S' := (32, [(0, .ref m0)], [.int 0, .ref m0], M522)) rfl rfl rfl ?_
  refine pr_put (j := 71) rfl hR524 rfl (fun M542 I543 hR544 hi545 hI546 => ?_)
  have hi547 := (hI546 20 (by decide)).trans hi527
  have hi548 := (hI546 25 (by decide)).trans hi528
  have hi549 := (hI546 26 (by decide)).trans hi529
  have hi550 := (hI546 9 (by decide)).trans hi530
  have hi551 := (hI546 10 (by decide)).trans hi531
  have hi552 := (hI546 11 (by decide)).trans hi532
  have hi553 := (hI546 67 (by decide)).trans hi533
  have hi554 := (hI546 68 (by decide)).trans hi534
  have hi555 := (hI546 69 (by decide)).trans hi535
  have hi556 := (hI546 65 (by decide)).trans hi536
  have hi557 := (hI546 66 (by decide)).trans hi537
  have hi558 := (hI546 70 (by decide)).trans hi525
  have hF_559 := hF_538.mono (pIx hI546 (by decide)) (fun _ _ => rfl)
  have hY_560 := hY_539.mono (pIx hI546 (by decide)) (fun _ _ => rfl)
  have hK_561 := hK_540.mono (pIx hI546 (by decide)) (fun _ _ => rfl)
  have hEI562 := hEI541.put hI546 (by decide)
  show pl _ _ _ (35, [(0, .ref m0)], [], M542) _
  refine ps_st (S' := (36, [(0, .ref m0)], [.ref m0], M542)) rfl rfl rfl ?_
  refine ps_st (S' := (37, [(0, .ref m0)], [.int (-1), .ref m0], M542)) rfl rfl rfl ?_
  refine pr_put (j := 72) rfl hR544 rfl (fun M563 I564 hR565 hi566 hI567 => ?_)
  have hi568 := (hI567 20 (by decide)).trans hi547
  have hi569 := (hI567 25 (by decide)).trans hi548
  have hi570 := (hI567 26 (by decide)).trans hi549
  have hi571 := (hI567 9 (by decide)).trans hi550
  have hi572 := (hI567 10 (by decide)).trans hi551
  have hi573 := (hI567 11 (by decide)).trans hi552
  have hi574 := (hI567 67 (by decide)).trans hi553
  have hi575 := (hI567 68 (by decide)).trans hi554
  have hi576 := (hI567 69 (by decide)).trans hi555
  have hi577 := (hI567 65 (by decide)).trans hi556
  have hi578 := (hI567 66 (by decide)).trans hi557
  have hi579 := (hI567 70 (by decide)).trans hi558
  have hi580 := (hI567 71 (by decide)).trans hi545
  have hF_581 := hF_559.mono (pIx hI567 (by decide)) (fun _ _ => rfl)
  have hY_582 := hY_560.mono (pIx hI567 (by decide)) (fun _ _ => rfl)
  have hK_583 := hK_561.mono (pIx hI567 (by decide)) (fun _ _ => rfl)
  have hEI584 := hEI562.put hI567 (by decide)
  show pl _ _ _ (40, [(0, .ref m0)], [], M563) _
  refine ps_st (S' := (41, [(0, .ref m0)], [.ref m0], M563)) rfl rfl rfl ?_
  refine pl_call (a := [.ref m0]) (rest := []) rfl rfl rfl (rd_readFile (n := n) (f := f) (tx := tx) (cN := cN) (A := A) hR565 hi568 hF_581 hY_582) (fun v585 M586 q587 => ?_)
  rcases q587 with q587 | q587
  · skip
    obtain ⟨E588, p1589, pF590, pM591, pA592, tx1593, cN1594, A1595, I596, R597, q41_s, q41_k, q41_c, q41_f, q41_m, q41_a, rfl, hR598, hI599, hX600, hi601, hi602, hi603, hi604, hi605, hi606, hi607, hY_608, hP_609⟩ := q587
    have hi610 := (hI599 25 (by decide)).trans hi569
    have hi611 := (hI599 26 (by decide)).trans hi570
    have hi612 := (hI599 9 (by decide)).trans hi571
    have hi613 := (hI599 10 (by decide)).trans hi572
    have hi614 := (hI599 11 (by decide)).trans hi573
    have hi615 := (hI599 67 (by decide)).trans hi574
    have hi616 := (hI599 68 (by decide)).trans hi575
    have hi617 := (hI599 69 (by decide)).trans hi576
    have hi618 := (hI599 65 (by decide)).trans hi577
    have hi619 := (hI599 66 (by decide)).trans hi578
    have hi620 := (hI599 70 (by decide)).trans hi579
    have hi621 := (hI599 71 (by decide)).trans hi580
    have hi622 := (hI599 72 (by decide)).trans hi566
    have hF_623 := hF_581.mono (cIx hI599 (by decide)) (cRx hX600 (by decide))
    have hK_624 := hK_583.mono (cIx hI599 (by decide)) (cRx hX600 (by decide))
    have hEI625 := hEI584.tr hI599 (by decide)
    have hER626 := hER.tr hX600 (by decide)
    show pl _ _ _ (44, [(0, .ref m0)], [.int 1], M586) _
    refine ps_if (S1 := (75, [], [], M586)) (S2 := (47, [(0, .ref m0)], [], M586)) rfl rfl rfl (fun c_44 => ?_) (fun c_44 => ?_)
    · exact absurd (of_decide_eq_true c_44) (by decide)
    exact (LL kf).1 (by2 f 8) (by2 f 6) (p1589) (pF590) (pM591) (pA592) (E588) (tx1593) (cN1594) (A1595) M586 I596 R597 hR598 hEI625 hER626 hi601 hi602 hi603 hi604 hi605 hi606 hi607 hi610 hi611 hi621 hi619 hi618 hi616 hi617 hi620 hi622 hi612 hi613 hi614 hF_623 hY_608 hP_609 hK_624 (rfl) (rfl) (q41_s) (⟨Nat.lt_of_lt_of_le hs1.1 q41_k.1, (q41_k.2 _ hs1.1).trans hs1.2⟩) (⟨Nat.lt_of_lt_of_le hs2.1 q41_k.1, (q41_k.2 _ hs2.1).trans hs2.2⟩) (⟨Nat.lt_of_lt_of_le hs3.1 q41_k.1, (q41_k.2 _ hs3.1).trans hs3.2⟩) (q41_c) (q41_f) (q41_m) (q41_a)
  · skip
    obtain ⟨e627, I628, R629, q41_s, rfl, hR630, hI631, hX632, hi633, hi634⟩ := q587
    have hi635 := (hI631 25 (by decide)).trans hi569
    have hi636 := (hI631 26 (by decide)).trans hi570
    have hi637 := (hI631 9 (by decide)).trans hi571
    have hi638 := (hI631 10 (by decide)).trans hi572
    have hi639 := (hI631 11 (by decide)).trans hi573
    have hi640 := (hI631 67 (by decide)).trans hi574
    have hi641 := (hI631 68 (by decide)).trans hi575
    have hi642 := (hI631 69 (by decide)).trans hi576
    have hi643 := (hI631 65 (by decide)).trans hi577
    have hi644 := (hI631 66 (by decide)).trans hi578
    have hi645 := (hI631 70 (by decide)).trans hi579
    have hi646 := (hI631 71 (by decide)).trans hi580
    have hi647 := (hI631 72 (by decide)).trans hi566
    have hF_648 := hF_581.mono (cIx hI631 (by decide)) (cRx hX632 (by decide))
    have hK_649 := hK_583.mono (cIx hI631 (by decide)) (cRx hX632 (by decide))
    have hEI650 := hEI584.tr hI631 (by decide)
    have hER651 := hER.tr hX632 (by decide)
    show pl _ _ _ (44, [(0, .ref m0)], [.int 0], M586) _
    refine ps_if (S1 := (75, [], [], M586)) (S2 := (47, [(0, .ref m0)], [], M586)) rfl rfl rfl (fun c_44 => ?_) (fun c_44 => ?_)
    rotate_left
    · exact absurd (by decide) (of_decide_eq_false c_44)
    refine ps_st (S' := (76, [], [.int 0], M586)) rfl rfl rfl ?_
    exact ps_ret rfl rfl (Or.inr ⟨e627, I628, R629, by
        exact s_read_1 q41_s, rfl, hR630, hEI650, hER651, hi633, hi634⟩)
set_option maxHeartbeats 4000000 in
theorem rd_parse13b {g : xe_G} {m0 : Nat} {q : Nat → Nat} {z : Nat × Nat} {I : rI} {R : rR} {M : mi_H} {n : Nat} {f : Nat → Int32} (hR : RS g m0 q z I R M) (hi49 : I 49 = some 0) (hB : BX 13 n f I R) (hK : KX I R) (hn : n ≤ 65540) : pt (mT g) 230 [.ref m0, .ref (q 13), .int (nI n)] M (fun v M' => (∃  (I' : rI) (R' : rR), (s_read f n = none) ∧ v = some (.int 1) ∧ RS g m0 q z I' R' M' ∧ eqI [3, 8, 9, 10, 11, 16, 20, 25, 26, 47, 48, 50, 51, 52, 53, 54, 55, 56, 57, 58, 59, 60, 61, 65, 66, 67, 68, 69, 70, 71, 72] I I' ∧ eqR [1, 2, 4, 5, 6, 7, 12, 21, 22, 27, 28, 29, 30, 31, 32, 33, 34, 35, 36, 37, 38, 39, 40, 41, 42, 43, 44, 45, 46] R R' ∧ XKV f n I' R') ∨ (∃ (e9 : Nat × Nat) (I' : rI) (R' : rR), (s_read f n = some e9) ∧ v = some (.int 0) ∧ RS g m0 q z I' R' M' ∧ eqI [3, 8, 9, 10, 11, 16, 20, 25, 26, 47, 48, 50, 51, 52, 53, 54, 55, 56, 57, 58, 59, 60, 61, 65, 66, 67, 68, 69, 70, 71, 72] I I' ∧ eqR [1, 2, 4, 5, 6, 7, 12, 21, 22, 27, 28, 29, 30, 31, 32, 33, 34, 35, 36, 37, 38, 39, 40, 41, 42, 43, 44, 45, 46] R R' ∧ I' 47 = some (nI e9.1) ∧ I' 48 = some (nI e9.2))) := by
  refine pt_in (b := mb_230 g) rfl (fun kf => ?_)
  show pl (mT g) kf (mb_230 g).2 (0, [(0, .ref m0), (1, .ref (q 13)), (2, .int (nI n))], [], M) _
  have hEI : eqI [3, 8, 9, 10, 11, 16, 20, 25, 26, 47, 48, 50, 51, 52, 53, 54, 55, 56, 57, 58, 59, 60, 61, 65, 66, 67, 68, 69, 70, 71, 72] I I := eqI.rf
  have hER : eqR [1, 2, 4, 5, 6, 7, 12, 21, 22, 27, 28, 29, 30, 31, 32, 33, 34, 35, 36, 37, 38, 39, 40, 41, 42, 43, 44, 45, 46] R R := eqR.rf
  have LL : ∀ (kf : Nat), (∀ (i : Nat) (tx : List (List Nat)) (cN : Nat) (A : Nat → Nat) (s1 s2 s3 : Nat) (M1 : mi_H) (I1 : rI) (R1 : rR), (RS g m0 q z I1 R1 M1) → (eqI [3, 8, 9, 10, 11, 16, 20, 25, 26, 47, 48, 50, 51, 52, 53, 54, 55, 56, 57, 58, 59, 60, 61, 65, 66, 67, 68, 69, 70, 71, 72] I I1) → (eqR [1, 2, 4, 5, 6, 7, 12, 21, 22, 27, 28, 29, 30, 31, 32, 33, 34, 35, 36, 37, 38, 39, 40, 41, 42, 43, 44, 45, 46] R R1) → (I1 49 = some 0) → (I1 16 = some (nI n)) → (I1 20 = some 0) → (I1 25 = some 0) → (I1 26 = some 0) → (I1 9 = some (nI s1)) → (I1 10 = some (nI s2)) → (I1 11 = some (nI s3)) → (BX 13 n f I1 R1) → (KX I1 R1) → (SYT tx cN A I1 R1) → (BX 12 i f I1 R1) → (i ≤ n) → (s1 < tx.length ∧ tx.getD s1 [] = ltx 25) → (s2 < tx.length ∧ tx.getD s2 [] = ltx 26) → (s3 < tx.length ∧ tx.getD s3 [] = ltx 27) →  pl (mT g) kf (mb_230 g).2 (11, [(0, .ref m0), (1, .ref (q 13)), (2, .int (nI n)), (3, .int (nI i))], [], M1) (fun v M' => (∃  (I' : rI) (R' : rR), (s_read f n = none) ∧ v = some (.int 1) ∧ RS g m0 q z I' R' M' ∧ eqI [3, 8, 9, 10, 11, 16, 20, 25, 26, 47, 48, 50, 51, 52, 53, 54, 55, 56, 57, 58, 59, 60, 61, 65, 66, 67, 68, 69, 70, 71, 72] I I' ∧ eqR [1, 2, 4, 5, 6, 7, 12, 21, 22, 27, 28, 29, 30, 31, 32, 33, 34, 35, 36, 37, 38, 39, 40, 41, 42, 43, 44, 45, 46] R R' ∧ XKV f n I' R') ∨ (∃ (e9 : Nat × Nat) (I' : rI) (R' : rR), (s_read f n = some e9) ∧ v = some (.int 0) ∧ RS g m0 q z I' R' M' ∧ eqI [3, 8, 9, 10, 11, 16, 20, 25, 26, 47, 48, 50, 51, 52, 53, 54, 55, 56, 57, 58, 59, 60, 61, 65, 66, 67, 68, 69, 70, 71, 72] I I' ∧ eqR [1, 2, 4, 5, 6, 7, 12, 21, 22, 27, 28, 29, 30, 31, 32, 33, 34, 35, 36, 37, 38, 39, 40, 41, 42, 43, 44, 45, 46] R R' ∧ I' 47 = some (nI e9.1) ∧ I' 48 = some (nI e9.2)))) := by
    intro kf
    induction kf with
    | zero => exact (by intros; exact pl_0)
    | succ kf ih =>
      intro i tx cN A s1 s2 s3 M1 I1 R1 hR1 hEI1 hER1 hl49 hl16 hl20 hl25 hl26 hl9 hl10 hl11 hB1 hK1 hY1 hC1 hi hs1 hs2 hs3
      refine ps_st1 (S' := (12, [(0, .ref m0), (1, .ref (q 13)), (2, .int (nI n)), (3, .int (nI i))], [.int (nI i)], M1)) rfl rfl rfl ?_
      refine ps_st (S' := (13, [(0, .ref m0), (1, .ref (q 13)), (2, .int (nI n)), (3, .int (nI i))], [.int (nI n), .int (nI i)], M1)) rfl rfl rfl ?_
      refine ps_if2 (S1 := (31, [(0, .ref m0), (1, .ref (q 13)), (2, .int (nI n)), (3, .int (nI i))], [], M1)) (S2 := (16, [(0, .ref m0), (1, .ref (q 13)), (2, .int (nI n)), (3, .int (nI i))], [], M1)) rfl rfl rfl (fun c_13 => ?_) (fun c_13 => ?_)
      · have c_13 : (nI n) ≤ (nI i) := of_decide_eq_true c_13
        have n_13 : n ≤ i := (le_nI (p := n) (n := i) (by omega) (by omega)).mp c_13
        refine ps_st (S' := (32, [(0, .ref m0), (1, .ref (q 13)), (2, .int (nI n)), (3, .int (nI i))], [.ref m0], M1)) rfl rfl rfl ?_
        have hF9 : FK n f I1 R1 := ⟨hn, hl49, hl16, fun i9 h9 => (hC1 i9 (by omega)).1⟩
        refine pl_call (a := [.ref m0]) (rest := []) rfl rfl rfl (rd_checkFile2 (n := n) (f := f) (tx := tx) (cN := cN) (A := A) (s1 := s1) (s2 := s2) (s3 := s3) hR1 hl20 hl25 hl26 hl9 hl10 hl11 hF9 hY1 hK1 (hs1) (hs2) (hs3)) (fun v1 M2 q3 => ?_)
        rcases q3 with q3 | q3
        · skip
          obtain ⟨I4, R5, q32_s, rfl, hR6, hI7, hX8, hX_9⟩ := q3
          have hi10 := (hI7 49 (by decide)).trans hl49
          have hi11 := (hI7 16 (by decide)).trans hl16
          have hi12 := (hI7 9 (by decide)).trans hl9
          have hi13 := (hI7 10 (by decide)).trans hl10
          have hi14 := (hI7 11 (by decide)).trans hl11
          have hB_15 := hB1.mono (cIx hI7 (by decide)) (cRx hX8 (by decide))
          have hK_16 := hK1.mono (cIx hI7 (by decide)) (cRx hX8 (by decide))
          have hC_17 := hC1.mono (cIx hI7 (by decide)) (cRx hX8 (by decide))
          have hF_18 := hF9.mono (cIx hI7 (by decide)) (cRx hX8 (by decide))
          have hEI19 := hEI1.tr hI7 (by decide)
          have hER20 := hER1.tr hX8 (by decide)
          show pl _ _ _ (35, [(0, .ref m0), (1, .ref (q 13)), (2, .int (nI n)), (3, .int (nI i))], [.int 1], M2) _
          exact ps_ret rfl rfl (Or.inl ⟨I4, R5, q32_s, rfl, hR6, hEI19, hER20, hX_9⟩)
        · skip
          obtain ⟨e921, I22, R23, q32_s, rfl, hR24, hI25, hX26, hi27, hi28⟩ := q3
          have hi29 := (hI25 49 (by decide)).trans hl49
          have hi30 := (hI25 16 (by decide)).trans hl16
          have hi31 := (hI25 9 (by decide)).trans hl9
          have hi32 := (hI25 10 (by decide)).trans hl10
          have hi33 := (hI25 11 (by decide)).trans hl11
          have hB_34 := hB1.mono (cIx hI25 (by decide)) (cRx hX26 (by decide))
          have hK_35 := hK1.mono (cIx hI25 (by decide)) (cRx hX26 (by decide))
          have hC_36 := hC1.mono (cIx hI25 (by decide)) (cRx hX26 (by decide))
          have hF_37 := hF9.mono (cIx hI25 (by decide)) (cRx hX26 (by decide))
          have hEI38 := hEI1.tr hI25 (by decide)
          have hER39 := hER1.tr hX26 (by decide)
          show pl _ _ _ (35, [(0, .ref m0), (1, .ref (q 13)), (2, .int (nI n)), (3, .int (nI i))], [.int 0], M2) _
          exact ps_ret rfl rfl (Or.inr ⟨e921, I22, R23, q32_s, rfl, hR24, hEI38, hER39, hi27, hi28⟩)
      · have c_13 : ¬ ((nI n) ≤ (nI i)) := of_decide_eq_false c_13
        have n_13 : ¬ (n ≤ i) := fun h9 => c_13 ((le_nI (p := n) (n := i) (by omega) (by omega)).mpr h9)
        refine ps_st (S' := (17, [(0, .ref m0), (1, .ref (q 13)), (2, .int (nI n)), (3, .int (nI i))], [.ref m0], M1)) rfl rfl rfl ?_
        refine pr_ref (j := 12) (S' := (20, [(0, .ref m0), (1, .ref (q 13)), (2, .int (nI n)), (3, .int (nI i))], [.ref (q 12)], M1)) rfl hR1 rfl rfl ?_
        refine ps_st (S' := (21, [(0, .ref m0), (1, .ref (q 13)), (2, .int (nI n)), (3, .int (nI i))], [.int (nI i), .ref (q 12)], M1)) rfl rfl rfl ?_
        refine ps_st (S' := (22, [(0, .ref m0), (1, .ref (q 13)), (2, .int (nI n)), (3, .int (nI i))], [.ref (q 13), .int (nI i), .ref (q 12)], M1)) rfl rfl rfl ?_
        refine ps_st (S' := (23, [(0, .ref m0), (1, .ref (q 13)), (2, .int (nI n)), (3, .int (nI i))], [.int (nI i), .ref (q 13), .int (nI i), .ref (q 12)], M1)) rfl rfl rfl ?_
        refine pr_ld (a := 13) (j := i) (y := (f i)) (S' := (24, [(0, .ref m0), (1, .ref (q 13)), (2, .int (nI n)), (3, .int (nI i))], [.int (f i), .int (nI i), .ref (q 12)], M1)) rfl hR1 rfl (by omega) (fun _ => (hB1 i (by omega)).1) rfl (fun i1_23 => ?_)
        refine pr_st (a := 12) (j := i) rfl hR1 rfl (by omega) (fun M40 R41 i1_24 hR42 hS43 => ?_)
        have hB_44 := hB1.mono (fun _ _ => rfl) (rRx hS43 (by decide))
        have hK_45 := hK1.mono (fun _ _ => rfl) (rRx hS43 (by decide))
        have hY_46 := hY1.mono (fun _ _ => rfl) (rRx hS43 (by decide))
        have hER47 := hER1.st hS43 (by decide)
        show pl _ _ _ (25, [(0, .ref m0), (1, .ref (q 13)), (2, .int (nI n)), (3, .int (nI i))], [], M40) _
        have hC_48 : BX 12 (i + 1) f I1 R41 := BX.st hC1 hS43 (hB1 i (by omega)).2 rfl
        refine ps_st (S' := (28, [(3, .int ((nI i) + 1)), (0, .ref m0), (1, .ref (q 13)), (2, .int (nI n))], [], M40)) rfl rfl rfl ?_
        rw [nI_add1 (p := i) (k := 1) (x := 1) rfl (by omega)]
        show pl _ _ _ (_, [(3, .int (nI (i + 1))), (0, .ref m0), (1, .ref (q 13)), (2, .int (nI n))], [], M40) _
        refine ps_st (S' := (11, [(0, .ref m0), (1, .ref (q 13)), (2, .int (nI n)), (3, .int (nI (i + 1)))], [], M40)) rfl rfl rfl ?_
        exact ih (i + 1) (tx) (cN) (A) (s1) (s2) (s3) M40 I1 R41 hR42 hEI1 hER47 hl49 hl16 hl20 hl25 hl26 hl9 hl10 hl11 hB_44 hK_45 hY_46 hC_48 (by omega) (hs1) (hs2) (hs3)
  refine ps_st (S' := (1, [(0, .ref m0), (1, .ref (q 13)), (2, .int (nI n))], [.ref m0], M)) rfl rfl rfl ?_
  refine pl_call (a := [.ref m0]) (rest := []) rfl rfl rfl (rd_clear hR) (fun v49 M50 q51 => ?_)
  obtain ⟨tx52, cN53, A54, s155, s256, s357, I58, R59, q1_s, rfl, hR60, hI61, hX62, hi63, hi64, hi65, hi66, hi67, hi68, hY_69⟩ := q51
  have hi70 := (hI61 49 (by decide)).trans hi49
  have hB_71 := hB.mono (cIx hI61 (by decide)) (cRx hX62 (by decide))
  have hK_72 := hK.mono (cIx hI61 (by decide)) (cRx hX62 (by decide))
  have hEI73 := hEI.tr hI61 (by decide)
  have hER74 := hER.tr hX62 (by decide)
  show pl _ _ _ (4, [(0, .ref m0), (1, .ref (q 13)), (2, .int (nI n))], [], M50) _
  refine ps_st (S' := (5, [(0, .ref m0), (1, .ref (q 13)), (2, .int (nI n))], [.ref m0], M50)) rfl rfl rfl ?_
  refine ps_st (S' := (6, [(0, .ref m0), (1, .ref (q 13)), (2, .int (nI n))], [.int (nI n), .ref m0], M50)) rfl rfl rfl ?_
  refine pr_put (j := 16) rfl hR60 rfl (fun M75 I76 hR77 hi78 hI79 => ?_)
  have hi80 := (hI79 49 (by decide)).trans hi70
  have hi81 := (hI79 9 (by decide)).trans hi63
  have hi82 := (hI79 10 (by decide)).trans hi64
  have hi83 := (hI79 11 (by decide)).trans hi65
  have hi84 := (hI79 20 (by decide)).trans hi66
  have hi85 := (hI79 25 (by decide)).trans hi67
  have hi86 := (hI79 26 (by decide)).trans hi68
  have hB_87 := hB_71.mono (pIx hI79 (by decide)) (fun _ _ => rfl)
  have hK_88 := hK_72.mono (pIx hI79 (by decide)) (fun _ _ => rfl)
  have hY_89 := hY_69.mono (pIx hI79 (by decide)) (fun _ _ => rfl)
  have hEI90 := hEI73.put hI79 (by decide)
  show pl _ _ _ (9, [(0, .ref m0), (1, .ref (q 13)), (2, .int (nI n))], [], M75) _
  refine ps_st (S' := (10, [(0, .ref m0), (1, .ref (q 13)), (2, .int (nI n))], [.int 0], M75)) rfl rfl rfl ?_
  refine ps_st (S' := (11, [(0, .ref m0), (1, .ref (q 13)), (2, .int (nI n)), (3, .int 0)], [], M75)) rfl rfl rfl ?_
  have hC0 : BX 12 0 f I76 R59 := fun i9 h9 => absurd h9 (Nat.not_lt_zero _)
  exact (LL kf) (0) (tx52) (cN53) (A54) (s155) (s256) (s357) M75 I76 R59 hR77 hEI90 hER74 hi80 hi78 hi84 hi85 hi86 hi81 hi82 hi83 hB_87 hK_88 hY_89 hC0 (by omega) (⟨q1_s.1, q1_s.2.1⟩) (⟨q1_s.2.2.1, q1_s.2.2.2.1⟩) (⟨q1_s.2.2.2.2.1, q1_s.2.2.2.2.2⟩)
set_option maxHeartbeats 4000000 in
theorem rd_parse14b {g : xe_G} {m0 : Nat} {q : Nat → Nat} {z : Nat × Nat} {I : rI} {R : rR} {M : mi_H} {n : Nat} {f : Nat → Int32} (hR : RS g m0 q z I R M) (hi49 : I 49 = some 0) (hB : BX 14 n f I R) (hK : KX I R) (hn : n ≤ 65540) : pt (mT g) 230 [.ref m0, .ref (q 14), .int (nI n)] M (fun v M' => (∃  (I' : rI) (R' : rR), (s_read f n = none) ∧ v = some (.int 1) ∧ RS g m0 q z I' R' M' ∧ eqI [3, 8, 9, 10, 11, 16, 20, 25, 26, 47, 48, 50, 51, 52, 53, 54, 55, 56, 57, 58, 59, 60, 61, 65, 66, 67, 68, 69, 70, 71, 72] I I' ∧ eqR [1, 2, 4, 5, 6, 7, 12, 21, 22, 27, 28, 29, 30, 31, 32, 33, 34, 35, 36, 37, 38, 39, 40, 41, 42, 43, 44, 45, 46] R R' ∧ XKV f n I' R') ∨ (∃ (e9 : Nat × Nat) (I' : rI) (R' : rR), (s_read f n = some e9) ∧ v = some (.int 0) ∧ RS g m0 q z I' R' M' ∧ eqI [3, 8, 9, 10, 11, 16, 20, 25, 26, 47, 48, 50, 51, 52, 53, 54, 55, 56, 57, 58, 59, 60, 61, 65, 66, 67, 68, 69, 70, 71, 72] I I' ∧ eqR [1, 2, 4, 5, 6, 7, 12, 21, 22, 27, 28, 29, 30, 31, 32, 33, 34, 35, 36, 37, 38, 39, 40, 41, 42, 43, 44, 45, 46] R R' ∧ I' 47 = some (nI e9.1) ∧ I' 48 = some (nI e9.2))) := by
  refine pt_in (b := mb_230 g) rfl (fun kf => ?_)
  show pl (mT g) kf (mb_230 g).2 (0, [(0, .ref m0), (1, .ref (q 14)), (2, .int (nI n))], [], M) _
  have hEI : eqI [3, 8, 9, 10, 11, 16, 20, 25, 26, 47, 48, 50, 51, 52, 53, 54, 55, 56, 57, 58, 59, 60, 61, 65, 66, 67, 68, 69, 70, 71, 72] I I := eqI.rf
  have hER : eqR [1, 2, 4, 5, 6, 7, 12, 21, 22, 27, 28, 29, 30, 31, 32, 33, 34, 35, 36, 37, 38, 39, 40, 41, 42, 43, 44, 45, 46] R R := eqR.rf
  have LL : ∀ (kf : Nat), (∀ (i : Nat) (tx : List (List Nat)) (cN : Nat) (A : Nat → Nat) (s1 s2 s3 : Nat) (M1 : mi_H) (I1 : rI) (R1 : rR), (RS g m0 q z I1 R1 M1) → (eqI [3, 8, 9, 10, 11, 16, 20, 25, 26, 47, 48, 50, 51, 52, 53, 54, 55, 56, 57, 58, 59, 60, 61, 65, 66, 67, 68, 69, 70, 71, 72] I I1) → (eqR [1, 2, 4, 5, 6, 7, 12, 21, 22, 27, 28, 29, 30, 31, 32, 33, 34, 35, 36, 37, 38, 39, 40, 41, 42, 43, 44, 45, 46] R R1) → (I1 49 = some 0) → (I1 16 = some (nI n)) → (I1 20 = some 0) → (I1 25 = some 0) → (I1 26 = some 0) → (I1 9 = some (nI s1)) → (I1 10 = some (nI s2)) → (I1 11 = some (nI s3)) → (BX 14 n f I1 R1) → (KX I1 R1) → (SYT tx cN A I1 R1) → (BX 12 i f I1 R1) → (i ≤ n) → (s1 < tx.length ∧ tx.getD s1 [] = ltx 25) → (s2 < tx.length ∧ tx.getD s2 [] = ltx 26) → (s3 < tx.length ∧ tx.getD s3 [] = ltx 27) →  pl (mT g) kf (mb_230 g).2 (11, [(0, .ref m0), (1, .ref (q 14)), (2, .int (nI n)), (3, .int (nI i))], [], M1) (fun v M' => (∃  (I' : rI) (R' : rR), (s_read f n = none) ∧ v = some (.int 1) ∧ RS g m0 q z I' R' M' ∧ eqI [3, 8, 9, 10, 11, 16, 20, 25, 26, 47, 48, 50, 51, 52, 53, 54, 55, 56, 57, 58, 59, 60, 61, 65, 66, 67, 68, 69, 70, 71, 72] I I' ∧ eqR [1, 2, 4, 5, 6, 7, 12, 21, 22, 27, 28, 29, 30, 31, 32, 33, 34, 35, 36, 37, 38, 39, 40, 41, 42, 43, 44, 45, 46] R R' ∧ XKV f n I' R') ∨ (∃ (e9 : Nat × Nat) (I' : rI) (R' : rR), (s_read f n = some e9) ∧ v = some (.int 0) ∧ RS g m0 q z I' R' M' ∧ eqI [3, 8, 9, 10, 11, 16, 20, 25, 26, 47, 48, 50, 51, 52, 53, 54, 55, 56, 57, 58, 59, 60, 61, 65, 66, 67, 68, 69, 70, 71, 72] I I' ∧ eqR [1, 2, 4, 5, 6, 7, 12, 21, 22, 27, 28, 29, 30, 31, 32, 33, 34, 35, 36, 37, 38, 39, 40, 41, 42, 43, 44, 45, 46] R R' ∧ I' 47 = some (nI e9.1) ∧ I' 48 = some (nI e9.2)))) := by
    intro kf
    induction kf with
    | zero => exact (by intros; exact pl_0)
    | succ kf ih =>
      intro i tx cN A s1 s2 s3 M1 I1 R1 hR1 hEI1 hER1 hl49 hl16 hl20 hl25 hl26 hl9 hl10 hl11 hB1 hK1 hY1 hC1 hi hs1 hs2 hs3
      refine ps_st1 (S' := (12, [(0, .ref m0), (1, .ref (q 14)), (2, .int (nI n)), (3, .int (nI i))], [.int (nI i)], M1)) rfl rfl rfl ?_
      refine ps_st (S' := (13, [(0, .ref m0), (1, .ref (q 14)), (2, .int (nI n)), (3, .int (nI i))], [.int (nI n), .int (nI i)], M1)) rfl rfl rfl ?_
      refine ps_if2 (S1 := (31, [(0, .ref m0), (1, .ref (q 14)), (2, .int (nI n)), (3, .int (nI i))], [], M1)) (S2 := (16, [(0, .ref m0), (1, .ref (q 14)), (2, .int (nI n)), (3, .int (nI i))], [], M1)) rfl rfl rfl (fun c_13 => ?_) (fun c_13 => ?_)
      · have c_13 : (nI n) ≤ (nI i) := of_decide_eq_true c_13
        have n_13 : n ≤ i := (le_nI (p := n) (n := i) (by omega) (by omega)).mp c_13
        refine ps_st (S' := (32, [(0, .ref m0), (1, .ref (q 14)), (2, .int (nI n)), (3, .int (nI i))], [.ref m0], M1)) rfl rfl rfl ?_
        have hF9 : FK n f I1 R1 := ⟨hn, hl49, hl16, fun i9 h9 => (hC1 i9 (by omega)).1⟩
        refine pl_call (a := [.ref m0]) (rest := []) rfl rfl rfl (rd_checkFile2 (n := n) (f := f) (tx := tx) (cN := cN) (A := A) (s1 := s1) (s2 := s2) (s3 := s3) hR1 hl20 hl25 hl26 hl9 hl10 hl11 hF9 hY1 hK1 (hs1) (hs2) (hs3)) (fun v1 M2 q3 => ?_)
        rcases q3 with q3 | q3
        · skip
          obtain ⟨I4, R5, q32_s, rfl, hR6, hI7, hX8, hX_9⟩ := q3
          have hi10 := (hI7 49 (by decide)).trans hl49
          have hi11 := (hI7 16 (by decide)).trans hl16
          have hi12 := (hI7 9 (by decide)).trans hl9
          have hi13 := (hI7 10 (by decide)).trans hl10
          have hi14 := (hI7 11 (by decide)).trans hl11
          have hB_15 := hB1.mono (cIx hI7 (by decide)) (cRx hX8 (by decide))
          have hK_16 := hK1.mono (cIx hI7 (by decide)) (cRx hX8 (by decide))
          have hC_17 := hC1.mono (cIx hI7 (by decide)) (cRx hX8 (by decide))
          have hF_18 := hF9.mono (cIx hI7 (by decide)) (cRx hX8 (by decide))
          have hEI19 := hEI1.tr hI7 (by decide)
          have hER20 := hER1.tr hX8 (by decide)
          show pl _ _ _ (35, [(0, .ref m0), (1, .ref (q 14)), (2, .int (nI n)), (3, .int (nI i))], [.int 1], M2) _
          exact ps_ret rfl rfl (Or.inl ⟨I4, R5, q32_s, rfl, hR6, hEI19, hER20, hX_9⟩)
        · skip
          obtain ⟨e921, I22, R23, q32_s, rfl, hR24, hI25, hX26, hi27, hi28⟩ := q3
          have hi29 := (hI25 49 (by decide)).trans hl49
          have hi30 := (hI25 16 (by decide)).trans hl16
          have hi31 := (hI25 9 (by decide)).trans hl9
          have hi32 := (hI25 10 (by decide)).trans hl10
          have hi33 := (hI25 11 (by decide)).trans hl11
          have hB_34 := hB1.mono (cIx hI25 (by decide)) (cRx hX26 (by decide))
          have hK_35 := hK1.mono (cIx hI25 (by decide)) (cRx hX26 (by decide))
          have hC_36 := hC1.mono (cIx hI25 (by decide)) (cRx hX26 (by decide))
          have hF_37 := hF9.mono (cIx hI25 (by decide)) (cRx hX26 (by decide))
          have hEI38 := hEI1.tr hI25 (by decide)
          have hER39 := hER1.tr hX26 (by decide)
          show pl _ _ _ (35, [(0, .ref m0), (1, .ref (q 14)), (2, .int (nI n)), (3, .int (nI i))], [.int 0], M2) _
          exact ps_ret rfl rfl (Or.inr ⟨e921, I22, R23, q32_s, rfl, hR24, hEI38, hER39, hi27, hi28⟩)
      · have c_13 : ¬ ((nI n) ≤ (nI i)) := of_decide_eq_false c_13
        have n_13 : ¬ (n ≤ i) := fun h9 => c_13 ((le_nI (p := n) (n := i) (by omega) (by omega)).mpr h9)
        refine ps_st (S' := (17, [(0, .ref m0), (1, .ref (q 14)), (2, .int (nI n)), (3, .int (nI i))], [.ref m0], M1)) rfl rfl rfl ?_
        refine pr_ref (j := 12) (S' := (20, [(0, .ref m0), (1, .ref (q 14)), (2, .int (nI n)), (3, .int (nI i))], [.ref (q 12)], M1)) rfl hR1 rfl rfl ?_
        refine ps_st (S' := (21, [(0, .ref m0), (1, .ref (q 14)), (2, .int (nI n)), (3, .int (nI i))], [.int (nI i), .ref (q 12)], M1)) rfl rfl rfl ?_
        refine ps_st (S' := (22, [(0, .ref m0), (1, .ref (q 14)), (2, .int (nI n)), (3, .int (nI i))], [.ref (q 14), .int (nI i), .ref (q 12)], M1)) rfl rfl rfl ?_
        refine ps_st (S' := (23, [(0, .ref m0), (1, .ref (q 14)), (2, .int (nI n)), (3, .int (nI i))], [.int (nI i), .ref (q 14), .int (nI i), .ref (q 12)], M1)) rfl rfl rfl ?_
        refine pr_ld (a := 14) (j := i) (y := (f i)) (S' := (24, [(0, .ref m0), (1, .ref (q 14)), (2, .int (nI n)), (3, .int (nI i))], [.int (f i), .int (nI i), .ref (q 12)], M1)) rfl hR1 rfl (by omega) (fun _ => (hB1 i (by omega)).1) rfl (fun i1_23 => ?_)
        refine pr_st (a := 12) (j := i) rfl hR1 rfl (by omega) (fun M40 R41 i1_24 hR42 hS43 => ?_)
        have hB_44 := hB1.mono (fun _ _ => rfl) (rRx hS43 (by decide))
        have hK_45 := hK1.mono (fun _ _ => rfl) (rRx hS43 (by decide))
        have hY_46 := hY1.mono (fun _ _ => rfl) (rRx hS43 (by decide))
        have hER47 := hER1.st hS43 (by decide)
        show pl _ _ _ (25, [(0, .ref m0), (1, .ref (q 14)), (2, .int (nI n)), (3, .int (nI i))], [], M40) _
        have hC_48 : BX 12 (i + 1) f I1 R41 := BX.st hC1 hS43 (hB1 i (by omega)).2 rfl
        refine ps_st (S' := (28, [(3, .int ((nI i) + 1)), (0, .ref m0), (1, .ref (q 14)), (2, .int (nI n))], [], M40)) rfl rfl rfl ?_
        rw [nI_add1 (p := i) (k := 1) (x := 1) rfl (by omega)]
        show pl _ _ _ (_, [(3, .int (nI (i + 1))), (0, .ref m0), (1, .ref (q 14)), (2, .int (nI n))], [], M40) _
        refine ps_st (S' := (11, [(0, .ref m0), (1, .ref (q 14)), (2, .int (nI n)), (3, .int (nI (i + 1)))], [], M40)) rfl rfl rfl ?_
        exact ih (i + 1) (tx) (cN) (A) (s1) (s2) (s3) M40 I1 R41 hR42 hEI1 hER47 hl49 hl16 hl20 hl25 hl26 hl9 hl10 hl11 hB_44 hK_45 hY_46 hC_48 (by omega) (hs1) (hs2) (hs3)
  refine ps_st (S' := (1, [(0, .ref m0), (1, .ref (q 14)), (2, .int (nI n))], [.ref m0], M)) rfl rfl rfl ?_
  refine pl_call (a := [.ref m0]) (rest := []) rfl rfl rfl (rd_clear hR) (fun v49 M50 q51 => ?_)
  obtain ⟨tx52, cN53, A54, s155, s256, s357, I58, R59, q1_s, rfl, hR60, hI61, hX62, hi63, hi64, hi65, hi66, hi67, hi68, hY_69⟩ := q51
  have hi70 := (hI61 49 (by decide)).trans hi49
  have hB_71 := hB.mono (cIx hI61 (by decide)) (cRx hX62 (by decide))
  have hK_72 := hK.mono (cIx hI61 (by decide)) (cRx hX62 (by decide))
  have hEI73 := hEI.tr hI61 (by decide)
  have hER74 := hER.tr hX62 (by decide)
  show pl _ _ _ (4, [(0, .ref m0), (1, .ref (q 14)), (2, .int (nI n))], [], M50) _
  refine ps_st (S' := (5, [(0, .ref m0), (1, .ref (q 14)), (2, .int (nI n))], [.ref m0], M50)) rfl rfl rfl ?_
  refine ps_st (S' := (6, [(0, .ref m0), (1, .ref (q 14)), (2, .int (nI n))], [.int (nI n), .ref m0], M50)) rfl rfl rfl ?_
  refine pr_put (j := 16) rfl hR60 rfl (fun M75 I76 hR77 hi78 hI79 => ?_)
  have hi80 := (hI79 49 (by decide)).trans hi70
  have hi81 := (hI79 9 (by decide)).trans hi63
  have hi82 := (hI79 10 (by decide)).trans hi64
  have hi83 := (hI79 11 (by decide)).trans hi65
  have hi84 := (hI79 20 (by decide)).trans hi66
  have hi85 := (hI79 25 (by decide)).trans hi67
  have hi86 := (hI79 26 (by decide)).trans hi68
  have hB_87 := hB_71.mono (pIx hI79 (by decide)) (fun _ _ => rfl)
  have hK_88 := hK_72.mono (pIx hI79 (by decide)) (fun _ _ => rfl)
  have hY_89 := hY_69.mono (pIx hI79 (by decide)) (fun _ _ => rfl)
  have hEI90 := hEI73.put hI79 (by decide)
  show pl _ _ _ (9, [(0, .ref m0), (1, .ref (q 14)), (2, .int (nI n))], [], M75) _
  refine ps_st (S' := (10, [(0, .ref m0), (1, .ref (q 14)), (2, .int (nI n))], [.int 0], M75)) rfl rfl rfl ?_
  refine ps_st (S' := (11, [(0, .ref m0), (1, .ref (q 14)), (2, .int (nI n)), (3, .int 0)], [], M75)) rfl rfl rfl ?_
  have hC0 : BX 12 0 f I76 R59 := fun i9 h9 => absurd h9 (Nat.not_lt_zero _)
  exact (LL kf) (0) (tx52) (cN53) (A54) (s155) (s256) (s357) M75 I76 R59 hR77 hEI90 hER74 hi80 hi78 hi84 hi85 hi86 hi81 hi82 hi83 hB_87 hK_88 hY_89 hC0 (by omega) (⟨q1_s.1, q1_s.2.1⟩) (⟨q1_s.2.2.1, q1_s.2.2.2.1⟩) (⟨q1_s.2.2.2.2.1, q1_s.2.2.2.2.2⟩)
set_option maxHeartbeats 4000000 in
theorem rd_read2a {g : xe_G} {m0 : Nat} {q : Nat → Nat} {z : Nat × Nat} {I : rI} {R : rR} {M : mi_H} {n : Nat} {f : Nat → Int32} {kn : Int32} (hR : RS g m0 q z I R M) (hi49 : I 49 = some 0) (hi17 : I 17 = some (nI n)) (hi18 : I 18 = some kn) (hB : BX 13 n f I R) (hK : KX I R) (hn : n ≤ 65540) (hk : kn < 0) : pt (mT g) 236 [.ref m0] M (fun v M' => (∃  (I' : rI) (R' : rR), (s_read f n = none) ∧ v = some (.int 0) ∧ RS g m0 q z I' R' M' ∧ eqI [0, 3, 8, 9, 10, 11, 16, 17, 18, 20, 25, 26, 47, 48, 50, 51, 52, 53, 54, 55, 56, 57, 58, 59, 60, 61, 65, 66, 67, 68, 69, 70, 71, 72, 73, 74] I I' ∧ eqR [1, 2, 4, 5, 6, 7, 12, 14, 21, 22, 27, 28, 29, 30, 31, 32, 33, 34, 35, 36, 37, 38, 39, 40, 41, 42, 43, 44, 45, 46] R R' ∧ I' 73 = some (-1) ∧ I' 17 = some (nI 0) ∧ I' 18 = some (nI n) ∧ XKV f n I' R' ∧ BX 14 n f I' R') ∨ (∃ (e9 : Nat × Nat) (I' : rI) (R' : rR), (s_read f n = some e9) ∧ v = some (.int (nI e9.1)) ∧ RS g m0 q z I' R' M' ∧ eqI [0, 3, 8, 9, 10, 11, 16, 17, 18, 20, 25, 26, 47, 48, 50, 51, 52, 53, 54, 55, 56, 57, 58, 59, 60, 61, 65, 66, 67, 68, 69, 70, 71, 72, 73, 74] I I' ∧ eqR [1, 2, 4, 5, 6, 7, 12, 14, 21, 22, 27, 28, 29, 30, 31, 32, 33, 34, 35, 36, 37, 38, 39, 40, 41, 42, 43, 44, 45, 46] R R' ∧ I' 73 = some (nI e9.2) ∧ I' 17 = some (nI 0) ∧ I' 18 = some kn)) := by
  refine pt_in (b := mb_236 g) rfl (fun kf => ?_)
  show pl (mT g) kf (mb_236 g).2 (0, [(0, .ref m0)], [], M) _
  have hEI : eqI [0, 3, 8, 9, 10, 11, 16, 17, 18, 20, 25, 26, 47, 48, 50, 51, 52, 53, 54, 55, 56, 57, 58, 59, 60, 61, 65, 66, 67, 68, 69, 70, 71, 72, 73, 74] I I := eqI.rf
  have hER : eqR [1, 2, 4, 5, 6, 7, 12, 14, 21, 22, 27, 28, 29, 30, 31, 32, 33, 34, 35, 36, 37, 38, 39, 40, 41, 42, 43, 44, 45, 46] R R := eqR.rf
  have LL : ∀ (kf : Nat), (∀ (i : Nat) (M1 : mi_H) (I1 : rI) (R1 : rR), (RS g m0 q z I1 R1 M1) → (eqI [0, 3, 8, 9, 10, 11, 16, 17, 18, 20, 25, 26, 47, 48, 50, 51, 52, 53, 54, 55, 56, 57, 58, 59, 60, 61, 65, 66, 67, 68, 69, 70, 71, 72, 73, 74] I I1) → (eqR [1, 2, 4, 5, 6, 7, 12, 14, 21, 22, 27, 28, 29, 30, 31, 32, 33, 34, 35, 36, 37, 38, 39, 40, 41, 42, 43, 44, 45, 46] R R1) → (I1 17 = some (nI n)) → (I1 73 = some (-1)) → (BX 13 n f I1 R1) → (BX 14 i f I1 R1) → (XKV f n I1 R1) → (i ≤ n) → (s_read f n = none) →  pl (mT g) kf (mb_236 g).2 (53, [(0, .ref m0), (2, .int 0), (3, .int (nI i))], [], M1) (fun v M' => (∃  (I' : rI) (R' : rR), (s_read f n = none) ∧ v = some (.int 0) ∧ RS g m0 q z I' R' M' ∧ eqI [0, 3, 8, 9, 10, 11, 16, 17, 18, 20, 25, 26, 47, 48, 50, 51, 52, 53, 54, 55, 56, 57, 58, 59, 60, 61, 65, 66, 67, 68, 69, 70, 71, 72, 73, 74] I I' ∧ eqR [1, 2, 4, 5, 6, 7, 12, 14, 21, 22, 27, 28, 29, 30, 31, 32, 33, 34, 35, 36, 37, 38, 39, 40, 41, 42, 43, 44, 45, 46] R R' ∧ I' 73 = some (-1) ∧ I' 17 = some (nI 0) ∧ I' 18 = some (nI n) ∧ XKV f n I' R' ∧ BX 14 n f I' R') ∨ (∃ (e9 : Nat × Nat) (I' : rI) (R' : rR), (s_read f n = some e9) ∧ v = some (.int (nI e9.1)) ∧ RS g m0 q z I' R' M' ∧ eqI [0, 3, 8, 9, 10, 11, 16, 17, 18, 20, 25, 26, 47, 48, 50, 51, 52, 53, 54, 55, 56, 57, 58, 59, 60, 61, 65, 66, 67, 68, 69, 70, 71, 72, 73, 74] I I' ∧ eqR [1, 2, 4, 5, 6, 7, 12, 14, 21, 22, 27, 28, 29, 30, 31, 32, 33, 34, 35, 36, 37, 38, 39, 40, 41, 42, 43, 44, 45, 46] R R' ∧ I' 73 = some (nI e9.2) ∧ I' 17 = some (nI 0) ∧ I' 18 = some kn))) := by
    intro kf
    induction kf with
    | zero => exact (by intros; exact pl_0)
    | succ kf ih =>
      intro i M1 I1 R1 hR1 hEI1 hER1 hl17 hl73 hB1 hD1 hX1 hi hr
      refine ps_st1 (S' := (54, [(0, .ref m0), (2, .int 0), (3, .int (nI i))], [.int (nI i)], M1)) rfl rfl rfl ?_
      refine ps_st (S' := (55, [(0, .ref m0), (2, .int 0), (3, .int (nI i))], [.ref m0, .int (nI i)], M1)) rfl rfl rfl ?_
      refine pr_int (j := 17) (S' := (58, [(0, .ref m0), (2, .int 0), (3, .int (nI i))], [.int (nI n), .int (nI i)], M1)) rfl hR1 rfl hl17 rfl ?_
      refine ps_if2 (S1 := (79, [(0, .ref m0), (2, .int 0), (3, .int (nI i))], [], M1)) (S2 := (61, [(0, .ref m0), (2, .int 0), (3, .int (nI i))], [], M1)) rfl rfl rfl (fun c_58 => ?_) (fun c_58 => ?_)
      · have c_58 : (nI n) ≤ (nI i) := of_decide_eq_true c_58
        have n_58 : n ≤ i := (le_nI (p := n) (n := i) (by omega) (by omega)).mp c_58
        refine ps_st (S' := (80, [(0, .ref m0), (2, .int 0), (3, .int (nI i))], [.ref m0], M1)) rfl rfl rfl ?_
        refine ps_st (S' := (81, [(0, .ref m0), (2, .int 0), (3, .int (nI i))], [.ref m0, .ref m0], M1)) rfl rfl rfl ?_
        refine pr_int (j := 17) (S' := (84, [(0, .ref m0), (2, .int 0), (3, .int (nI i))], [.int (nI n), .ref m0], M1)) rfl hR1 rfl hl17 rfl ?_
        refine pr_put (j := 18) rfl hR1 rfl (fun M1 I2 hR3 hi4 hI5 => ?_)
        have hi6 := (hI5 17 (by decide)).trans hl17
        have hi7 := (hI5 73 (by decide)).trans hl73
        have hB_8 := hB1.mono (pIx hI5 (by decide)) (fun _ _ => rfl)
        have hD_9 := hD1.mono (pIx hI5 (by decide)) (fun _ _ => rfl)
        have hX_10 := hX1.mono (pIx hI5 (by decide)) (fun _ _ => rfl)
        have hEI11 := hEI1.put hI5 (by decide)
        show pl _ _ _ (87, [(0, .ref m0), (2, .int 0), (3, .int (nI i))], [], M1) _
        refine ps_st (S' := (110, [(0, .ref m0), (2, .int 0)], [], M1)) rfl rfl rfl ?_
        refine ps_st (S' := (111, [(0, .ref m0), (2, .int 0)], [.ref m0], M1)) rfl rfl rfl ?_
        refine ps_st (S' := (112, [(0, .ref m0), (2, .int 0)], [.int (-1), .ref m0], M1)) rfl rfl rfl ?_
        refine pr_put (j := 74) rfl hR3 rfl (fun M12 I13 hR14 hi15 hI16 => ?_)
        have hi19 := (hI16 17 (by decide)).trans hi6
        have hi20 := (hI16 73 (by decide)).trans hi7
        have hi21 := (hI16 18 (by decide)).trans hi4
        have hB_22 := hB_8.mono (pIx hI16 (by decide)) (fun _ _ => rfl)
        have hD_23 := hD_9.mono (pIx hI16 (by decide)) (fun _ _ => rfl)
        have hX_24 := hX_10.mono (pIx hI16 (by decide)) (fun _ _ => rfl)
        have hEI25 := hEI11.put hI16 (by decide)
        show pl _ _ _ (115, [(0, .ref m0), (2, .int 0)], [], M12) _
        refine ps_st (S' := (116, [(0, .ref m0), (2, .int 0)], [.ref m0], M12)) rfl rfl rfl ?_
        refine ps_st (S' := (117, [(0, .ref m0), (2, .int 0)], [.int 0, .ref m0], M12)) rfl rfl rfl ?_
        refine pr_put (j := 17) rfl hR14 rfl (fun M26 I27 hR28 hi29 hI30 => ?_)
        have hi31 := (hI30 73 (by decide)).trans hi20
        have hi32 := (hI30 18 (by decide)).trans hi21
        have hi33 := (hI30 74 (by decide)).trans hi15
        have hB_34 := hB_22.mono (pIx hI30 (by decide)) (fun _ _ => rfl)
        have hD_35 := hD_23.mono (pIx hI30 (by decide)) (fun _ _ => rfl)
        have hX_36 := hX_24.mono (pIx hI30 (by decide)) (fun _ _ => rfl)
        have hEI37 := hEI25.put hI30 (by decide)
        show pl _ _ _ (120, [(0, .ref m0), (2, .int 0)], [], M26) _
        refine ps_st (S' := (121, [(0, .ref m0), (2, .int 0)], [.int 0], M26)) rfl rfl rfl ?_
        exact ps_ret rfl rfl (Or.inl ⟨I27, R1, hr, rfl, hR28, hEI37, hER1, hi31, hi29, hi32, hX_36, BX.le hD_35 (by omega)⟩)
      · have c_58 : ¬ ((nI n) ≤ (nI i)) := of_decide_eq_false c_58
        have n_58 : ¬ (n ≤ i) := fun h9 => c_58 ((le_nI (p := n) (n := i) (by omega) (by omega)).mpr h9)
        refine ps_st (S' := (62, [(0, .ref m0), (2, .int 0), (3, .int (nI i))], [.ref m0], M1)) rfl rfl rfl ?_
        refine pr_ref (j := 14) (S' := (65, [(0, .ref m0), (2, .int 0), (3, .int (nI i))], [.ref (q 14)], M1)) rfl hR1 rfl rfl ?_
        refine ps_st (S' := (66, [(0, .ref m0), (2, .int 0), (3, .int (nI i))], [.int (nI i), .ref (q 14)], M1)) rfl rfl rfl ?_
        refine ps_st (S' := (67, [(0, .ref m0), (2, .int 0), (3, .int (nI i))], [.ref m0, .int (nI i), .ref (q 14)], M1)) rfl rfl rfl ?_
        refine pr_ref (j := 13) (S' := (70, [(0, .ref m0), (2, .int 0), (3, .int (nI i))], [.ref (q 13), .int (nI i), .ref (q 14)], M1)) rfl hR1 rfl rfl ?_
        refine ps_st (S' := (71, [(0, .ref m0), (2, .int 0), (3, .int (nI i))], [.int (nI i), .ref (q 13), .int (nI i), .ref (q 14)], M1)) rfl rfl rfl ?_
        refine pr_ld (a := 13) (j := i) (y := (f i)) (S' := (72, [(0, .ref m0), (2, .int 0), (3, .int (nI i))], [.int (f i), .int (nI i), .ref (q 14)], M1)) rfl hR1 rfl (by omega) (fun _ => (hB1 i (by omega)).1) rfl (fun i1_71 => ?_)
        refine pr_st (a := 14) (j := i) rfl hR1 rfl (by omega) (fun M38 R39 i1_72 hR40 hS41 => ?_)
        have hB_42 := hB1.mono (fun _ _ => rfl) (rRx hS41 (by decide))
        have hX_43 := hX1.mono (fun _ _ => rfl) (rRx hS41 (by decide))
        have hER44 := hER1.st hS41 (by decide)
        show pl _ _ _ (73, [(0, .ref m0), (2, .int 0), (3, .int (nI i))], [], M38) _
        have hD_45 : BX 14 (i + 1) f I1 R39 := BX.st hD1 hS41 (hB1 i (by omega)).2 rfl
        refine ps_st (S' := (76, [(3, .int ((nI i) + 1)), (0, .ref m0), (2, .int 0)], [], M38)) rfl rfl rfl ?_
        rw [nI_add1 (p := i) (k := 1) (x := 1) rfl (by omega)]
        show pl _ _ _ (_, [(3, .int (nI (i + 1))), (0, .ref m0), (2, .int 0)], [], M38) _
        refine ps_st (S' := (53, [(0, .ref m0), (2, .int 0), (3, .int (nI (i + 1)))], [], M38)) rfl rfl rfl ?_
        exact ih (i + 1) M38 I1 R39 hR40 hEI1 hER44 hl17 hl73 hB_42 hD_45 hX_43 (by omega) (hr)
  refine ps_st (S' := (1, [(0, .ref m0)], [.ref m0], M)) rfl rfl rfl ?_
  refine ps_st (S' := (2, [(0, .ref m0)], [.int 0, .ref m0], M)) rfl rfl rfl ?_
  refine pr_put (j := 0) rfl hR rfl (fun M46 I47 hR48 hi50 hI51 => ?_)
  have hi52 := (hI51 49 (by decide)).trans hi49
  have hi53 := (hI51 17 (by decide)).trans hi17
  have hi54 := (hI51 18 (by decide)).trans hi18
  have hB_55 := hB.mono (pIx hI51 (by decide)) (fun _ _ => rfl)
  have hK_56 := hK.mono (pIx hI51 (by decide)) (fun _ _ => rfl)
  have hEI57 := hEI.put hI51 (by decide)
  show pl _ _ _ (5, [(0, .ref m0)], [], M46) _
  refine ps_st (S' := (6, [(0, .ref m0)], [.ref m0], M46)) rfl rfl rfl ?_
  refine ps_st (S' := (7, [(0, .ref m0)], [.ref m0, .ref m0], M46)) rfl rfl rfl ?_
  refine pr_ref (j := 13) (S' := (10, [(0, .ref m0)], [.ref (q 13), .ref m0], M46)) rfl hR48 rfl rfl ?_
  refine ps_st (S' := (11, [(0, .ref m0)], [.ref m0, .ref (q 13), .ref m0], M46)) rfl rfl rfl ?_
  refine pr_int (j := 17) (S' := (14, [(0, .ref m0)], [.int (nI n), .ref (q 13), .ref m0], M46)) rfl hR48 rfl hi53 rfl ?_
  refine pl_call (a := [.ref m0, .ref (q 13), .int (nI n)]) (rest := []) rfl rfl rfl (rd_parse13b (n := n) (f := f) hR48 hi52 hB_55 hK_56 (hn)) (fun v58 M59 q60 => ?_)
  rcases q60 with q60 | q60
  · skip
    obtain ⟨I61, R62, q14_s, rfl, hR63, hI64, hX65, hX_66⟩ := q60
    have hi67 := (hI64 49 (by decide)).trans hi52
    have hi68 := (hI64 17 (by decide)).trans hi53
    have hi69 := (hI64 18 (by decide)).trans hi54
    have hi70 := (hI64 0 (by decide)).trans hi50
    have hB_71 := hB_55.mono (cIx hI64 (by decide)) (cRx hX65 (by decide))
    have hK_72 := hK_56.mono (cIx hI64 (by decide)) (cRx hX65 (by decide))
    have hEI73 := hEI57.tr hI64 (by decide)
    have hER74 := hER.tr hX65 (by decide)
    show pl _ _ _ (17, [(0, .ref m0)], [.int 1], M59) _
    refine ps_st (S' := (18, [(1, .int 1), (0, .ref m0)], [], M59)) rfl rfl rfl ?_
    refine ps_st (S' := (19, [(1, .int 1), (0, .ref m0)], [.ref m0], M59)) rfl rfl rfl ?_
    refine ps_st (S' := (20, [(1, .int 1), (0, .ref m0)], [.int 1, .ref m0], M59)) rfl rfl rfl ?_
    refine ps_if (S1 := (27, [(1, .int 1), (0, .ref m0)], [.ref m0], M59)) (S2 := (23, [(1, .int 1), (0, .ref m0)], [.ref m0], M59)) rfl rfl rfl (fun c_20 => ?_) (fun c_20 => ?_)
    · exact absurd (of_decide_eq_true c_20) (by decide)
    refine ps_st (S' := (24, [(1, .int 1), (0, .ref m0)], [.int (-1), .ref m0], M59)) rfl rfl rfl ?_
    refine ps_st (S' := (31, [(0, .ref m0), (1, .int 1)], [.int (-1), .ref m0], M59)) rfl rfl rfl ?_
    refine pr_put (j := 73) rfl hR63 rfl (fun M75 I76 hR77 hi78 hI79 => ?_)
    have hi80 := (hI79 49 (by decide)).trans hi67
    have hi81 := (hI79 17 (by decide)).trans hi68
    have hi82 := (hI79 18 (by decide)).trans hi69
    have hi83 := (hI79 0 (by decide)).trans hi70
    have hB_84 := hB_71.mono (pIx hI79 (by decide)) (fun _ _ => rfl)
    have hK_85 := hK_72.mono (pIx hI79 (by decide)) (fun _ _ => rfl)
    have hX_86 := hX_66.mono (pIx hI79 (by decide)) (fun _ _ => rfl)
    have hEI87 := hEI73.put hI79 (by decide)
    show pl _ _ _ (34, [(0, .ref m0), (1, .int 1)], [], M75) _
    refine ps_st (S' := (35, [(0, .ref m0), (1, .int 1)], [.int 1], M75)) rfl rfl rfl ?_
    refine ps_if (S1 := (42, [(0, .ref m0), (1, .int 1)], [], M75)) (S2 := (38, [(0, .ref m0), (1, .int 1)], [], M75)) rfl rfl rfl (fun c_35 => ?_) (fun c_35 => ?_)
    · exact absurd (of_decide_eq_true c_35) (by decide)
    refine ps_st (S' := (39, [(0, .ref m0), (1, .int 1)], [.int 0], M75)) rfl rfl rfl ?_
    refine ps_st (S' := (46, [(0, .ref m0), (1, .int 1)], [.int 0], M75)) rfl rfl rfl ?_
    refine ps_st (S' := (47, [(2, .int 0), (0, .ref m0), (1, .int 1)], [], M75)) rfl rfl rfl ?_
    refine ps_st (S' := (48, [(2, .int 0), (0, .ref m0), (1, .int 1)], [.int 1], M75)) rfl rfl rfl ?_
    refine ps_if (S1 := (90, [(2, .int 0), (0, .ref m0), (1, .int 1)], [], M75)) (S2 := (51, [(2, .int 0), (0, .ref m0), (1, .int 1)], [], M75)) rfl rfl rfl (fun c_48 => ?_) (fun c_48 => ?_)
    · exact absurd (of_decide_eq_true c_48) (by decide)
    refine ps_st (S' := (52, [(2, .int 0), (0, .ref m0), (1, .int 1)], [.int 0], M75)) rfl rfl rfl ?_
    refine ps_st (S' := (53, [(0, .ref m0), (2, .int 0), (3, .int 0)], [], M75)) rfl rfl rfl ?_
    have hD0 : BX 14 0 f I76 R62 := fun i9 h9 => absurd h9 (Nat.not_lt_zero _)
    exact (LL kf) (0) M75 I76 R62 hR77 hEI87 hER74 hi81 hi78 hB_84 hD0 hX_86 (by omega) (q14_s)
  · skip
    obtain ⟨e988, I89, R90, q14_s, rfl, hR91, hI92, hX93, hi94, hi95⟩ := q60
    have hi96 := (hI92 49 (by decide)).trans hi52
    have hi97 := (hI92 17 (by decide)).trans hi53
    have hi98 := (hI92 18 (by decide)).trans hi54
    have hi99 := (hI92 0 (by decide)).trans hi50
    have hB_100 := hB_55.mono (cIx hI92 (by decide)) (cRx hX93 (by decide))
    have hK_101 := hK_56.mono (cIx hI92 (by decide)) (cRx hX93 (by decide))
    have hEI102 := hEI57.tr hI92 (by decide)
    have hER103 := hER.tr hX93 (by decide)
    show pl _ _ _ (17, [(0, .ref m0)], [.int 0], M59) _
    refine ps_st (S' := (18, [(1, .int 0), (0, .ref m0)], [], M59)) rfl rfl rfl ?_
    refine ps_st (S' := (19, [(1, .int 0), (0, .ref m0)], [.ref m0], M59)) rfl rfl rfl ?_
    refine ps_st (S' := (20, [(1, .int 0), (0, .ref m0)], [.int 0, .ref m0], M59)) rfl rfl rfl ?_
    refine ps_if (S1 := (27, [(1, .int 0), (0, .ref m0)], [.ref m0], M59)) (S2 := (23, [(1, .int 0), (0, .ref m0)], [.ref m0], M59)) rfl rfl rfl (fun c_20 => ?_) (fun c_20 => ?_)
    rotate_left
    · exact absurd (by decide) (of_decide_eq_false c_20)
    refine ps_st (S' := (28, [(1, .int 0), (0, .ref m0)], [.ref m0, .ref m0], M59)) rfl rfl rfl ?_
    refine pr_int (j := 48) (S' := (31, [(0, .ref m0), (1, .int 0)], [.int (nI e988.2), .ref m0], M59)) rfl hR91 rfl hi95 rfl ?_
    refine pr_put (j := 73) rfl hR91 rfl (fun M104 I105 hR106 hi107 hI108 => ?_)
    have hi109 := (hI108 49 (by decide)).trans hi96
    have hi110 := (hI108 17 (by decide)).trans hi97
    have hi111 := (hI108 18 (by decide)).trans hi98
    have hi112 := (hI108 0 (by decide)).trans hi99
    have hi113 := (hI108 47 (by decide)).trans hi94
    have hi114 := (hI108 48 (by decide)).trans hi95
    have hB_115 := hB_100.mono (pIx hI108 (by decide)) (fun _ _ => rfl)
    have hK_116 := hK_101.mono (pIx hI108 (by decide)) (fun _ _ => rfl)
    have hEI117 := hEI102.put hI108 (by decide)
    show pl _ _ _ (34, [(0, .ref m0), (1, .int 0)], [], M104) _
    refine ps_st (S' := (35, [(0, .ref m0), (1, .int 0)], [.int 0], M104)) rfl rfl rfl ?_
    refine ps_if (S1 := (42, [(0, .ref m0), (1, .int 0)], [], M104)) (S2 := (38, [(0, .ref m0), (1, .int 0)], [], M104)) rfl rfl rfl (fun c_35 => ?_) (fun c_35 => ?_)
    rotate_left
    · exact absurd (by decide) (of_decide_eq_false c_35)
    refine ps_st (S' := (43, [(0, .ref m0), (1, .int 0)], [.ref m0], M104)) rfl rfl rfl ?_
    refine pr_int (j := 47) (S' := (46, [(0, .ref m0), (1, .int 0)], [.int (nI e988.1)], M104)) rfl hR106 rfl hi113 rfl ?_
    refine ps_st (S' := (47, [(2, .int (nI e988.1)), (0, .ref m0), (1, .int 0)], [], M104)) rfl rfl rfl ?_
    refine ps_st (S' := (48, [(2, .int (nI e988.1)), (0, .ref m0), (1, .int 0)], [.int 0], M104)) rfl rfl rfl ?_
    refine ps_if (S1 := (90, [(2, .int (nI e988.1)), (0, .ref m0), (1, .int 0)], [], M104)) (S2 := (51, [(2, .int (nI e988.1)), (0, .ref m0), (1, .int 0)], [], M104)) rfl rfl rfl (fun c_48 => ?_) (fun c_48 => ?_)
    rotate_left
    · exact absurd (by decide) (of_decide_eq_false c_48)
    refine ps_st (S' := (91, [(2, .int (nI e988.1)), (0, .ref m0), (1, .int 0)], [.ref m0], M104)) rfl rfl rfl ?_
    refine pr_int (j := 18) (S' := (94, [(2, .int (nI e988.1)), (0, .ref m0), (1, .int 0)], [.int kn], M104)) rfl hR106 rfl hi111 rfl ?_
    refine ps_if (S1 := (110, [(0, .ref m0), (2, .int (nI e988.1))], [], M104)) (S2 := (97, [(2, .int (nI e988.1)), (0, .ref m0), (1, .int 0)], [], M104)) rfl rfl rfl (fun c_94 => ?_) (fun c_94 => ?_)
    rotate_left
    · exact absurd (hk) (of_decide_eq_false c_94)
    refine ps_st (S' := (111, [(0, .ref m0), (2, .int (nI e988.1))], [.ref m0], M104)) rfl rfl rfl ?_
    refine ps_st (S' := (112, [(0, .ref m0), (2, .int (nI e988.1))], [.int (-1), .ref m0], M104)) rfl rfl rfl ?_
    refine pr_put (j := 74) rfl hR106 rfl (fun M118 I119 hR120 hi121 hI122 => ?_)
    have hi123 := (hI122 49 (by decide)).trans hi109
    have hi124 := (hI122 17 (by decide)).trans hi110
    have hi125 := (hI122 18 (by decide)).trans hi111
    have hi126 := (hI122 0 (by decide)).trans hi112
    have hi127 := (hI122 47 (by decide)).trans hi113
    have hi128 := (hI122 48 (by decide)).trans hi114
    have hi129 := (hI122 73 (by decide)).trans hi107
    have hB_130 := hB_115.mono (pIx hI122 (by decide)) (fun _ _ => rfl)
    have hK_131 := hK_116.mono (pIx hI122 (by decide)) (fun _ _ => rfl)
    have hEI132 := hEI117.put hI122 (by decide)
    show pl _ _ _ (115, [(0, .ref m0), (2, .int (nI e988.1))], [], M118) _
    refine ps_st (S' := (116, [(0, .ref m0), (2, .int (nI e988.1))], [.ref m0], M118)) rfl rfl rfl ?_
    refine ps_st (S' := (117, [(0, .ref m0), (2, .int (nI e988.1))], [.int 0, .ref m0], M118)) rfl rfl rfl ?_
    refine pr_put (j := 17) rfl hR120 rfl (fun M133 I134 hR135 hi136 hI137 => ?_)
    have hi138 := (hI137 49 (by decide)).trans hi123
    have hi139 := (hI137 18 (by decide)).trans hi125
    have hi140 := (hI137 0 (by decide)).trans hi126
    have hi141 := (hI137 47 (by decide)).trans hi127
    have hi142 := (hI137 48 (by decide)).trans hi128
    have hi143 := (hI137 73 (by decide)).trans hi129
    have hi144 := (hI137 74 (by decide)).trans hi121
    have hB_145 := hB_130.mono (pIx hI137 (by decide)) (fun _ _ => rfl)
    have hK_146 := hK_131.mono (pIx hI137 (by decide)) (fun _ _ => rfl)
    have hEI147 := hEI132.put hI137 (by decide)
    show pl _ _ _ (120, [(0, .ref m0), (2, .int (nI e988.1))], [], M133) _
    refine ps_st (S' := (121, [(0, .ref m0), (2, .int (nI e988.1))], [.int (nI e988.1)], M133)) rfl rfl rfl ?_
    exact ps_reti rfl (Or.inr ⟨e988, I134, R90, q14_s, rfl, hR135, hEI147, hER103, hi143, hi136, hi139⟩)
set_option maxHeartbeats 4000000 in
theorem rd_read2b {g : xe_G} {m0 : Nat} {q : Nat → Nat} {z : Nat × Nat} {I : rI} {R : rR} {M : mi_H} {n : Nat} {f : Nat → Int32} {n2 : Nat} {f2 : Nat → Int32} (hR : RS g m0 q z I R M) (hi49 : I 49 = some 0) (hi17 : I 17 = some (nI n)) (hi18 : I 18 = some (nI n2)) (hB : BX 13 n f I R) (hK : KX I R) (hQ : BX 14 n2 f2 I R) (hn : n ≤ 65540) (hk2 : n2 ≤ 65540) (hr2 : s_read f2 n2 = none) : pt (mT g) 236 [.ref m0] M (fun v M' => (∃  (I' : rI) (R' : rR), (s_read f n = none) ∧ v = some (.int 0) ∧ RS g m0 q z I' R' M' ∧ eqI [0, 3, 8, 9, 10, 11, 16, 17, 18, 20, 25, 26, 47, 48, 50, 51, 52, 53, 54, 55, 56, 57, 58, 59, 60, 61, 65, 66, 67, 68, 69, 70, 71, 72, 73, 74] I I' ∧ eqR [1, 2, 4, 5, 6, 7, 12, 14, 21, 22, 27, 28, 29, 30, 31, 32, 33, 34, 35, 36, 37, 38, 39, 40, 41, 42, 43, 44, 45, 46] R R' ∧ I' 73 = some (-1) ∧ I' 17 = some (nI 0) ∧ I' 18 = some (nI n) ∧ XKV f n I' R' ∧ BX 14 n f I' R') ∨ (∃ (e9 : Nat × Nat) (I' : rI) (R' : rR), (s_read f n = some e9) ∧ v = some (.int (nI e9.1)) ∧ RS g m0 q z I' R' M' ∧ eqI [0, 3, 8, 9, 10, 11, 16, 17, 18, 20, 25, 26, 47, 48, 50, 51, 52, 53, 54, 55, 56, 57, 58, 59, 60, 61, 65, 66, 67, 68, 69, 70, 71, 72, 73, 74] I I' ∧ eqR [1, 2, 4, 5, 6, 7, 12, 14, 21, 22, 27, 28, 29, 30, 31, 32, 33, 34, 35, 36, 37, 38, 39, 40, 41, 42, 43, 44, 45, 46] R R' ∧ I' 73 = some (nI e9.2) ∧ I' 17 = some (nI 0) ∧ I' 18 = some (nI n2) ∧ XKV f2 n2 I' R' ∧ BX 14 n2 f2 I' R')) := by
  refine pt_in (b := mb_236 g) rfl (fun kf => ?_)
  show pl (mT g) kf (mb_236 g).2 (0, [(0, .ref m0)], [], M) _
  have hEI : eqI [0, 3, 8, 9, 10, 11, 16, 17, 18, 20, 25, 26, 47, 48, 50, 51, 52, 53, 54, 55, 56, 57, 58, 59, 60, 61, 65, 66, 67, 68, 69, 70, 71, 72, 73, 74] I I := eqI.rf
  have hER : eqR [1, 2, 4, 5, 6, 7, 12, 14, 21, 22, 27, 28, 29, 30, 31, 32, 33, 34, 35, 36, 37, 38, 39, 40, 41, 42, 43, 44, 45, 46] R R := eqR.rf
  have LL : ∀ (kf : Nat), (∀ (i : Nat) (M1 : mi_H) (I1 : rI) (R1 : rR), (RS g m0 q z I1 R1 M1) → (eqI [0, 3, 8, 9, 10, 11, 16, 17, 18, 20, 25, 26, 47, 48, 50, 51, 52, 53, 54, 55, 56, 57, 58, 59, 60, 61, 65, 66, 67, 68, 69, 70, 71, 72, 73, 74] I I1) → (eqR [1, 2, 4, 5, 6, 7, 12, 14, 21, 22, 27, 28, 29, 30, 31, 32, 33, 34, 35, 36, 37, 38, 39, 40, 41, 42, 43, 44, 45, 46] R R1) → (I1 17 = some (nI n)) → (I1 73 = some (-1)) → (BX 13 n f I1 R1) → (BX 14 i f I1 R1) → (XKV f n I1 R1) → (i ≤ n) → (s_read f n = none) →  pl (mT g) kf (mb_236 g).2 (53, [(0, .ref m0), (2, .int 0), (3, .int (nI i))], [], M1) (fun v M' => (∃  (I' : rI) (R' : rR), (s_read f n = none) ∧ v = some (.int 0) ∧ RS g m0 q z I' R' M' ∧ eqI [0, 3, 8, 9, 10, 11, 16, 17, 18, 20, 25, 26, 47, 48, 50, 51, 52, 53, 54, 55, 56, 57, 58, 59, 60, 61, 65, 66, 67, 68, 69, 70, 71, 72, 73, 74] I I' ∧ eqR [1, 2, 4, 5, 6, 7, 12, 14, 21, 22, 27, 28, 29, 30, 31, 32, 33, 34, 35, 36, 37, 38, 39, 40, 41, 42, 43, 44, 45, 46] R R' ∧ I' 73 = some (-1) ∧ I' 17 = some (nI 0) ∧ I' 18 = some (nI n) ∧ XKV f n I' R' ∧ BX 14 n f I' R') ∨ (∃ (e9 : Nat × Nat) (I' : rI) (R' : rR), (s_read f n = some e9) ∧ v = some (.int (nI e9.1)) ∧ RS g m0 q z I' R' M' ∧ eqI [0, 3, 8, 9, 10, 11, 16, 17, 18, 20, 25, 26, 47, 48, 50, 51, 52, 53, 54, 55, 56, 57, 58, 59, 60, 61, 65, 66, 67, 68, 69, 70, 71, 72, 73, 74] I I' ∧ eqR [1, 2, 4, 5, 6, 7, 12, 14, 21, 22, 27, 28, 29, 30, 31, 32, 33, 34, 35, 36, 37, 38, 39, 40, 41, 42, 43, 44, 45, 46] R R' ∧ I' 73 = some (nI e9.2) ∧ I' 17 = some (nI 0) ∧ I' 18 = some (nI n2) ∧ XKV f2 n2 I' R' ∧ BX 14 n2 f2 I' R'))) := by
    intro kf
    induction kf with
    | zero => exact (by intros; exact pl_0)
    | succ kf ih =>
      intro i M1 I1 R1 hR1 hEI1 hER1 hl17 hl73 hB1 hD1 hX1 hi hr
      refine ps_st1 (S' := (54, [(0, .ref m0), (2, .int 0), (3, .int (nI i))], [.int (nI i)], M1)) rfl rfl rfl ?_
      refine ps_st (S' := (55, [(0, .ref m0), (2, .int 0), (3, .int (nI i))], [.ref m0, .int (nI i)], M1)) rfl rfl rfl ?_
      refine pr_int (j := 17) (S' := (58, [(0, .ref m0), (2, .int 0), (3, .int (nI i))], [.int (nI n), .int (nI i)], M1)) rfl hR1 rfl hl17 rfl ?_
      refine ps_if2 (S1 := (79, [(0, .ref m0), (2, .int 0), (3, .int (nI i))], [], M1)) (S2 := (61, [(0, .ref m0), (2, .int 0), (3, .int (nI i))], [], M1)) rfl rfl rfl (fun c_58 => ?_) (fun c_58 => ?_)
      · have c_58 : (nI n) ≤ (nI i) := of_decide_eq_true c_58
        have n_58 : n ≤ i := (le_nI (p := n) (n := i) (by omega) (by omega)).mp c_58
        refine ps_st (S' := (80, [(0, .ref m0), (2, .int 0), (3, .int (nI i))], [.ref m0], M1)) rfl rfl rfl ?_
        refine ps_st (S' := (81, [(0, .ref m0), (2, .int 0), (3, .int (nI i))], [.ref m0, .ref m0], M1)) rfl rfl rfl ?_
        refine pr_int (j := 17) (S' := (84, [(0, .ref m0), (2, .int 0), (3, .int (nI i))], [.int (nI n), .ref m0], M1)) rfl hR1 rfl hl17 rfl ?_
        refine pr_put (j := 18) rfl hR1 rfl (fun M1 I2 hR3 hi4 hI5 => ?_)
        have hi6 := (hI5 17 (by decide)).trans hl17
        have hi7 := (hI5 73 (by decide)).trans hl73
        have hB_8 := hB1.mono (pIx hI5 (by decide)) (fun _ _ => rfl)
        have hD_9 := hD1.mono (pIx hI5 (by decide)) (fun _ _ => rfl)
        have hX_10 := hX1.mono (pIx hI5 (by decide)) (fun _ _ => rfl)
        have hEI11 := hEI1.put hI5 (by decide)
        show pl _ _ _ (87, [(0, .ref m0), (2, .int 0), (3, .int (nI i))], [], M1) _
        refine ps_st (S' := (110, [(0, .ref m0), (2, .int 0)], [], M1)) rfl rfl rfl ?_
        refine ps_st (S' := (111, [(0, .ref m0), (2, .int 0)], [.ref m0], M1)) rfl rfl rfl ?_
        refine ps_st (S' := (112, [(0, .ref m0), (2, .int 0)], [.int (-1), .ref m0], M1)) rfl rfl rfl ?_
        refine pr_put (j := 74) rfl hR3 rfl (fun M12 I13 hR14 hi15 hI16 => ?_)
        have hi19 := (hI16 17 (by decide)).trans hi6
        have hi20 := (hI16 73 (by decide)).trans hi7
        have hi21 := (hI16 18 (by decide)).trans hi4
        have hB_22 := hB_8.mono (pIx hI16 (by decide)) (fun _ _ => rfl)
        have hD_23 := hD_9.mono (pIx hI16 (by decide)) (fun _ _ => rfl)
        have hX_24 := hX_10.mono (pIx hI16 (by decide)) (fun _ _ => rfl)
        have hEI25 := hEI11.put hI16 (by decide)
        show pl _ _ _ (115, [(0, .ref m0), (2, .int 0)], [], M12) _
        refine ps_st (S' := (116, [(0, .ref m0), (2, .int 0)], [.ref m0], M12)) rfl rfl rfl ?_
        refine ps_st (S' := (117, [(0, .ref m0), (2, .int 0)], [.int 0, .ref m0], M12)) rfl rfl rfl ?_
        refine pr_put (j := 17) rfl hR14 rfl (fun M26 I27 hR28 hi29 hI30 => ?_)
        have hi31 := (hI30 73 (by decide)).trans hi20
        have hi32 := (hI30 18 (by decide)).trans hi21
        have hi33 := (hI30 74 (by decide)).trans hi15
        have hB_34 := hB_22.mono (pIx hI30 (by decide)) (fun _ _ => rfl)
        have hD_35 := hD_23.mono (pIx hI30 (by decide)) (fun _ _ => rfl)
        have hX_36 := hX_24.mono (pIx hI30 (by decide)) (fun _ _ => rfl)
        have hEI37 := hEI25.put hI30 (by decide)
        show pl _ _ _ (120, [(0, .ref m0), (2, .int 0)], [], M26) _
        refine ps_st (S' := (121, [(0, .ref m0), (2, .int 0)], [.int 0], M26)) rfl rfl rfl ?_
        exact ps_ret rfl rfl (Or.inl ⟨I27, R1, hr, rfl, hR28, hEI37, hER1, hi31, hi29, hi32, hX_36, BX.le hD_35 (by omega)⟩)
      · have c_58 : ¬ ((nI n) ≤ (nI i)) := of_decide_eq_false c_58
        have n_58 : ¬ (n ≤ i) := fun h9 => c_58 ((le_nI (p := n) (n := i) (by omega) (by omega)).mpr h9)
        refine ps_st (S' := (62, [(0, .ref m0), (2, .int 0), (3, .int (nI i))], [.ref m0], M1)) rfl rfl rfl ?_
        refine pr_ref (j := 14) (S' := (65, [(0, .ref m0), (2, .int 0), (3, .int (nI i))], [.ref (q 14)], M1)) rfl hR1 rfl rfl ?_
        refine ps_st (S' := (66, [(0, .ref m0), (2, .int 0), (3, .int (nI i))], [.int (nI i), .ref (q 14)], M1)) rfl rfl rfl ?_
        refine ps_st (S' := (67, [(0, .ref m0), (2, .int 0), (3, .int (nI i))], [.ref m0, .int (nI i), .ref (q 14)], M1)) rfl rfl rfl ?_
        refine pr_ref (j := 13) (S' := (70, [(0, .ref m0), (2, .int 0), (3, .int (nI i))], [.ref (q 13), .int (nI i), .ref (q 14)], M1)) rfl hR1 rfl rfl ?_
        refine ps_st (S' := (71, [(0, .ref m0), (2, .int 0), (3, .int (nI i))], [.int (nI i), .ref (q 13), .int (nI i), .ref (q 14)], M1)) rfl rfl rfl ?_
        refine pr_ld (a := 13) (j := i) (y := (f i)) (S' := (72, [(0, .ref m0), (2, .int 0), (3, .int (nI i))], [.int (f i), .int (nI i), .ref (q 14)], M1)) rfl hR1 rfl (by omega) (fun _ => (hB1 i (by omega)).1) rfl (fun i1_71 => ?_)
        refine pr_st (a := 14) (j := i) rfl hR1 rfl (by omega) (fun M38 R39 i1_72 hR40 hS41 => ?_)
        have hB_42 := hB1.mono (fun _ _ => rfl) (rRx hS41 (by decide))
        have hX_43 := hX1.mono (fun _ _ => rfl) (rRx hS41 (by decide))
        have hER44 := hER1.st hS41 (by decide)
        show pl _ _ _ (73, [(0, .ref m0), (2, .int 0), (3, .int (nI i))], [], M38) _
        have hD_45 : BX 14 (i + 1) f I1 R39 := BX.st hD1 hS41 (hB1 i (by omega)).2 rfl
        refine ps_st (S' := (76, [(3, .int ((nI i) + 1)), (0, .ref m0), (2, .int 0)], [], M38)) rfl rfl rfl ?_
        rw [nI_add1 (p := i) (k := 1) (x := 1) rfl (by omega)]
        show pl _ _ _ (_, [(3, .int (nI (i + 1))), (0, .ref m0), (2, .int 0)], [], M38) _
        refine ps_st (S' := (53, [(0, .ref m0), (2, .int 0), (3, .int (nI (i + 1)))], [], M38)) rfl rfl rfl ?_
        exact ih (i + 1) M38 I1 R39 hR40 hEI1 hER44 hl17 hl73 hB_42 hD_45 hX_43 (by omega) (hr)
  refine ps_st (S' := (1, [(0, .ref m0)], [.ref m0], M)) rfl rfl rfl ?_
  refine ps_st (S' := (2, [(0, .ref m0)], [.int 0, .ref m0], M)) rfl rfl rfl ?_
  refine pr_put (j := 0) rfl hR rfl (fun M46 I47 hR48 hi50 hI51 => ?_)
  have hi52 := (hI51 49 (by decide)).trans hi49
  have hi53 := (hI51 17 (by decide)).trans hi17
  have hi54 := (hI51 18 (by decide)).trans hi18
  have hB_55 := hB.mono (pIx hI51 (by decide)) (fun _ _ => rfl)
  have hK_56 := hK.mono (pIx hI51 (by decide)) (fun _ _ => rfl)
  have hQ_57 := hQ.mono (pIx hI51 (by decide)) (fun _ _ => rfl)
  have hEI58 := hEI.put hI51 (by decide)
  show pl _ _ _ (5, [(0, .ref m0)], [], M46) _
  refine ps_st (S' := (6, [(0, .ref m0)], [.ref m0], M46)) rfl rfl rfl ?_
  refine ps_st (S' := (7, [(0, .ref m0)], [.ref m0, .ref m0], M46)) rfl rfl rfl ?_
  refine pr_ref (j := 13) (S' := (10, [(0, .ref m0)], [.ref (q 13), .ref m0], M46)) rfl hR48 rfl rfl ?_
  refine ps_st (S' := (11, [(0, .ref m0)], [.ref m0, .ref (q 13), .ref m0], M46)) rfl rfl rfl ?_
  refine pr_int (j := 17) (S' := (14, [(0, .ref m0)], [.int (nI n), .ref (q 13), .ref m0], M46)) rfl hR48 rfl hi53 rfl ?_
  refine pl_call (a := [.ref m0, .ref (q 13), .int (nI n)]) (rest := []) rfl rfl rfl (rd_parse13b (n := n) (f := f) hR48 hi52 hB_55 hK_56 (hn)) (fun v59 M60 q61 => ?_)
  rcases q61 with q61 | q61
  · skip
    obtain ⟨I62, R63, q14_s, rfl, hR64, hI65, hX66, hX_67⟩ := q61
    have hi68 := (hI65 49 (by decide)).trans hi52
    have hi69 := (hI65 17 (by decide)).trans hi53
    have hi70 := (hI65 18 (by decide)).trans hi54
    have hi71 := (hI65 0 (by decide)).trans hi50
    have hB_72 := hB_55.mono (cIx hI65 (by decide)) (cRx hX66 (by decide))
    have hK_73 := hK_56.mono (cIx hI65 (by decide)) (cRx hX66 (by decide))
    have hQ_74 := hQ_57.mono (cIx hI65 (by decide)) (cRx hX66 (by decide))
    have hEI75 := hEI58.tr hI65 (by decide)
    have hER76 := hER.tr hX66 (by decide)
    show pl _ _ _ (17, [(0, .ref m0)], [.int 1], M60) _
    refine ps_st (S' := (18, [(1, .int 1), (0, .ref m0)], [], M60)) rfl rfl rfl ?_
    refine ps_st (S' := (19, [(1, .int 1), (0, .ref m0)], [.ref m0], M60)) rfl rfl rfl ?_
    refine ps_st (S' := (20, [(1, .int 1), (0, .ref m0)], [.int 1, .ref m0], M60)) rfl rfl rfl ?_
    refine ps_if (S1 := (27, [(1, .int 1), (0, .ref m0)], [.ref m0], M60)) (S2 := (23, [(1, .int 1), (0, .ref m0)], [.ref m0], M60)) rfl rfl rfl (fun c_20 => ?_) (fun c_20 => ?_)
    · exact absurd (of_decide_eq_true c_20) (by decide)
    refine ps_st (S' := (24, [(1, .int 1), (0, .ref m0)], [.int (-1), .ref m0], M60)) rfl rfl rfl ?_
    refine ps_st (S' := (31, [(0, .ref m0), (1, .int 1)], [.int (-1), .ref m0], M60)) rfl rfl rfl ?_
    refine pr_put (j := 73) rfl hR64 rfl (fun M77 I78 hR79 hi80 hI81 => ?_)
    have hi82 := (hI81 49 (by decide)).trans hi68
    have hi83 := (hI81 17 (by decide)).trans hi69
    have hi84 := (hI81 18 (by decide)).trans hi70
    have hi85 := (hI81 0 (by decide)).trans hi71
    have hB_86 := hB_72.mono (pIx hI81 (by decide)) (fun _ _ => rfl)
    have hK_87 := hK_73.mono (pIx hI81 (by decide)) (fun _ _ => rfl)
    have hQ_88 := hQ_74.mono (pIx hI81 (by decide)) (fun _ _ => rfl)
    have hX_89 := hX_67.mono (pIx hI81 (by decide)) (fun _ _ => rfl)
    have hEI90 := hEI75.put hI81 (by decide)
    show pl _ _ _ (34, [(0, .ref m0), (1, .int 1)], [], M77) _
    refine ps_st (S' := (35, [(0, .ref m0), (1, .int 1)], [.int 1], M77)) rfl rfl rfl ?_
    refine ps_if (S1 := (42, [(0, .ref m0), (1, .int 1)], [], M77)) (S2 := (38, [(0, .ref m0), (1, .int 1)], [], M77)) rfl rfl rfl (fun c_35 => ?_) (fun c_35 => ?_)
    · exact absurd (of_decide_eq_true c_35) (by decide)
    refine ps_st (S' := (39, [(0, .ref m0), (1, .int 1)], [.int 0], M77)) rfl rfl rfl ?_
    refine ps_st (S' := (46, [(0, .ref m0), (1, .int 1)], [.int 0], M77)) rfl rfl rfl ?_
    refine ps_st (S' := (47, [(2, .int 0), (0, .ref m0), (1, .int 1)], [], M77)) rfl rfl rfl ?_
    refine ps_st (S' := (48, [(2, .int 0), (0, .ref m0), (1, .int 1)], [.int 1], M77)) rfl rfl rfl ?_
    refine ps_if (S1 := (90, [(2, .int 0), (0, .ref m0), (1, .int 1)], [], M77)) (S2 := (51, [(2, .int 0), (0, .ref m0), (1, .int 1)], [], M77)) rfl rfl rfl (fun c_48 => ?_) (fun c_48 => ?_)
    · exact absurd (of_decide_eq_true c_48) (by decide)
    refine ps_st (S' := (52, [(2, .int 0), (0, .ref m0), (1, .int 1)], [.int 0], M77)) rfl rfl rfl ?_
    refine ps_st (S' := (53, [(0, .ref m0), (2, .int 0), (3, .int 0)], [], M77)) rfl rfl rfl ?_
    have hD0 : BX 14 0 f I78 R63 := fun i9 h9 => absurd h9 (Nat.not_lt_zero _)
    exact (LL kf) (0) M77 I78 R63 hR79 hEI90 hER76 hi83 hi80 hB_86 hD0 hX_89 (by omega) (q14_s)
  · skip
    obtain ⟨e991, I92, R93, q14_s, rfl, hR94, hI95, hX96, hi97, hi98⟩ := q61
    have hi99 := (hI95 49 (by decide)).trans hi52
    have hi100 := (hI95 17 (by decide)).trans hi53
    have hi101 := (hI95 18 (by decide)).trans hi54
    have hi102 := (hI95 0 (by decide)).trans hi50
    have hB_103 := hB_55.mono (cIx hI95 (by decide)) (cRx hX96 (by decide))
    have hK_104 := hK_56.mono (cIx hI95 (by decide)) (cRx hX96 (by decide))
    have hQ_105 := hQ_57.mono (cIx hI95 (by decide)) (cRx hX96 (by decide))
    have hEI106 := hEI58.tr hI95 (by decide)
    have hER107 := hER.tr hX96 (by decide)
    show pl _ _ _ (17, [(0, .ref m0)], [.int 0], M60) _
    refine ps_st (S' := (18, [(1, .int 0), (0, .ref m0)], [], M60)) rfl rfl rfl ?_
    refine ps_st (S' := (19, [(1, .int 0), (0, .ref m0)], [.ref m0], M60)) rfl rfl rfl ?_
    refine ps_st (S' := (20, [(1, .int 0), (0, .ref m0)], [.int 0, .ref m0], M60)) rfl rfl rfl ?_
    refine ps_if (S1 := (27, [(1, .int 0), (0, .ref m0)], [.ref m0], M60)) (S2 := (23, [(1, .int 0), (0, .ref m0)], [.ref m0], M60)) rfl rfl rfl (fun c_20 => ?_) (fun c_20 => ?_)
    rotate_left
    · exact absurd (by decide) (of_decide_eq_false c_20)
    refine ps_st (S' := (28, [(1, .int 0), (0, .ref m0)], [.ref m0, .ref m0], M60)) rfl rfl rfl ?_
    refine pr_int (j := 48) (S' := (31, [(0, .ref m0), (1, .int 0)], [.int (nI e991.2), .ref m0], M60)) rfl hR94 rfl hi98 rfl ?_
    refine pr_put (j := 73) rfl hR94 rfl (fun M108 I109 hR110 hi111 hI112 => ?_)
    have hi113 := (hI112 49 (by decide)).trans hi99
    have hi114 := (hI112 17 (by decide)).trans hi100
    have hi115 := (hI112 18 (by decide)).trans hi101
    have hi116 := (hI112 0 (by decide)).trans hi102
    have hi117 := (hI112 47 (by decide)).trans hi97
    have hi118 := (hI112 48 (by decide)).trans hi98
    have hB_119 := hB_103.mono (pIx hI112 (by decide)) (fun _ _ => rfl)
    have hK_120 := hK_104.mono (pIx hI112 (by decide)) (fun _ _ => rfl)
    have hQ_121 := hQ_105.mono (pIx hI112 (by decide)) (fun _ _ => rfl)
    have hEI122 := hEI106.put hI112 (by decide)
    show pl _ _ _ (34, [(0, .ref m0), (1, .int 0)], [], M108) _
    refine ps_st (S' := (35, [(0, .ref m0), (1, .int 0)], [.int 0], M108)) rfl rfl rfl ?_
    refine ps_if (S1 := (42, [(0, .ref m0), (1, .int 0)], [], M108)) (S2 := (38, [(0, .ref m0), (1, .int 0)], [], M108)) rfl rfl rfl (fun c_35 => ?_) (fun c_35 => ?_)
    rotate_left
    · exact absurd (by decide) (of_decide_eq_false c_35)
    refine ps_st (S' := (43, [(0, .ref m0), (1, .int 0)], [.ref m0], M108)) rfl rfl rfl ?_
    refine pr_int (j := 47) (S' := (46, [(0, .ref m0), (1, .int 0)], [.int (nI e991.1)], M108)) rfl hR110 rfl hi117 rfl ?_
    refine ps_st (S' := (47, [(2, .int (nI e991.1)), (0, .ref m0), (1, .int 0)], [], M108)) rfl rfl rfl ?_
    refine ps_st (S' := (48, [(2, .int (nI e991.1)), (0, .ref m0), (1, .int 0)], [.int 0], M108)) rfl rfl rfl ?_
    refine ps_if (S1 := (90, [(2, .int (nI e991.1)), (0, .ref m0), (1, .int 0)], [], M108)) (S2 := (51, [(2, .int (nI e991.1)), (0, .ref m0), (1, .int 0)], [], M108)) rfl rfl rfl (fun c_48 => ?_) (fun c_48 => ?_)
    rotate_left
    · exact absurd (by decide) (of_decide_eq_false c_48)
    refine ps_st (S' := (91, [(2, .int (nI e991.1)), (0, .ref m0), (1, .int 0)], [.ref m0], M108)) rfl rfl rfl ?_
    refine pr_int (j := 18) (S' := (94, [(2, .int (nI e991.1)), (0, .ref m0), (1, .int 0)], [.int (nI n2)], M108)) rfl hR110 rfl hi115 rfl ?_
    refine ps_if (S1 := (110, [(0, .ref m0), (2, .int (nI e991.1))], [], M108)) (S2 := (97, [(2, .int (nI e991.1)), (0, .ref m0), (1, .int 0)], [], M108)) rfl rfl rfl (fun c_94 => ?_) (fun c_94 => ?_)
    · exact absurd (of_decide_eq_true c_94) (show ¬ ((nI n2) < 0) from fun h9 => absurd ((lt_nI (p := n2) (n := 0) (by omega) (by decide)).mp h9) (by omega))
    refine ps_st (S' := (98, [(2, .int (nI e991.1)), (0, .ref m0), (1, .int 0)], [.ref m0], M108)) rfl rfl rfl ?_
    refine ps_st (S' := (99, [(2, .int (nI e991.1)), (0, .ref m0), (1, .int 0)], [.ref m0, .ref m0], M108)) rfl rfl rfl ?_
    refine pr_ref (j := 14) (S' := (102, [(2, .int (nI e991.1)), (0, .ref m0), (1, .int 0)], [.ref (q 14), .ref m0], M108)) rfl hR110 rfl rfl ?_
    refine ps_st (S' := (103, [(2, .int (nI e991.1)), (0, .ref m0), (1, .int 0)], [.ref m0, .ref (q 14), .ref m0], M108)) rfl rfl rfl ?_
    refine pr_int (j := 18) (S' := (106, [(2, .int (nI e991.1)), (0, .ref m0), (1, .int 0)], [.int (nI n2), .ref (q 14), .ref m0], M108)) rfl hR110 rfl hi115 rfl ?_
    refine pl_call (a := [.ref m0, .ref (q 14), .int (nI n2)]) (rest := []) rfl rfl rfl (rd_parse14b (n := n2) (f := f2) hR110 hi113 hQ_121 hK_120 (hk2)) (fun v123 M124 q125 => ?_)
    rcases q125 with q125 | q125
    · skip
      obtain ⟨I126, R127, q106_s, rfl, hR128, hI129, hX130, hX_131⟩ := q125
      have hi132 := (hI129 49 (by decide)).trans hi113
      have hi133 := (hI129 17 (by decide)).trans hi114
      have hi134 := (hI129 18 (by decide)).trans hi115
      have hi135 := (hI129 0 (by decide)).trans hi116
      have hi136 := (hI129 73 (by decide)).trans hi111
      have hB_137 := hB_119.mono (cIx hI129 (by decide)) (cRx hX130 (by decide))
      have hK_138 := hK_120.mono (cIx hI129 (by decide)) (cRx hX130 (by decide))
      have hQ_139 := hQ_121.mono (cIx hI129 (by decide)) (cRx hX130 (by decide))
      have hEI140 := hEI122.tr hI129 (by decide)
      have hER141 := hER107.tr hX130 (by decide)
      show pl _ _ _ (109, [(2, .int (nI e991.1)), (0, .ref m0), (1, .int 0)], [.int 1], M124) _
      refine ps_st (S' := (110, [(0, .ref m0), (2, .int (nI e991.1))], [], M124)) rfl rfl rfl ?_
      refine ps_st (S' := (111, [(0, .ref m0), (2, .int (nI e991.1))], [.ref m0], M124)) rfl rfl rfl ?_
      refine ps_st (S' := (112, [(0, .ref m0), (2, .int (nI e991.1))], [.int (-1), .ref m0], M124)) rfl rfl rfl ?_
      refine pr_put (j := 74) rfl hR128 rfl (fun M142 I143 hR144 hi145 hI146 => ?_)
      have hi147 := (hI146 49 (by decide)).trans hi132
      have hi148 := (hI146 17 (by decide)).trans hi133
      have hi149 := (hI146 18 (by decide)).trans hi134
      have hi150 := (hI146 0 (by decide)).trans hi135
      have hi151 := (hI146 73 (by decide)).trans hi136
      have hB_152 := hB_137.mono (pIx hI146 (by decide)) (fun _ _ => rfl)
      have hK_153 := hK_138.mono (pIx hI146 (by decide)) (fun _ _ => rfl)
      have hQ_154 := hQ_139.mono (pIx hI146 (by decide)) (fun _ _ => rfl)
      have hX_155 := hX_131.mono (pIx hI146 (by decide)) (fun _ _ => rfl)
      have hEI156 := hEI140.put hI146 (by decide)
      show pl _ _ _ (115, [(0, .ref m0), (2, .int (nI e991.1))], [], M142) _
      refine ps_st (S' := (116, [(0, .ref m0), (2, .int (nI e991.1))], [.ref m0], M142)) rfl rfl rfl ?_
      refine ps_st (S' := (117, [(0, .ref m0), (2, .int (nI e991.1))], [.int 0, .ref m0], M142)) rfl rfl rfl ?_
      refine pr_put (j := 17) rfl hR144 rfl (fun M157 I158 hR159 hi160 hI161 => ?_)
      have hi162 := (hI161 49 (by decide)).trans hi147
      have hi163 := (hI161 18 (by decide)).trans hi149
      have hi164 := (hI161 0 (by decide)).trans hi150
      have hi165 := (hI161 73 (by decide)).trans hi151
      have hi166 := (hI161 74 (by decide)).trans hi145
      have hB_167 := hB_152.mono (pIx hI161 (by decide)) (fun _ _ => rfl)
      have hK_168 := hK_153.mono (pIx hI161 (by decide)) (fun _ _ => rfl)
      have hQ_169 := hQ_154.mono (pIx hI161 (by decide)) (fun _ _ => rfl)
      have hX_170 := hX_155.mono (pIx hI161 (by decide)) (fun _ _ => rfl)
      have hEI171 := hEI156.put hI161 (by decide)
      show pl _ _ _ (120, [(0, .ref m0), (2, .int (nI e991.1))], [], M157) _
      refine ps_st (S' := (121, [(0, .ref m0), (2, .int (nI e991.1))], [.int (nI e991.1)], M157)) rfl rfl rfl ?_
      exact ps_reti rfl (Or.inr ⟨e991, I158, R127, q14_s, rfl, hR159, hEI171, hER141, hi165, hi160, hi163, hX_170, hQ_169⟩)
    · skip
      obtain ⟨e9172, I173, R174, q106_s, rfl, hR175, hI176, hX177, hi178, hi179⟩ := q125
      have hi180 := (hI176 49 (by decide)).trans hi113
      have hi181 := (hI176 17 (by decide)).trans hi114
      have hi182 := (hI176 18 (by decide)).trans hi115
      have hi183 := (hI176 0 (by decide)).trans hi116
      have hi184 := (hI176 73 (by decide)).trans hi111
      have hB_185 := hB_119.mono (cIx hI176 (by decide)) (cRx hX177 (by decide))
      have hK_186 := hK_120.mono (cIx hI176 (by decide)) (cRx hX177 (by decide))
      have hQ_187 := hQ_121.mono (cIx hI176 (by decide)) (cRx hX177 (by decide))
      have hEI188 := hEI122.tr hI176 (by decide)
      have hER189 := hER107.tr hX177 (by decide)
      show pl _ _ _ (109, [(2, .int (nI e991.1)), (0, .ref m0), (1, .int 0)], [.int 0], M124) _
      exact absurd (hr2.symm.trans q106_s) (fun h9 => by cases h9)
end
section
/-! an entry of the pool, as both sides tell it (my own text) -/
section ENA
variable {f : Nat → Int32} {n : Nat} {E : List (Nat × Nat)} {k mj : Nat}
/-- part 0 of entry j is its tag, 1 and 2 its indexes -/
def enN (f : Nat → Int32) (E : List (Nat × Nat)) (j p : Nat) : Nat := if p = 0 then tg f E j else if p = 1 then fi f E j else se f E j
def enI (f : Nat → Int32) (E : List (Nat × Nat)) (N : Nat) (k p : Int32) : Int32 := if k < 0 ∨ nI N ≤ k then -1 else nI (enN f E k.toNatClampNeg p.toNatClampNeg)
/-- what is kept tells it -/
def enK (ko : Option (Nat × (Nat → Int32))) (k p : Int32) : Int32 := match ko with
  | none => -1
  | some r => match s_whole r.2 r.1 with
    | .inl _ => -1
    | .inr y => enI r.2 y.1 (by2 r.2 8) k p
theorem enK_is {r : Nat × (Nat → Int32)} {k p : Int32} {y : Nat × Nat × Nat × Nat} (h : s_whole r.2 r.1 = .inr (E, y)) : enK (some r) k p = enI r.2 E (by2 r.2 8) k p := by
  show (match s_whole r.2 r.1 with | .inl _ => -1 | .inr y => enI r.2 y.1 (by2 r.2 8) k p) = _
  rw [h]
theorem i32_3 {p : Int32} (h0 : ¬ p < 0) (h1 : p ≤ 2) : p = 0 ∨ p = 1 ∨ p = 2 := by
  have a := Int32.le_iff_toInt_le.mp (Int32.not_lt.mp h0)
  have b := Int32.le_iff_toInt_le.mp h1
  have e0 : (0 : Int32).toInt = 0 := rfl
  have e1 : (1 : Int32).toInt = 1 := rfl
  have e2 : (2 : Int32).toInt = 2 := rfl
  rcases (show p.toInt = 0 ∨ p.toInt = 1 ∨ p.toInt = 2 by omega) with h | h | h
  · exact Or.inl (Int32.toInt_inj.mp (by omega))
  · exact Or.inr (Or.inl (Int32.toInt_inj.mp (by omega)))
  · exact Or.inr (Or.inr (Int32.toInt_inj.mp (by omega)))
/-- a number that isn't below 0 -/
theorem i32_nn {k : Int32} (h : ¬ k < 0) : k = nI k.toNatClampNeg := (mi_nI h).symm
theorem i32_in {N : Nat} {k : Int32} (hN : N < 65536) (h : ¬ (k < 0 ∨ nI N ≤ k)) : k = nI k.toNatClampNeg ∧ k.toNatClampNeg < N := by
  have h0 : ¬ k < 0 := fun q => h (Or.inl q)
  have e := i32_nn h0
  refine ⟨e, ?_⟩
  have h1 := Int32.lt_iff_toInt_lt.mp (Int32.not_le.mp (fun q => h (Or.inr q)))
  rw [nI_val (by omega)] at h1
  have h2 := Int32.le_iff_toInt_le.mp (Int32.not_lt.mp h0)
  have e0 : (0 : Int32).toInt = 0 := rfl
  show k.toInt.toNat < N
  omega
theorem tgs_of {mj p' : Nat} (h : s_pool f n mj = .inr (p', E)) : ∀ q ∈ E, tgOk mj (by1 f q.2) := by
  have key : ∀ {r k p p' : Nat} {E0 E : List (Nat × Nat)} {N : Nat}, (∀ q ∈ E0, tgOk mj (by1 f q.2)) → s_ents f n mj N r k p E0 = .inr (p', E) → ∀ q ∈ E, tgOk mj (by1 f q.2) := by
    intro r
    induction r with
    | zero => intro k p p' E0 E N h0 h; cases h; exact h0
    | succ r ih =>
      intro k p p' E0 E N h0 h
      unfold s_ents at h
      split at h
      · cases h; exact h0
      · cases he : s_entry f n mj N k p with
        | inl e => rw [he] at h; cases h
        | inr y =>
          obtain ⟨p2, x⟩ := y
          rw [he] at h
          refine ih ?_ h
          intro q hq
          rcases List.mem_append.mp hq with hq | hq
          · exact h0 q hq
          · have e : q = (k, p) := by simpa using hq
            rw [e]
            unfold s_entry at he
            split at he
            · cases he
            · split at he
              · cases he
              · rename_i hT
                exact Decidable.not_not.mp hT
  unfold s_pool at h
  split at h
  · cases h
  · split at h
    · cases h
    · exact key (fun q hq => by cases hq) h
theorem tg_ok {mj p' : Nat} (h : s_pool f n mj = .inr (p', E)) : tg f E k = 0 ∨ tgOk mj (tg f E k) := by
  unfold tg
  cases hk : lk E k with
  | none => exact Or.inl rfl
  | some p => exact Or.inr (tgs_of h _ (lk_in hk))
theorem ix_7 (h : tg f E k < 7) : fi f E k = 0 ∧ se f E k = 0 := by
  unfold tg at h
  unfold fi se
  cases hk : lk E k with
  | none => exact ⟨rfl, rfl⟩
  | some p =>
    rw [hk] at h
    dsimp only at h ⊢
    unfold ixa ixb
    rw [if_pos h, if_pos h]
    exact ⟨rfl, rfl⟩
theorem se_1 (h : tg f E k = 7 ∨ tg f E k = 8 ∨ tg f E k = 16 ∨ tg f E k = 19 ∨ tg f E k = 20) : se f E k = 0 := by
  unfold tg at h
  unfold se
  cases hk : lk E k with
  | none => rfl
  | some p =>
    rw [hk] at h
    dsimp only at h ⊢
    unfold ixb
    rw [if_neg (by omega), if_neg (by omega), if_pos (by omega)]
end ENA
set_option maxHeartbeats 1000000 in
theorem dk_entry0 {g : xe_G} {M : mi_H} {o ca fl : Nat} {cn wp k p : Int32} (h_o : M.1 o = some (ob 11 [.ref ca, .int cn, .ref fl, .null, .int wp])) (hp0 : ¬ p < 0) (hp1 : p ≤ 2) : pt (mT g) 8 [.ref o, .int k, .int p] M (fun v M' => (v = some (.int (-1)) ∧ M = M')) := by
  refine pt_in (b := mb_8 g) rfl (fun kf => ?_)
  show pl (mT g) kf (mb_8 g).2 (0, [(0, .ref o), (1, .int k), (2, .int p)], [], M) _
  refine ps_st (S' := (1, [(0, .ref o), (1, .int k), (2, .int p)], [.int p], M)) rfl rfl rfl ?_
  refine ps_if (S1 := (9, [(0, .ref o), (1, .int k), (2, .int p)], [], M)) (S2 := (4, [(0, .ref o), (1, .int k), (2, .int p)], [], M)) rfl rfl rfl (fun c_1 => ?_) (fun c_1 => ?_)
  · exact absurd (of_decide_eq_true c_1) (hp0)
  refine ps_st (S' := (5, [(0, .ref o), (1, .int k), (2, .int p)], [.int p], M)) rfl rfl rfl ?_
  refine ps_st (S' := (6, [(0, .ref o), (1, .int k), (2, .int p)], [.int 2, .int p], M)) rfl rfl rfl ?_
  refine ps_if2 (S1 := (19, [(0, .ref o), (1, .int k), (2, .int p)], [], M)) (S2 := (9, [(0, .ref o), (1, .int k), (2, .int p)], [], M)) rfl rfl rfl (fun c_6 => ?_) (fun c_6 => ?_)
  rotate_left
  · exact absurd (hp1) (of_decide_eq_false c_6)
  refine ps_st (S' := (20, [(0, .ref o), (1, .int k), (2, .int p)], [.ref o], M)) rfl rfl rfl ?_
  refine ps_get (S' := (23, [(0, .ref o), (1, .int k), (2, .int p)], [.null], M)) rfl h_o rfl rfl ?_
  refine ps_st (S' := (44, [], [], M)) rfl rfl rfl ?_
  refine ps_st (S' := (45, [], [.int (-1)], M)) rfl rfl rfl ?_
  exact ps_ret rfl rfl (⟨rfl, rfl⟩)
set_option maxHeartbeats 1000000 in
theorem dk_entryN {g : xe_G} {M : mi_H} {f : Nat → Int32} {n N q : Nat} {E : List (Nat × Nat)} {o ca fl c b : Nat} {cn wp : Int32} {w : List Value} {k p : Int32} (h_o : M.1 o = some (ob 11 [.ref ca, .int cn, .ref fl, .ref c, .int wp])) (h_c : M.1 c = some (ob 3 (.ref b :: .ref q :: w))) (hp0 : ¬ p < 0) (hp1 : p ≤ 2) (hV : PV g f n N E q M) (hk : k < 0 ∨ nI N ≤ k) : pt (mT g) 8 [.ref o, .int k, .int p] M (fun v M' => (v = some (.int (-1)) ∧ M = M')) := by
  refine pt_in (b := mb_8 g) rfl (fun kf => ?_)
  show pl (mT g) kf (mb_8 g).2 (0, [(0, .ref o), (1, .int k), (2, .int p)], [], M) _
  obtain ⟨hL9, H, m, qq, F, cc, hP9, -, -, hb9, -⟩ := id hV
  have h_q := hP9.1
  have hN9 := hb9.2.2.1
  refine ps_st (S' := (1, [(0, .ref o), (1, .int k), (2, .int p)], [.int p], M)) rfl rfl rfl ?_
  refine ps_if (S1 := (9, [(0, .ref o), (1, .int k), (2, .int p)], [], M)) (S2 := (4, [(0, .ref o), (1, .int k), (2, .int p)], [], M)) rfl rfl rfl (fun c_1 => ?_) (fun c_1 => ?_)
  · exact absurd (of_decide_eq_true c_1) (hp0)
  refine ps_st (S' := (5, [(0, .ref o), (1, .int k), (2, .int p)], [.int p], M)) rfl rfl rfl ?_
  refine ps_st (S' := (6, [(0, .ref o), (1, .int k), (2, .int p)], [.int 2, .int p], M)) rfl rfl rfl ?_
  refine ps_if2 (S1 := (19, [(0, .ref o), (1, .int k), (2, .int p)], [], M)) (S2 := (9, [(0, .ref o), (1, .int k), (2, .int p)], [], M)) rfl rfl rfl (fun c_6 => ?_) (fun c_6 => ?_)
  rotate_left
  · exact absurd (hp1) (of_decide_eq_false c_6)
  refine ps_st (S' := (20, [(0, .ref o), (1, .int k), (2, .int p)], [.ref o], M)) rfl rfl rfl ?_
  refine ps_get (S' := (23, [(0, .ref o), (1, .int k), (2, .int p)], [.ref c], M)) rfl h_o rfl rfl ?_
  refine ps_st (S' := (26, [(0, .ref o), (1, .int k), (2, .int p)], [], M)) rfl rfl rfl ?_
  refine ps_st (S' := (27, [(0, .ref o), (1, .int k), (2, .int p)], [.int k], M)) rfl rfl rfl ?_
  refine ps_if (S1 := (44, [], [], M)) (S2 := (30, [(0, .ref o), (1, .int k), (2, .int p)], [], M)) rfl rfl rfl (fun c_27 => ?_) (fun c_27 => ?_)
  · have c_27 : k < 0 := of_decide_eq_true c_27
    refine ps_st (S' := (45, [], [.int (-1)], M)) rfl rfl rfl ?_
    exact ps_ret rfl rfl (⟨rfl, rfl⟩)
  · have c_27 : ¬ (k < 0) := of_decide_eq_false c_27
    refine ps_st (S' := (31, [(0, .ref o), (1, .int k), (2, .int p)], [.int k], M)) rfl rfl rfl ?_
    refine ps_st (S' := (32, [(0, .ref o), (1, .int k), (2, .int p)], [.ref o, .int k], M)) rfl rfl rfl ?_
    refine ps_get (S' := (35, [(0, .ref o), (1, .int k), (2, .int p)], [.ref c, .int k], M)) rfl h_o rfl rfl ?_
    refine ps_get (S' := (38, [(0, .ref o), (1, .int k), (2, .int p)], [.ref q, .int k], M)) rfl h_c rfl rfl ?_
    refine ps_get (S' := (41, [(0, .ref o), (1, .int k), (2, .int p)], [.int (nI N), .int k], M)) rfl h_q rfl rfl ?_
    refine ps_if2 (S1 := (46, [(0, .ref o), (1, .int k), (2, .int p)], [], M)) (S2 := (44, [], [], M)) rfl rfl rfl (fun c_41 => ?_) (fun c_41 => ?_)
    · exact absurd (of_decide_eq_true c_41) (Int32.not_lt.mpr (hk.resolve_left c_27))
    refine ps_st (S' := (45, [], [.int (-1)], M)) rfl rfl rfl ?_
    exact ps_ret rfl rfl (⟨rfl, rfl⟩)
set_option maxHeartbeats 1000000 in
theorem dk_entry_0 {g : xe_G} {M : mi_H} {f : Nat → Int32} {n N q : Nat} {E : List (Nat × Nat)} {o ca fl c b : Nat} {cn wp : Int32} {w : List Value} {j : Nat} (h_o : M.1 o = some (ob 11 [.ref ca, .int cn, .ref fl, .ref c, .int wp])) (h_c : M.1 c = some (ob 3 (.ref b :: .ref q :: w))) (hV : PV g f n N E q M) (hj : j < N) : pt (mT g) 8 [.ref o, .int (nI j), .int 0] M (fun v M' => (v = some (.int (nI (tg f E j))) ∧ M = M')) := by
  refine pt_in (b := mb_8 g) rfl (fun kf => ?_)
  show pl (mT g) kf (mb_8 g).2 (0, [(0, .ref o), (1, .int (nI j)), (2, .int 0)], [], M) _
  obtain ⟨hL9, H, m, qq, F, cc, hP9, -, -, hb9, -⟩ := id hV
  have h_q := hP9.1
  have hN9 := hb9.2.2.1
  refine ps_st (S' := (1, [(0, .ref o), (1, .int (nI j)), (2, .int 0)], [.int 0], M)) rfl rfl rfl ?_
  refine ps_if (S1 := (9, [(0, .ref o), (1, .int (nI j)), (2, .int 0)], [], M)) (S2 := (4, [(0, .ref o), (1, .int (nI j)), (2, .int 0)], [], M)) rfl rfl rfl (fun c_1 => ?_) (fun c_1 => ?_)
  · exact absurd (of_decide_eq_true c_1) (by decide)
  refine ps_st (S' := (5, [(0, .ref o), (1, .int (nI j)), (2, .int 0)], [.int 0], M)) rfl rfl rfl ?_
  refine ps_st (S' := (6, [(0, .ref o), (1, .int (nI j)), (2, .int 0)], [.int 2, .int 0], M)) rfl rfl rfl ?_
  refine ps_if2 (S1 := (19, [(0, .ref o), (1, .int (nI j)), (2, .int 0)], [], M)) (S2 := (9, [(0, .ref o), (1, .int (nI j)), (2, .int 0)], [], M)) rfl rfl rfl (fun c_6 => ?_) (fun c_6 => ?_)
  rotate_left
  · exact absurd (by decide) (of_decide_eq_false c_6)
  refine ps_st (S' := (20, [(0, .ref o), (1, .int (nI j)), (2, .int 0)], [.ref o], M)) rfl rfl rfl ?_
  refine ps_get (S' := (23, [(0, .ref o), (1, .int (nI j)), (2, .int 0)], [.ref c], M)) rfl h_o rfl rfl ?_
  refine ps_st (S' := (26, [(0, .ref o), (1, .int (nI j)), (2, .int 0)], [], M)) rfl rfl rfl ?_
  refine ps_st (S' := (27, [(0, .ref o), (1, .int (nI j)), (2, .int 0)], [.int (nI j)], M)) rfl rfl rfl ?_
  refine ps_if (S1 := (44, [], [], M)) (S2 := (30, [(0, .ref o), (1, .int (nI j)), (2, .int 0)], [], M)) rfl rfl rfl (fun c_27 => ?_) (fun c_27 => ?_)
  · exact absurd (of_decide_eq_true c_27) (show ¬ ((nI j) < 0) from fun h9 => absurd ((lt_nI (p := j) (n := 0) (by omega) (by decide)).mp h9) (by omega))
  refine ps_st (S' := (31, [(0, .ref o), (1, .int (nI j)), (2, .int 0)], [.int (nI j)], M)) rfl rfl rfl ?_
  refine ps_st (S' := (32, [(0, .ref o), (1, .int (nI j)), (2, .int 0)], [.ref o, .int (nI j)], M)) rfl rfl rfl ?_
  refine ps_get (S' := (35, [(0, .ref o), (1, .int (nI j)), (2, .int 0)], [.ref c, .int (nI j)], M)) rfl h_o rfl rfl ?_
  refine ps_get (S' := (38, [(0, .ref o), (1, .int (nI j)), (2, .int 0)], [.ref q, .int (nI j)], M)) rfl h_c rfl rfl ?_
  refine ps_get (S' := (41, [(0, .ref o), (1, .int (nI j)), (2, .int 0)], [.int (nI N), .int (nI j)], M)) rfl h_q rfl rfl ?_
  refine ps_if2 (S1 := (46, [(0, .ref o), (1, .int (nI j)), (2, .int 0)], [], M)) (S2 := (44, [], [], M)) rfl rfl rfl (fun c_41 => ?_) (fun c_41 => ?_)
  rotate_left
  · exact absurd ((lt_nI (by omega) (by omega)).mpr hj) (of_decide_eq_false c_41)
  refine ps_st (S' := (47, [(0, .ref o), (1, .int (nI j)), (2, .int 0)], [.int 0], M)) rfl rfl rfl ?_
  refine ps_if (S1 := (62, [(0, .ref o), (1, .int (nI j)), (2, .int 0)], [], M)) (S2 := (50, [(0, .ref o), (1, .int (nI j)), (2, .int 0)], [], M)) rfl rfl rfl (fun c_47 => ?_) (fun c_47 => ?_)
  · exact absurd (of_decide_eq_true c_47) (by decide)
  refine ps_st (S' := (51, [(0, .ref o), (1, .int (nI j)), (2, .int 0)], [.ref o], M)) rfl rfl rfl ?_
  refine ps_get (S' := (54, [(0, .ref o), (1, .int (nI j)), (2, .int 0)], [.ref c], M)) rfl h_o rfl rfl ?_
  refine ps_get (S' := (57, [(0, .ref o), (1, .int (nI j)), (2, .int 0)], [.ref q], M)) rfl h_c rfl rfl ?_
  refine ps_st (S' := (58, [(0, .ref o), (1, .int (nI j)), (2, .int 0)], [.int (nI j), .ref q], M)) rfl rfl rfl ?_
  refine pl_call (a := [.ref q, .int (nI j)]) (rest := []) rfl rfl rfl (dy_tagOf (f := f) (n := n) (N := N) (q := q) (E := E) (j := j) (hV) (by omega)) (fun v1 M2 q3 => ?_)
  obtain ⟨rfl, rfl⟩ := q3
  show pl _ _ _ (61, [(0, .ref o), (1, .int (nI j)), (2, .int 0)], [.int (nI (tg f E j))], M) _
  exact ps_reti rfl (⟨rfl, rfl⟩)
set_option maxHeartbeats 1000000 in
theorem dk_entry_1 {g : xe_G} {M : mi_H} {f : Nat → Int32} {n N q : Nat} {E : List (Nat × Nat)} {o ca fl c b : Nat} {cn wp : Int32} {w : List Value} {j : Nat} (h_o : M.1 o = some (ob 11 [.ref ca, .int cn, .ref fl, .ref c, .int wp])) (h_c : M.1 c = some (ob 3 (.ref b :: .ref q :: w))) (hV : PV g f n N E q M) (hj : j < N) : pt (mT g) 8 [.ref o, .int (nI j), .int 1] M (fun v M' => (v = some (.int (nI (fi f E j))) ∧ M = M')) := by
  refine pt_in (b := mb_8 g) rfl (fun kf => ?_)
  show pl (mT g) kf (mb_8 g).2 (0, [(0, .ref o), (1, .int (nI j)), (2, .int 1)], [], M) _
  obtain ⟨hL9, H, m, qq, F, cc, hP9, -, -, hb9, -⟩ := id hV
  have h_q := hP9.1
  have hN9 := hb9.2.2.1
  refine ps_st (S' := (1, [(0, .ref o), (1, .int (nI j)), (2, .int 1)], [.int 1], M)) rfl rfl rfl ?_
  refine ps_if (S1 := (9, [(0, .ref o), (1, .int (nI j)), (2, .int 1)], [], M)) (S2 := (4, [(0, .ref o), (1, .int (nI j)), (2, .int 1)], [], M)) rfl rfl rfl (fun c_1 => ?_) (fun c_1 => ?_)
  · exact absurd (of_decide_eq_true c_1) (by decide)
  refine ps_st (S' := (5, [(0, .ref o), (1, .int (nI j)), (2, .int 1)], [.int 1], M)) rfl rfl rfl ?_
  refine ps_st (S' := (6, [(0, .ref o), (1, .int (nI j)), (2, .int 1)], [.int 2, .int 1], M)) rfl rfl rfl ?_
  refine ps_if2 (S1 := (19, [(0, .ref o), (1, .int (nI j)), (2, .int 1)], [], M)) (S2 := (9, [(0, .ref o), (1, .int (nI j)), (2, .int 1)], [], M)) rfl rfl rfl (fun c_6 => ?_) (fun c_6 => ?_)
  rotate_left
  · exact absurd (by decide) (of_decide_eq_false c_6)
  refine ps_st (S' := (20, [(0, .ref o), (1, .int (nI j)), (2, .int 1)], [.ref o], M)) rfl rfl rfl ?_
  refine ps_get (S' := (23, [(0, .ref o), (1, .int (nI j)), (2, .int 1)], [.ref c], M)) rfl h_o rfl rfl ?_
  refine ps_st (S' := (26, [(0, .ref o), (1, .int (nI j)), (2, .int 1)], [], M)) rfl rfl rfl ?_
  refine ps_st (S' := (27, [(0, .ref o), (1, .int (nI j)), (2, .int 1)], [.int (nI j)], M)) rfl rfl rfl ?_
  refine ps_if (S1 := (44, [], [], M)) (S2 := (30, [(0, .ref o), (1, .int (nI j)), (2, .int 1)], [], M)) rfl rfl rfl (fun c_27 => ?_) (fun c_27 => ?_)
  · exact absurd (of_decide_eq_true c_27) (show ¬ ((nI j) < 0) from fun h9 => absurd ((lt_nI (p := j) (n := 0) (by omega) (by decide)).mp h9) (by omega))
  refine ps_st (S' := (31, [(0, .ref o), (1, .int (nI j)), (2, .int 1)], [.int (nI j)], M)) rfl rfl rfl ?_
  refine ps_st (S' := (32, [(0, .ref o), (1, .int (nI j)), (2, .int 1)], [.ref o, .int (nI j)], M)) rfl rfl rfl ?_
  refine ps_get (S' := (35, [(0, .ref o), (1, .int (nI j)), (2, .int 1)], [.ref c, .int (nI j)], M)) rfl h_o rfl rfl ?_
  refine ps_get (S' := (38, [(0, .ref o), (1, .int (nI j)), (2, .int 1)], [.ref q, .int (nI j)], M)) rfl h_c rfl rfl ?_
  refine ps_get (S' := (41, [(0, .ref o), (1, .int (nI j)), (2, .int 1)], [.int (nI N), .int (nI j)], M)) rfl h_q rfl rfl ?_
  refine ps_if2 (S1 := (46, [(0, .ref o), (1, .int (nI j)), (2, .int 1)], [], M)) (S2 := (44, [], [], M)) rfl rfl rfl (fun c_41 => ?_) (fun c_41 => ?_)
  rotate_left
  · exact absurd ((lt_nI (by omega) (by omega)).mpr hj) (of_decide_eq_false c_41)
  refine ps_st (S' := (47, [(0, .ref o), (1, .int (nI j)), (2, .int 1)], [.int 1], M)) rfl rfl rfl ?_
  refine ps_if (S1 := (62, [(0, .ref o), (1, .int (nI j)), (2, .int 1)], [], M)) (S2 := (50, [(0, .ref o), (1, .int (nI j)), (2, .int 1)], [], M)) rfl rfl rfl (fun c_47 => ?_) (fun c_47 => ?_)
  rotate_left
  · exact absurd (by decide) (of_decide_eq_false c_47)
  refine ps_st (S' := (63, [(0, .ref o), (1, .int (nI j)), (2, .int 1)], [.int 1], M)) rfl rfl rfl ?_
  refine ps_st (S' := (64, [(0, .ref o), (1, .int (nI j)), (2, .int 1)], [.int 1, .int 1], M)) rfl rfl rfl ?_
  refine ps_if2 (S1 := (81, [(0, .ref o), (1, .int (nI j)), (2, .int 1)], [], M)) (S2 := (67, [(0, .ref o), (1, .int (nI j)), (2, .int 1)], [], M)) rfl rfl rfl (fun c_64 => ?_) (fun c_64 => ?_)
  · exact absurd (of_decide_eq_true c_64) (by decide)
  refine ps_st (S' := (68, [(0, .ref o), (1, .int (nI j)), (2, .int 1)], [.ref o], M)) rfl rfl rfl ?_
  refine ps_get (S' := (71, [(0, .ref o), (1, .int (nI j)), (2, .int 1)], [.ref c], M)) rfl h_o rfl rfl ?_
  refine ps_get (S' := (74, [(0, .ref o), (1, .int (nI j)), (2, .int 1)], [.ref q], M)) rfl h_c rfl rfl ?_
  refine ps_st (S' := (75, [(0, .ref o), (1, .int (nI j)), (2, .int 1)], [.int (nI j), .ref q], M)) rfl rfl rfl ?_
  refine pl_call (a := [.ref q, .int (nI j)]) (rest := []) rfl rfl rfl (dy_firstIndex (f := f) (n := n) (N := N) (q := q) (E := E) (j := j) (hV) (by omega)) (fun v1 M2 q3 => ?_)
  obtain ⟨rfl, rfl⟩ := q3
  show pl _ _ _ (78, [(0, .ref o), (1, .int (nI j)), (2, .int 1)], [.int (nI (fi f E j))], M) _
  refine ps_st (S' := (92, [], [.int (nI (fi f E j))], M)) rfl rfl rfl ?_
  exact ps_reti rfl (⟨rfl, rfl⟩)
set_option maxHeartbeats 1000000 in
theorem dk_entry_2 {g : xe_G} {M : mi_H} {f : Nat → Int32} {n N q : Nat} {E : List (Nat × Nat)} {o ca fl c b : Nat} {cn wp : Int32} {w : List Value} {j : Nat} (h_o : M.1 o = some (ob 11 [.ref ca, .int cn, .ref fl, .ref c, .int wp])) (h_c : M.1 c = some (ob 3 (.ref b :: .ref q :: w))) (hV : PV g f n N E q M) (hj : j < N) : pt (mT g) 8 [.ref o, .int (nI j), .int 2] M (fun v M' => (v = some (.int (nI (se f E j))) ∧ M = M')) := by
  refine pt_in (b := mb_8 g) rfl (fun kf => ?_)
  show pl (mT g) kf (mb_8 g).2 (0, [(0, .ref o), (1, .int (nI j)), (2, .int 2)], [], M) _
  obtain ⟨hL9, H, m, qq, F, cc, hP9, -, -, hb9, -⟩ := id hV
  have h_q := hP9.1
  have hN9 := hb9.2.2.1
  refine ps_st (S' := (1, [(0, .ref o), (1, .int (nI j)), (2, .int 2)], [.int 2], M)) rfl rfl rfl ?_
  refine ps_if (S1 := (9, [(0, .ref o), (1, .int (nI j)), (2, .int 2)], [], M)) (S2 := (4, [(0, .ref o), (1, .int (nI j)), (2, .int 2)], [], M)) rfl rfl rfl (fun c_1 => ?_) (fun c_1 => ?_)
  · exact absurd (of_decide_eq_true c_1) (by decide)
  refine ps_st (S' := (5, [(0, .ref o), (1, .int (nI j)), (2, .int 2)], [.int 2], M)) rfl rfl rfl ?_
  refine ps_st (S' := (6, [(0, .ref o), (1, .int (nI j)), (2, .int 2)], [.int 2, .int 2], M)) rfl rfl rfl ?_
  refine ps_if2 (S1 := (19, [(0, .ref o), (1, .int (nI j)), (2, .int 2)], [], M)) (S2 := (9, [(0, .ref o), (1, .int (nI j)), (2, .int 2)], [], M)) rfl rfl rfl (fun c_6 => ?_) (fun c_6 => ?_)
  rotate_left
  · exact absurd (by decide) (of_decide_eq_false c_6)
  refine ps_st (S' := (20, [(0, .ref o), (1, .int (nI j)), (2, .int 2)], [.ref o], M)) rfl rfl rfl ?_
  refine ps_get (S' := (23, [(0, .ref o), (1, .int (nI j)), (2, .int 2)], [.ref c], M)) rfl h_o rfl rfl ?_
  refine ps_st (S' := (26, [(0, .ref o), (1, .int (nI j)), (2, .int 2)], [], M)) rfl rfl rfl ?_
  refine ps_st (S' := (27, [(0, .ref o), (1, .int (nI j)), (2, .int 2)], [.int (nI j)], M)) rfl rfl rfl ?_
  refine ps_if (S1 := (44, [], [], M)) (S2 := (30, [(0, .ref o), (1, .int (nI j)), (2, .int 2)], [], M)) rfl rfl rfl (fun c_27 => ?_) (fun c_27 => ?_)
  · exact absurd (of_decide_eq_true c_27) (show ¬ ((nI j) < 0) from fun h9 => absurd ((lt_nI (p := j) (n := 0) (by omega) (by decide)).mp h9) (by omega))
  refine ps_st (S' := (31, [(0, .ref o), (1, .int (nI j)), (2, .int 2)], [.int (nI j)], M)) rfl rfl rfl ?_
  refine ps_st (S' := (32, [(0, .ref o), (1, .int (nI j)), (2, .int 2)], [.ref o, .int (nI j)], M)) rfl rfl rfl ?_
  refine ps_get (S' := (35, [(0, .ref o), (1, .int (nI j)), (2, .int 2)], [.ref c, .int (nI j)], M)) rfl h_o rfl rfl ?_
  refine ps_get (S' := (38, [(0, .ref o), (1, .int (nI j)), (2, .int 2)], [.ref q, .int (nI j)], M)) rfl h_c rfl rfl ?_
  refine ps_get (S' := (41, [(0, .ref o), (1, .int (nI j)), (2, .int 2)], [.int (nI N), .int (nI j)], M)) rfl h_q rfl rfl ?_
  refine ps_if2 (S1 := (46, [(0, .ref o), (1, .int (nI j)), (2, .int 2)], [], M)) (S2 := (44, [], [], M)) rfl rfl rfl (fun c_41 => ?_) (fun c_41 => ?_)
  rotate_left
  · exact absurd ((lt_nI (by omega) (by omega)).mpr hj) (of_decide_eq_false c_41)
  refine ps_st (S' := (47, [(0, .ref o), (1, .int (nI j)), (2, .int 2)], [.int 2], M)) rfl rfl rfl ?_
  refine ps_if (S1 := (62, [(0, .ref o), (1, .int (nI j)), (2, .int 2)], [], M)) (S2 := (50, [(0, .ref o), (1, .int (nI j)), (2, .int 2)], [], M)) rfl rfl rfl (fun c_47 => ?_) (fun c_47 => ?_)
  rotate_left
  · exact absurd (by decide) (of_decide_eq_false c_47)
  refine ps_st (S' := (63, [(0, .ref o), (1, .int (nI j)), (2, .int 2)], [.int 2], M)) rfl rfl rfl ?_
  refine ps_st (S' := (64, [(0, .ref o), (1, .int (nI j)), (2, .int 2)], [.int 1, .int 2], M)) rfl rfl rfl ?_
  refine ps_if2 (S1 := (81, [(0, .ref o), (1, .int (nI j)), (2, .int 2)], [], M)) (S2 := (67, [(0, .ref o), (1, .int (nI j)), (2, .int 2)], [], M)) rfl rfl rfl (fun c_64 => ?_) (fun c_64 => ?_)
  rotate_left
  · exact absurd (by decide) (of_decide_eq_false c_64)
  refine ps_st (S' := (82, [(0, .ref o), (1, .int (nI j)), (2, .int 2)], [.ref o], M)) rfl rfl rfl ?_
  refine ps_get (S' := (85, [(0, .ref o), (1, .int (nI j)), (2, .int 2)], [.ref c], M)) rfl h_o rfl rfl ?_
  refine ps_get (S' := (88, [(0, .ref o), (1, .int (nI j)), (2, .int 2)], [.ref q], M)) rfl h_c rfl rfl ?_
  refine ps_st (S' := (89, [(0, .ref o), (1, .int (nI j)), (2, .int 2)], [.int (nI j), .ref q], M)) rfl rfl rfl ?_
  refine pl_call (a := [.ref q, .int (nI j)]) (rest := []) rfl rfl rfl (dy_secondIndex (f := f) (n := n) (N := N) (q := q) (E := E) (j := j) (hV) (by omega)) (fun v1 M2 q3 => ?_)
  obtain ⟨rfl, rfl⟩ := q3
  show pl _ _ _ (92, [], [.int (nI (se f E j))], M) _
  exact ps_reti rfl (⟨rfl, rfl⟩)
theorem dk_entry {g : xe_G} {M : mi_H} {ko : Option (Nat × (Nat → Int32))} {kv : Value} {cm o fl : Nat} {cn wp k p : Int32} (hx : M.1 o = some (ob 11 [.ref cm, .int cn, .ref fl, kv, .int wp])) (hK : KPC g ko kv cm M) (hp0 : ¬ p < 0) (hp1 : p ≤ 2) : pt (mT g) 8 [.ref o, .int k, .int p] M (fun v M' => v = some (.int (enK ko k p)) ∧ M = M') := by
  cases ko with
  | none =>
    have e : kv = .null := hK
    subst e
    exact dk_entry0 hx hp0 hp1
  | some r =>
    obtain ⟨c, da, rfl, ⟨b, q, N, E, p1, pF, pM, pA, w, h1, h2, h3, h4, h5, rfl, -⟩, -, -⟩ := hK
    rw [enK_is h5]
    have hN := by2_lt r.2 8
    unfold enI
    by_cases hk : k < 0 ∨ nI (by2 r.2 8) ≤ k
    · rw [if_pos hk]
      exact dk_entryN hx h1 hp0 hp1 h4 hk
    · rw [if_neg hk]
      obtain ⟨e, hj⟩ := i32_in hN hk
      obtain ⟨j, ej⟩ : ∃ j, j = k.toNatClampNeg := ⟨_, rfl⟩
      rw [← ej] at e hj ⊢
      subst e
      rcases i32_3 hp0 hp1 with rfl | rfl | rfl
      · exact dk_entry_0 hx h1 h4 hj
      · exact dk_entry_1 hx h1 h4 hj
      · exact dk_entry_2 hx h1 h4 hj
end
section
set_option maxHeartbeats 1000000 in
theorem rd_entryB {g : xe_G} {m0 : Nat} {q : Nat → Nat} {z : Nat × Nat} {I : rI} {R : rR} {M : mi_H} {k p : Int32} (hR : RS g m0 q z I R M)   (hbad : p < 0 ∨ ¬ p ≤ 2) : pt (mT g) 204 [.ref m0, .int k, .int p] M (fun v M' => (∃  (I' : rI) (R' : rR), v = some (.int 0) ∧ RS g m0 q z I' R' M' ∧ eqI [0] I I' ∧ eqR [] R R' ∧ I' 0 = some 1)) := by
  refine pt_in (b := mb_204 g) rfl (fun kf => ?_)
  show pl (mT g) kf (mb_204 g).2 (0, [(0, .ref m0), (1, .int k), (2, .int p)], [], M) _
  have hEI : eqI [0] I I := eqI.rf
  have hER : eqR [] R R := eqR.rf
  refine ps_st (S' := (1, [(0, .ref m0), (1, .int k), (2, .int p)], [.ref m0], M)) rfl rfl rfl ?_
  refine ps_st (S' := (2, [(0, .ref m0), (1, .int k), (2, .int p)], [.int 0, .ref m0], M)) rfl rfl rfl ?_
  refine pr_put (j := 0) rfl hR rfl (fun M1 I2 hR3 hi4 hI5 => ?_)
  have hEI6 := hEI.put hI5 (by decide)
  show pl _ _ _ (5, [(0, .ref m0), (1, .int k), (2, .int p)], [], M1) _
  refine ps_st (S' := (6, [(0, .ref m0), (1, .int k), (2, .int p)], [.int p], M1)) rfl rfl rfl ?_
  refine ps_if (S1 := (14, [(0, .ref m0)], [], M1)) (S2 := (9, [(0, .ref m0), (1, .int k), (2, .int p)], [], M1)) rfl rfl rfl (fun c_6 => ?_) (fun c_6 => ?_)
  · have c_6 : p < 0 := of_decide_eq_true c_6
    refine ps_st (S' := (15, [(0, .ref m0)], [.ref m0], M1)) rfl rfl rfl ?_
    refine pl_call (a := [.ref m0]) (rest := []) rfl rfl rfl (rd_bad hR3) (fun v7 M8 q9 => ?_)
    obtain ⟨I10, R11, rfl, hR12, hI13, hX14, hi15⟩ := q9
    have hEI16 := hEI6.tr hI13 (by decide)
    have hER17 := hER.tr hX14 (by decide)
    show pl _ _ _ (18, [(0, .ref m0)], [.int 0], M8) _
    exact ps_ret rfl rfl (⟨I10, R11, rfl, hR12, hEI16, hER17, hi15⟩)
  · have c_6 : ¬ (p < 0) := of_decide_eq_false c_6
    refine ps_st (S' := (10, [(0, .ref m0), (1, .int k), (2, .int p)], [.int p], M1)) rfl rfl rfl ?_
    refine ps_st (S' := (11, [(0, .ref m0), (1, .int k), (2, .int p)], [.int 2, .int p], M1)) rfl rfl rfl ?_
    refine ps_if2 (S1 := (19, [(0, .ref m0), (1, .int k), (2, .int p)], [], M1)) (S2 := (14, [(0, .ref m0)], [], M1)) rfl rfl rfl (fun c_11 => ?_) (fun c_11 => ?_)
    · have c_11 : p ≤ 2 := of_decide_eq_true c_11
      exfalso
      rcases hbad with h9 | h9
      · exact absurd h9 (by assumption)
      · exact h9 (by assumption)
    · have c_11 : ¬ (p ≤ 2) := of_decide_eq_false c_11
      refine ps_st (S' := (15, [(0, .ref m0)], [.ref m0], M1)) rfl rfl rfl ?_
      refine pl_call (a := [.ref m0]) (rest := []) rfl rfl rfl (rd_bad hR3) (fun v18 M19 q20 => ?_)
      obtain ⟨I21, R22, rfl, hR23, hI24, hX25, hi26⟩ := q20
      have hEI27 := hEI6.tr hI24 (by decide)
      have hER28 := hER.tr hX25 (by decide)
      show pl _ _ _ (18, [(0, .ref m0)], [.int 0], M19) _
      exact ps_ret rfl rfl (⟨I21, R22, rfl, hR23, hEI27, hER28, hi26⟩)
set_option maxHeartbeats 1000000 in
theorem rd_entry0 {g : xe_G} {m0 : Nat} {q : Nat → Nat} {z : Nat × Nat} {I : rI} {R : rR} {M : mi_H} {kn k p : Int32} (hR : RS g m0 q z I R M) (hi18 : I 18 = some kn)  (hp0 : ¬ p < 0) (hp1 : p ≤ 2) (hk : kn < 0) : pt (mT g) 204 [.ref m0, .int k, .int p] M (fun v M' => (∃  (I' : rI) (R' : rR), v = some (.int (-1)) ∧ RS g m0 q z I' R' M' ∧ eqI [0] I I' ∧ eqR [] R R' ∧ I' 0 = some 0)) := by
  refine pt_in (b := mb_204 g) rfl (fun kf => ?_)
  show pl (mT g) kf (mb_204 g).2 (0, [(0, .ref m0), (1, .int k), (2, .int p)], [], M) _
  have hEI : eqI [0] I I := eqI.rf
  have hER : eqR [] R R := eqR.rf
  refine ps_st (S' := (1, [(0, .ref m0), (1, .int k), (2, .int p)], [.ref m0], M)) rfl rfl rfl ?_
  refine ps_st (S' := (2, [(0, .ref m0), (1, .int k), (2, .int p)], [.int 0, .ref m0], M)) rfl rfl rfl ?_
  refine pr_put (j := 0) rfl hR rfl (fun M1 I2 hR3 hi4 hI5 => ?_)
  have hi6 := (hI5 18 (by decide)).trans hi18
  have hEI7 := hEI.put hI5 (by decide)
  show pl _ _ _ (5, [(0, .ref m0), (1, .int k), (2, .int p)], [], M1) _
  refine ps_st (S' := (6, [(0, .ref m0), (1, .int k), (2, .int p)], [.int p], M1)) rfl rfl rfl ?_
  refine ps_if (S1 := (14, [(0, .ref m0)], [], M1)) (S2 := (9, [(0, .ref m0), (1, .int k), (2, .int p)], [], M1)) rfl rfl rfl (fun c_6 => ?_) (fun c_6 => ?_)
  · exact absurd (of_decide_eq_true c_6) (hp0)
  refine ps_st (S' := (10, [(0, .ref m0), (1, .int k), (2, .int p)], [.int p], M1)) rfl rfl rfl ?_
  refine ps_st (S' := (11, [(0, .ref m0), (1, .int k), (2, .int p)], [.int 2, .int p], M1)) rfl rfl rfl ?_
  refine ps_if2 (S1 := (19, [(0, .ref m0), (1, .int k), (2, .int p)], [], M1)) (S2 := (14, [(0, .ref m0)], [], M1)) rfl rfl rfl (fun c_11 => ?_) (fun c_11 => ?_)
  rotate_left
  · exact absurd (hp1) (of_decide_eq_false c_11)
  refine ps_st (S' := (20, [(0, .ref m0), (1, .int k), (2, .int p)], [.ref m0], M1)) rfl rfl rfl ?_
  refine pr_int (j := 18) (S' := (23, [(0, .ref m0), (1, .int k), (2, .int p)], [.int kn], M1)) rfl hR3 rfl hi6 rfl ?_
  refine ps_if (S1 := (38, [], [], M1)) (S2 := (26, [(0, .ref m0), (1, .int k), (2, .int p)], [], M1)) rfl rfl rfl (fun c_23 => ?_) (fun c_23 => ?_)
  rotate_left
  · exact absurd (hk) (of_decide_eq_false c_23)
  refine ps_st (S' := (39, [], [.int (-1)], M1)) rfl rfl rfl ?_
  exact ps_ret rfl rfl (⟨I2, R, rfl, hR3, hEI7, hER, hi4⟩)
set_option maxHeartbeats 1000000 in
theorem rd_entryN {g : xe_G} {m0 : Nat} {q : Nat → Nat} {z : Nat × Nat} {I : rI} {R : rR} {M : mi_H} {n : Nat} {f : Nat → Int32} {tx : List (List Nat)} {cN : Nat} {A : Nat → Nat} {N mj : Nat} {E : List (Nat × Nat)} {k p : Int32} {n2 : Nat} (hR : RS g m0 q z I R M) (hi18 : I 18 = some (nI n2)) (hi51 : I 51 = some 0) (hi52 : I 52 = some (nI N)) (hi53 : I 53 = some (nI mj)) (hF : FK n f I R) (hY : SYT tx cN A I R) (hP : RPV f n E tx N I R) (hEP : EP f n E) (hN : N < 65536) (hp0 : ¬ p < 0) (hp1 : p ≤ 2) (hn2 : n2 ≤ 65540) (hk : k < 0 ∨ nI N ≤ k) : pt (mT g) 204 [.ref m0, .int k, .int p] M (fun v M' => (∃  (I' : rI) (R' : rR), v = some (.int (-1)) ∧ RS g m0 q z I' R' M' ∧ eqI [0] I I' ∧ eqR [] R R' ∧ I' 0 = some 0)) := by
  refine pt_in (b := mb_204 g) rfl (fun kf => ?_)
  show pl (mT g) kf (mb_204 g).2 (0, [(0, .ref m0), (1, .int k), (2, .int p)], [], M) _
  have hEI : eqI [0] I I := eqI.rf
  have hER : eqR [] R R := eqR.rf
  refine ps_st (S' := (1, [(0, .ref m0), (1, .int k), (2, .int p)], [.ref m0], M)) rfl rfl rfl ?_
  refine ps_st (S' := (2, [(0, .ref m0), (1, .int k), (2, .int p)], [.int 0, .ref m0], M)) rfl rfl rfl ?_
  refine pr_put (j := 0) rfl hR rfl (fun M1 I2 hR3 hi4 hI5 => ?_)
  have hi6 := (hI5 18 (by decide)).trans hi18
  have hi7 := (hI5 51 (by decide)).trans hi51
  have hi8 := (hI5 52 (by decide)).trans hi52
  have hi9 := (hI5 53 (by decide)).trans hi53
  have hF_10 := hF.mono (pIx hI5 (by decide)) (fun _ _ => rfl)
  have hY_11 := hY.mono (pIx hI5 (by decide)) (fun _ _ => rfl)
  have hP_12 := hP.mono (pIx hI5 (by decide)) (fun _ _ => rfl)
  have hEI13 := hEI.put hI5 (by decide)
  show pl _ _ _ (5, [(0, .ref m0), (1, .int k), (2, .int p)], [], M1) _
  refine ps_st (S' := (6, [(0, .ref m0), (1, .int k), (2, .int p)], [.int p], M1)) rfl rfl rfl ?_
  refine ps_if (S1 := (14, [(0, .ref m0)], [], M1)) (S2 := (9, [(0, .ref m0), (1, .int k), (2, .int p)], [], M1)) rfl rfl rfl (fun c_6 => ?_) (fun c_6 => ?_)
  · exact absurd (of_decide_eq_true c_6) (hp0)
  refine ps_st (S' := (10, [(0, .ref m0), (1, .int k), (2, .int p)], [.int p], M1)) rfl rfl rfl ?_
  refine ps_st (S' := (11, [(0, .ref m0), (1, .int k), (2, .int p)], [.int 2, .int p], M1)) rfl rfl rfl ?_
  refine ps_if2 (S1 := (19, [(0, .ref m0), (1, .int k), (2, .int p)], [], M1)) (S2 := (14, [(0, .ref m0)], [], M1)) rfl rfl rfl (fun c_11 => ?_) (fun c_11 => ?_)
  rotate_left
  · exact absurd (hp1) (of_decide_eq_false c_11)
  refine ps_st (S' := (20, [(0, .ref m0), (1, .int k), (2, .int p)], [.ref m0], M1)) rfl rfl rfl ?_
  refine pr_int (j := 18) (S' := (23, [(0, .ref m0), (1, .int k), (2, .int p)], [.int (nI n2)], M1)) rfl hR3 rfl hi6 rfl ?_
  refine ps_if (S1 := (38, [], [], M1)) (S2 := (26, [(0, .ref m0), (1, .int k), (2, .int p)], [], M1)) rfl rfl rfl (fun c_23 => ?_) (fun c_23 => ?_)
  · exact absurd (of_decide_eq_true c_23) (show ¬ ((nI n2) < 0) from fun h9 => absurd ((lt_nI (p := n2) (n := 0) (by omega) (by decide)).mp h9) (by omega))
  refine ps_st (S' := (27, [(0, .ref m0), (1, .int k), (2, .int p)], [.int k], M1)) rfl rfl rfl ?_
  refine ps_if (S1 := (38, [], [], M1)) (S2 := (30, [(0, .ref m0), (1, .int k), (2, .int p)], [], M1)) rfl rfl rfl (fun c_27 => ?_) (fun c_27 => ?_)
  · have c_27 : k < 0 := of_decide_eq_true c_27
    refine ps_st (S' := (39, [], [.int (-1)], M1)) rfl rfl rfl ?_
    exact ps_ret rfl rfl (⟨I2, R, rfl, hR3, hEI13, hER, hi4⟩)
  · have c_27 : ¬ (k < 0) := of_decide_eq_false c_27
    refine ps_st (S' := (31, [(0, .ref m0), (1, .int k), (2, .int p)], [.int k], M1)) rfl rfl rfl ?_
    refine ps_st (S' := (32, [(0, .ref m0), (1, .int k), (2, .int p)], [.ref m0, .int k], M1)) rfl rfl rfl ?_
    refine pr_int (j := 52) (S' := (35, [(0, .ref m0), (1, .int k), (2, .int p)], [.int (nI N), .int k], M1)) rfl hR3 rfl hi8 rfl ?_
    refine ps_if2 (S1 := (40, [(0, .ref m0), (1, .int k), (2, .int p)], [], M1)) (S2 := (38, [], [], M1)) rfl rfl rfl (fun c_35 => ?_) (fun c_35 => ?_)
    · exact absurd (of_decide_eq_true c_35) (Int32.not_lt.mpr (hk.resolve_left c_27))
    refine ps_st (S' := (39, [], [.int (-1)], M1)) rfl rfl rfl ?_
    exact ps_ret rfl rfl (⟨I2, R, rfl, hR3, hEI13, hER, hi4⟩)
set_option maxHeartbeats 1000000 in
theorem rd_entry_0 {g : xe_G} {m0 : Nat} {q : Nat → Nat} {z : Nat × Nat} {I : rI} {R : rR} {M : mi_H} {n : Nat} {f : Nat → Int32} {tx : List (List Nat)} {cN : Nat} {A : Nat → Nat} {N mj : Nat} {E : List (Nat × Nat)} {j n2 p1 : Nat} (hR : RS g m0 q z I R M) (hi18 : I 18 = some (nI n2)) (hi51 : I 51 = some 0) (hi52 : I 52 = some (nI N)) (hi53 : I 53 = some (nI mj)) (hF : FK n f I R) (hY : SYT tx cN A I R) (hP : RPV f n E tx N I R) (hEP : EP f n E) (hN : N < 65536) (hmj : mj < 65536) (hn2 : n2 ≤ 65540) (hj : j < N) (hpl : s_pool f n mj = .inr (p1, E)) : pt (mT g) 204 [.ref m0, .int (nI j), .int 0] M (fun v M' => (∃  (I' : rI) (R' : rR), v = some (.int (nI (tg f E j))) ∧ RS g m0 q z I' R' M' ∧ eqI [0] I I' ∧ eqR [] R R' ∧ I' 0 = some 0)) := by
  refine pt_in (b := mb_204 g) rfl (fun kf => ?_)
  show pl (mT g) kf (mb_204 g).2 (0, [(0, .ref m0), (1, .int (nI j)), (2, .int 0)], [], M) _
  have hEI : eqI [0] I I := eqI.rf
  have hER : eqR [] R R := eqR.rf
  have hn := hF.1
  have hto := tg_ok (k := j) hpl
  unfold tgOk at hto
  have htl9 := tg_lt f E j
  refine ps_st (S' := (1, [(0, .ref m0), (1, .int (nI j)), (2, .int 0)], [.ref m0], M)) rfl rfl rfl ?_
  refine ps_st (S' := (2, [(0, .ref m0), (1, .int (nI j)), (2, .int 0)], [.int 0, .ref m0], M)) rfl rfl rfl ?_
  refine pr_put (j := 0) rfl hR rfl (fun M1 I2 hR3 hi4 hI5 => ?_)
  have hi6 := (hI5 18 (by decide)).trans hi18
  have hi7 := (hI5 51 (by decide)).trans hi51
  have hi8 := (hI5 52 (by decide)).trans hi52
  have hi9 := (hI5 53 (by decide)).trans hi53
  have hF_10 := hF.mono (pIx hI5 (by decide)) (fun _ _ => rfl)
  have hY_11 := hY.mono (pIx hI5 (by decide)) (fun _ _ => rfl)
  have hP_12 := hP.mono (pIx hI5 (by decide)) (fun _ _ => rfl)
  have hEI13 := hEI.put hI5 (by decide)
  show pl _ _ _ (5, [(0, .ref m0), (1, .int (nI j)), (2, .int 0)], [], M1) _
  refine ps_st (S' := (6, [(0, .ref m0), (1, .int (nI j)), (2, .int 0)], [.int 0], M1)) rfl rfl rfl ?_
  refine ps_if (S1 := (14, [(0, .ref m0)], [], M1)) (S2 := (9, [(0, .ref m0), (1, .int (nI j)), (2, .int 0)], [], M1)) rfl rfl rfl (fun c_6 => ?_) (fun c_6 => ?_)
  · exact absurd (of_decide_eq_true c_6) (by decide)
  refine ps_st (S' := (10, [(0, .ref m0), (1, .int (nI j)), (2, .int 0)], [.int 0], M1)) rfl rfl rfl ?_
  refine ps_st (S' := (11, [(0, .ref m0), (1, .int (nI j)), (2, .int 0)], [.int 2, .int 0], M1)) rfl rfl rfl ?_
  refine ps_if2 (S1 := (19, [(0, .ref m0), (1, .int (nI j)), (2, .int 0)], [], M1)) (S2 := (14, [(0, .ref m0)], [], M1)) rfl rfl rfl (fun c_11 => ?_) (fun c_11 => ?_)
  rotate_left
  · exact absurd (by decide) (of_decide_eq_false c_11)
  refine ps_st (S' := (20, [(0, .ref m0), (1, .int (nI j)), (2, .int 0)], [.ref m0], M1)) rfl rfl rfl ?_
  refine pr_int (j := 18) (S' := (23, [(0, .ref m0), (1, .int (nI j)), (2, .int 0)], [.int (nI n2)], M1)) rfl hR3 rfl hi6 rfl ?_
  refine ps_if (S1 := (38, [], [], M1)) (S2 := (26, [(0, .ref m0), (1, .int (nI j)), (2, .int 0)], [], M1)) rfl rfl rfl (fun c_23 => ?_) (fun c_23 => ?_)
  · exact absurd (of_decide_eq_true c_23) (show ¬ ((nI n2) < 0) from fun h9 => absurd ((lt_nI (p := n2) (n := 0) (by omega) (by decide)).mp h9) (by omega))
  refine ps_st (S' := (27, [(0, .ref m0), (1, .int (nI j)), (2, .int 0)], [.int (nI j)], M1)) rfl rfl rfl ?_
  refine ps_if (S1 := (38, [], [], M1)) (S2 := (30, [(0, .ref m0), (1, .int (nI j)), (2, .int 0)], [], M1)) rfl rfl rfl (fun c_27 => ?_) (fun c_27 => ?_)
  · exact absurd (of_decide_eq_true c_27) (show ¬ ((nI j) < 0) from fun h9 => absurd ((lt_nI (p := j) (n := 0) (by omega) (by decide)).mp h9) (by omega))
  refine ps_st (S' := (31, [(0, .ref m0), (1, .int (nI j)), (2, .int 0)], [.int (nI j)], M1)) rfl rfl rfl ?_
  refine ps_st (S' := (32, [(0, .ref m0), (1, .int (nI j)), (2, .int 0)], [.ref m0, .int (nI j)], M1)) rfl rfl rfl ?_
  refine pr_int (j := 52) (S' := (35, [(0, .ref m0), (1, .int (nI j)), (2, .int 0)], [.int (nI N), .int (nI j)], M1)) rfl hR3 rfl hi8 rfl ?_
  refine ps_if2 (S1 := (40, [(0, .ref m0), (1, .int (nI j)), (2, .int 0)], [], M1)) (S2 := (38, [], [], M1)) rfl rfl rfl (fun c_35 => ?_) (fun c_35 => ?_)
  rotate_left
  · exact absurd ((lt_nI (by omega) (by omega)).mpr hj) (of_decide_eq_false c_35)
  refine ps_st (S' := (41, [(0, .ref m0), (1, .int (nI j)), (2, .int 0)], [.ref m0], M1)) rfl rfl rfl ?_
  refine ps_st (S' := (42, [(0, .ref m0), (1, .int (nI j)), (2, .int 0)], [.int (nI j), .ref m0], M1)) rfl rfl rfl ?_
  refine pl_call (a := [.ref m0, .int (nI j)]) (rest := []) rfl rfl rfl (rd_tag (n := n) (f := f) (tx := tx) (cN := cN) (A := A) (N := N) (mj := mj) (E := E) (k := j) hR3 hi7 hi8 hi9 hF_10 hY_11 hP_12 (hEP) (hN) (hmj) (by omega)) (fun v14 M15 q16 => ?_)
  obtain ⟨rfl, rfl⟩ := q16
  show pl _ _ _ (45, [(0, .ref m0), (1, .int (nI j)), (2, .int 0)], [.int (nI (tg f E j))], M1) _
  have htg_42 := tg_lt f E j
  refine ps_st (S' := (46, [(3, .int (nI (tg f E j))), (0, .ref m0), (1, .int (nI j)), (2, .int 0)], [], M1)) rfl rfl rfl ?_
  refine ps_st (S' := (47, [(3, .int (nI (tg f E j))), (0, .ref m0), (1, .int (nI j)), (2, .int 0)], [.int 0], M1)) rfl rfl rfl ?_
  refine ps_if (S1 := (52, [(3, .int (nI (tg f E j))), (0, .ref m0), (1, .int (nI j)), (2, .int 0)], [], M1)) (S2 := (50, [(3, .int (nI (tg f E j))), (0, .ref m0), (1, .int (nI j)), (2, .int 0)], [], M1)) rfl rfl rfl (fun c_47 => ?_) (fun c_47 => ?_)
  · exact absurd (of_decide_eq_true c_47) (by decide)
  refine ps_st (S' := (51, [(3, .int (nI (tg f E j))), (0, .ref m0), (1, .int (nI j)), (2, .int 0)], [.int (nI (tg f E j))], M1)) rfl rfl rfl ?_
  exact ps_reti rfl (⟨I2, R, rfl, hR3, hEI13, hER, hi4⟩)
set_option maxHeartbeats 1000000 in
theorem rd_entry_1 {g : xe_G} {m0 : Nat} {q : Nat → Nat} {z : Nat × Nat} {I : rI} {R : rR} {M : mi_H} {n : Nat} {f : Nat → Int32} {tx : List (List Nat)} {cN : Nat} {A : Nat → Nat} {N mj : Nat} {E : List (Nat × Nat)} {j n2 p1 : Nat} (hR : RS g m0 q z I R M) (hi18 : I 18 = some (nI n2)) (hi51 : I 51 = some 0) (hi52 : I 52 = some (nI N)) (hi53 : I 53 = some (nI mj)) (hF : FK n f I R) (hY : SYT tx cN A I R) (hP : RPV f n E tx N I R) (hEP : EP f n E) (hN : N < 65536) (hmj : mj < 65536) (hn2 : n2 ≤ 65540) (hj : j < N) (hpl : s_pool f n mj = .inr (p1, E)) : pt (mT g) 204 [.ref m0, .int (nI j), .int 1] M (fun v M' => (∃  (I' : rI) (R' : rR), v = some (.int (nI (fi f E j))) ∧ RS g m0 q z I' R' M' ∧ eqI [0] I I' ∧ eqR [] R R' ∧ I' 0 = some 0)) := by
  refine pt_in (b := mb_204 g) rfl (fun kf => ?_)
  show pl (mT g) kf (mb_204 g).2 (0, [(0, .ref m0), (1, .int (nI j)), (2, .int 1)], [], M) _
  have hEI : eqI [0] I I := eqI.rf
  have hER : eqR [] R R := eqR.rf
  have hn := hF.1
  have hto := tg_ok (k := j) hpl
  unfold tgOk at hto
  have htl9 := tg_lt f E j
  refine ps_st (S' := (1, [(0, .ref m0), (1, .int (nI j)), (2, .int 1)], [.ref m0], M)) rfl rfl rfl ?_
  refine ps_st (S' := (2, [(0, .ref m0), (1, .int (nI j)), (2, .int 1)], [.int 0, .ref m0], M)) rfl rfl rfl ?_
  refine pr_put (j := 0) rfl hR rfl (fun M1 I2 hR3 hi4 hI5 => ?_)
  have hi6 := (hI5 18 (by decide)).trans hi18
  have hi7 := (hI5 51 (by decide)).trans hi51
  have hi8 := (hI5 52 (by decide)).trans hi52
  have hi9 := (hI5 53 (by decide)).trans hi53
  have hF_10 := hF.mono (pIx hI5 (by decide)) (fun _ _ => rfl)
  have hY_11 := hY.mono (pIx hI5 (by decide)) (fun _ _ => rfl)
  have hP_12 := hP.mono (pIx hI5 (by decide)) (fun _ _ => rfl)
  have hEI13 := hEI.put hI5 (by decide)
  show pl _ _ _ (5, [(0, .ref m0), (1, .int (nI j)), (2, .int 1)], [], M1) _
  refine ps_st (S' := (6, [(0, .ref m0), (1, .int (nI j)), (2, .int 1)], [.int 1], M1)) rfl rfl rfl ?_
  refine ps_if (S1 := (14, [(0, .ref m0)], [], M1)) (S2 := (9, [(0, .ref m0), (1, .int (nI j)), (2, .int 1)], [], M1)) rfl rfl rfl (fun c_6 => ?_) (fun c_6 => ?_)
  · exact absurd (of_decide_eq_true c_6) (by decide)
  refine ps_st (S' := (10, [(0, .ref m0), (1, .int (nI j)), (2, .int 1)], [.int 1], M1)) rfl rfl rfl ?_
  refine ps_st (S' := (11, [(0, .ref m0), (1, .int (nI j)), (2, .int 1)], [.int 2, .int 1], M1)) rfl rfl rfl ?_
  refine ps_if2 (S1 := (19, [(0, .ref m0), (1, .int (nI j)), (2, .int 1)], [], M1)) (S2 := (14, [(0, .ref m0)], [], M1)) rfl rfl rfl (fun c_11 => ?_) (fun c_11 => ?_)
  rotate_left
  · exact absurd (by decide) (of_decide_eq_false c_11)
  refine ps_st (S' := (20, [(0, .ref m0), (1, .int (nI j)), (2, .int 1)], [.ref m0], M1)) rfl rfl rfl ?_
  refine pr_int (j := 18) (S' := (23, [(0, .ref m0), (1, .int (nI j)), (2, .int 1)], [.int (nI n2)], M1)) rfl hR3 rfl hi6 rfl ?_
  refine ps_if (S1 := (38, [], [], M1)) (S2 := (26, [(0, .ref m0), (1, .int (nI j)), (2, .int 1)], [], M1)) rfl rfl rfl (fun c_23 => ?_) (fun c_23 => ?_)
  · exact absurd (of_decide_eq_true c_23) (show ¬ ((nI n2) < 0) from fun h9 => absurd ((lt_nI (p := n2) (n := 0) (by omega) (by decide)).mp h9) (by omega))
  refine ps_st (S' := (27, [(0, .ref m0), (1, .int (nI j)), (2, .int 1)], [.int (nI j)], M1)) rfl rfl rfl ?_
  refine ps_if (S1 := (38, [], [], M1)) (S2 := (30, [(0, .ref m0), (1, .int (nI j)), (2, .int 1)], [], M1)) rfl rfl rfl (fun c_27 => ?_) (fun c_27 => ?_)
  · exact absurd (of_decide_eq_true c_27) (show ¬ ((nI j) < 0) from fun h9 => absurd ((lt_nI (p := j) (n := 0) (by omega) (by decide)).mp h9) (by omega))
  refine ps_st (S' := (31, [(0, .ref m0), (1, .int (nI j)), (2, .int 1)], [.int (nI j)], M1)) rfl rfl rfl ?_
  refine ps_st (S' := (32, [(0, .ref m0), (1, .int (nI j)), (2, .int 1)], [.ref m0, .int (nI j)], M1)) rfl rfl rfl ?_
  refine pr_int (j := 52) (S' := (35, [(0, .ref m0), (1, .int (nI j)), (2, .int 1)], [.int (nI N), .int (nI j)], M1)) rfl hR3 rfl hi8 rfl ?_
  refine ps_if2 (S1 := (40, [(0, .ref m0), (1, .int (nI j)), (2, .int 1)], [], M1)) (S2 := (38, [], [], M1)) rfl rfl rfl (fun c_35 => ?_) (fun c_35 => ?_)
  rotate_left
  · exact absurd ((lt_nI (by omega) (by omega)).mpr hj) (of_decide_eq_false c_35)
  refine ps_st (S' := (41, [(0, .ref m0), (1, .int (nI j)), (2, .int 1)], [.ref m0], M1)) rfl rfl rfl ?_
  refine ps_st (S' := (42, [(0, .ref m0), (1, .int (nI j)), (2, .int 1)], [.int (nI j), .ref m0], M1)) rfl rfl rfl ?_
  refine pl_call (a := [.ref m0, .int (nI j)]) (rest := []) rfl rfl rfl (rd_tag (n := n) (f := f) (tx := tx) (cN := cN) (A := A) (N := N) (mj := mj) (E := E) (k := j) hR3 hi7 hi8 hi9 hF_10 hY_11 hP_12 (hEP) (hN) (hmj) (by omega)) (fun v14 M15 q16 => ?_)
  obtain ⟨rfl, rfl⟩ := q16
  show pl _ _ _ (45, [(0, .ref m0), (1, .int (nI j)), (2, .int 1)], [.int (nI (tg f E j))], M1) _
  have htg_42 := tg_lt f E j
  refine ps_st (S' := (46, [(3, .int (nI (tg f E j))), (0, .ref m0), (1, .int (nI j)), (2, .int 1)], [], M1)) rfl rfl rfl ?_
  refine ps_st (S' := (47, [(3, .int (nI (tg f E j))), (0, .ref m0), (1, .int (nI j)), (2, .int 1)], [.int 1], M1)) rfl rfl rfl ?_
  refine ps_if (S1 := (52, [(3, .int (nI (tg f E j))), (0, .ref m0), (1, .int (nI j)), (2, .int 1)], [], M1)) (S2 := (50, [(3, .int (nI (tg f E j))), (0, .ref m0), (1, .int (nI j)), (2, .int 1)], [], M1)) rfl rfl rfl (fun c_47 => ?_) (fun c_47 => ?_)
  rotate_left
  · exact absurd (by decide) (of_decide_eq_false c_47)
  refine ps_st (S' := (53, [(3, .int (nI (tg f E j))), (0, .ref m0), (1, .int (nI j)), (2, .int 1)], [.int (nI (tg f E j))], M1)) rfl rfl rfl ?_
  refine ps_st (S' := (55, [(3, .int (nI (tg f E j))), (0, .ref m0), (1, .int (nI j)), (2, .int 1)], [.int 15, .int (nI (tg f E j))], M1)) rfl rfl rfl ?_
  refine ps_if2 (S1 := (85, [(3, .int (nI (tg f E j))), (0, .ref m0), (1, .int (nI j)), (2, .int 1)], [], M1)) (S2 := (58, [(3, .int (nI (tg f E j))), (0, .ref m0), (1, .int (nI j)), (2, .int 1)], [], M1)) rfl rfl rfl (fun c_55 => ?_) (fun c_55 => ?_)
  · have c_55 : ¬ (nI (tg f E j)) = 15 := of_decide_eq_true c_55
    have n_55 : ¬ (tg f E j = 15) := fun h9 => c_55 ((eq_nI (p := tg f E j) (n := 15) (Nat.lt_trans (tg_lt _ _ _) (by decide)) (by decide)).mpr h9)
    refine ps_st (S' := (86, [(3, .int (nI (tg f E j))), (0, .ref m0), (1, .int (nI j)), (2, .int 1)], [.int (nI (tg f E j))], M1)) rfl rfl rfl ?_
    refine ps_st (S' := (88, [(3, .int (nI (tg f E j))), (0, .ref m0), (1, .int (nI j)), (2, .int 1)], [.int 7, .int (nI (tg f E j))], M1)) rfl rfl rfl ?_
    refine ps_if2 (S1 := (115, [(0, .ref m0), (1, .int (nI j)), (2, .int 1)], [], M1)) (S2 := (91, [(3, .int (nI (tg f E j))), (0, .ref m0), (1, .int (nI j)), (2, .int 1)], [], M1)) rfl rfl rfl (fun c_88 => ?_) (fun c_88 => ?_)
    · have c_88 : (nI (tg f E j)) = 7 := of_decide_eq_true c_88
      have n_88 : tg f E j = 7 := (eq_nI (p := tg f E j) (n := 7) (Nat.lt_trans (tg_lt _ _ _) (by decide)) (by decide)).mp c_88
      refine ps_st (S' := (116, [(0, .ref m0), (1, .int (nI j)), (2, .int 1)], [.int 1], M1)) rfl rfl rfl ?_
      refine ps_st (S' := (117, [(0, .ref m0), (1, .int (nI j)), (2, .int 1)], [.int 1, .int 1], M1)) rfl rfl rfl ?_
      refine ps_if2 (S1 := (129, [(0, .ref m0), (1, .int (nI j)), (2, .int 1)], [], M1)) (S2 := (120, [(0, .ref m0), (1, .int (nI j)), (2, .int 1)], [], M1)) rfl rfl rfl (fun c_117 => ?_) (fun c_117 => ?_)
      · exact absurd (of_decide_eq_true c_117) (by decide)
      refine ps_st (S' := (121, [(0, .ref m0), (1, .int (nI j)), (2, .int 1)], [.ref m0], M1)) rfl rfl rfl ?_
      refine ps_st (S' := (122, [(0, .ref m0), (1, .int (nI j)), (2, .int 1)], [.int (nI j), .ref m0], M1)) rfl rfl rfl ?_
      refine ps_st (S' := (123, [(0, .ref m0), (1, .int (nI j)), (2, .int 1)], [.int 1, .int (nI j), .ref m0], M1)) rfl rfl rfl ?_
      refine pl_call (a := [.ref m0, .int (nI j), .int 1]) (rest := []) rfl rfl rfl (rd_idx1 (n := n) (f := f) (tx := tx) (cN := cN) (A := A) (N := N) (mj := mj) (E := E) (k := j) hR3 hi7 hi8 hi9 hF_10 hY_11 hP_12 (hEP) (hN) (hmj) (by omega)) (fun v17 M18 q19 => ?_)
      obtain ⟨rfl, rfl⟩ := q19
      show pl _ _ _ (126, [(0, .ref m0), (1, .int (nI j)), (2, .int 1)], [.int (nI (fi f E j))], M1) _
      have hix_123 := fi_lt f E j
      refine ps_st (S' := (130, [], [.int (nI (fi f E j))], M1)) rfl rfl rfl ?_
      exact ps_reti rfl (⟨I2, R, rfl, hR3, hEI13, hER, hi4⟩)
    · have c_88 : ¬ ((nI (tg f E j)) = 7) := of_decide_eq_false c_88
      have n_88 : ¬ (tg f E j = 7) := fun h9 => c_88 ((eq_nI (p := tg f E j) (n := 7) (Nat.lt_trans (tg_lt _ _ _) (by decide)) (by decide)).mpr h9)
      refine ps_st (S' := (92, [(3, .int (nI (tg f E j))), (0, .ref m0), (1, .int (nI j)), (2, .int 1)], [.int (nI (tg f E j))], M1)) rfl rfl rfl ?_
      refine ps_st (S' := (94, [(3, .int (nI (tg f E j))), (0, .ref m0), (1, .int (nI j)), (2, .int 1)], [.int 8, .int (nI (tg f E j))], M1)) rfl rfl rfl ?_
      refine ps_if2 (S1 := (115, [(0, .ref m0), (1, .int (nI j)), (2, .int 1)], [], M1)) (S2 := (97, [(3, .int (nI (tg f E j))), (0, .ref m0), (1, .int (nI j)), (2, .int 1)], [], M1)) rfl rfl rfl (fun c_94 => ?_) (fun c_94 => ?_)
      · have c_94 : (nI (tg f E j)) = 8 := of_decide_eq_true c_94
        have n_94 : tg f E j = 8 := (eq_nI (p := tg f E j) (n := 8) (Nat.lt_trans (tg_lt _ _ _) (by decide)) (by decide)).mp c_94
        refine ps_st (S' := (116, [(0, .ref m0), (1, .int (nI j)), (2, .int 1)], [.int 1], M1)) rfl rfl rfl ?_
        refine ps_st (S' := (117, [(0, .ref m0), (1, .int (nI j)), (2, .int 1)], [.int 1, .int 1], M1)) rfl rfl rfl ?_
        refine ps_if2 (S1 := (129, [(0, .ref m0), (1, .int (nI j)), (2, .int 1)], [], M1)) (S2 := (120, [(0, .ref m0), (1, .int (nI j)), (2, .int 1)], [], M1)) rfl rfl rfl (fun c_117 => ?_) (fun c_117 => ?_)
        · exact absurd (of_decide_eq_true c_117) (by decide)
        refine ps_st (S' := (121, [(0, .ref m0), (1, .int (nI j)), (2, .int 1)], [.ref m0], M1)) rfl rfl rfl ?_
        refine ps_st (S' := (122, [(0, .ref m0), (1, .int (nI j)), (2, .int 1)], [.int (nI j), .ref m0], M1)) rfl rfl rfl ?_
        refine ps_st (S' := (123, [(0, .ref m0), (1, .int (nI j)), (2, .int 1)], [.int 1, .int (nI j), .ref m0], M1)) rfl rfl rfl ?_
        refine pl_call (a := [.ref m0, .int (nI j), .int 1]) (rest := []) rfl rfl rfl (rd_idx1 (n := n) (f := f) (tx := tx) (cN := cN) (A := A) (N := N) (mj := mj) (E := E) (k := j) hR3 hi7 hi8 hi9 hF_10 hY_11 hP_12 (hEP) (hN) (hmj) (by omega)) (fun v20 M21 q22 => ?_)
        obtain ⟨rfl, rfl⟩ := q22
        show pl _ _ _ (126, [(0, .ref m0), (1, .int (nI j)), (2, .int 1)], [.int (nI (fi f E j))], M1) _
        have hix_123 := fi_lt f E j
        refine ps_st (S' := (130, [], [.int (nI (fi f E j))], M1)) rfl rfl rfl ?_
        exact ps_reti rfl (⟨I2, R, rfl, hR3, hEI13, hER, hi4⟩)
      · have c_94 : ¬ ((nI (tg f E j)) = 8) := of_decide_eq_false c_94
        have n_94 : ¬ (tg f E j = 8) := fun h9 => c_94 ((eq_nI (p := tg f E j) (n := 8) (Nat.lt_trans (tg_lt _ _ _) (by decide)) (by decide)).mpr h9)
        refine ps_st (S' := (98, [(3, .int (nI (tg f E j))), (0, .ref m0), (1, .int (nI j)), (2, .int 1)], [.int (nI (tg f E j))], M1)) rfl rfl rfl ?_
        refine ps_st (S' := (100, [(3, .int (nI (tg f E j))), (0, .ref m0), (1, .int (nI j)), (2, .int 1)], [.int 16, .int (nI (tg f E j))], M1)) rfl rfl rfl ?_
        refine ps_if2 (S1 := (115, [(0, .ref m0), (1, .int (nI j)), (2, .int 1)], [], M1)) (S2 := (103, [(3, .int (nI (tg f E j))), (0, .ref m0), (1, .int (nI j)), (2, .int 1)], [], M1)) rfl rfl rfl (fun c_100 => ?_) (fun c_100 => ?_)
        · have c_100 : (nI (tg f E j)) = 16 := of_decide_eq_true c_100
          have n_100 : tg f E j = 16 := (eq_nI (p := tg f E j) (n := 16) (Nat.lt_trans (tg_lt _ _ _) (by decide)) (by decide)).mp c_100
          refine ps_st (S' := (116, [(0, .ref m0), (1, .int (nI j)), (2, .int 1)], [.int 1], M1)) rfl rfl rfl ?_
          refine ps_st (S' := (117, [(0, .ref m0), (1, .int (nI j)), (2, .int 1)], [.int 1, .int 1], M1)) rfl rfl rfl ?_
          refine ps_if2 (S1 := (129, [(0, .ref m0), (1, .int (nI j)), (2, .int 1)], [], M1)) (S2 := (120, [(0, .ref m0), (1, .int (nI j)), (2, .int 1)], [], M1)) rfl rfl rfl (fun c_117 => ?_) (fun c_117 => ?_)
          · exact absurd (of_decide_eq_true c_117) (by decide)
          refine ps_st (S' := (121, [(0, .ref m0), (1, .int (nI j)), (2, .int 1)], [.ref m0], M1)) rfl rfl rfl ?_
          refine ps_st (S' := (122, [(0, .ref m0), (1, .int (nI j)), (2, .int 1)], [.int (nI j), .ref m0], M1)) rfl rfl rfl ?_
          refine ps_st (S' := (123, [(0, .ref m0), (1, .int (nI j)), (2, .int 1)], [.int 1, .int (nI j), .ref m0], M1)) rfl rfl rfl ?_
          refine pl_call (a := [.ref m0, .int (nI j), .int 1]) (rest := []) rfl rfl rfl (rd_idx1 (n := n) (f := f) (tx := tx) (cN := cN) (A := A) (N := N) (mj := mj) (E := E) (k := j) hR3 hi7 hi8 hi9 hF_10 hY_11 hP_12 (hEP) (hN) (hmj) (by omega)) (fun v23 M24 q25 => ?_)
          obtain ⟨rfl, rfl⟩ := q25
          show pl _ _ _ (126, [(0, .ref m0), (1, .int (nI j)), (2, .int 1)], [.int (nI (fi f E j))], M1) _
          have hix_123 := fi_lt f E j
          refine ps_st (S' := (130, [], [.int (nI (fi f E j))], M1)) rfl rfl rfl ?_
          exact ps_reti rfl (⟨I2, R, rfl, hR3, hEI13, hER, hi4⟩)
        · have c_100 : ¬ ((nI (tg f E j)) = 16) := of_decide_eq_false c_100
          have n_100 : ¬ (tg f E j = 16) := fun h9 => c_100 ((eq_nI (p := tg f E j) (n := 16) (Nat.lt_trans (tg_lt _ _ _) (by decide)) (by decide)).mpr h9)
          refine ps_st (S' := (104, [(3, .int (nI (tg f E j))), (0, .ref m0), (1, .int (nI j)), (2, .int 1)], [.int (nI (tg f E j))], M1)) rfl rfl rfl ?_
          refine ps_st (S' := (106, [(3, .int (nI (tg f E j))), (0, .ref m0), (1, .int (nI j)), (2, .int 1)], [.int 19, .int (nI (tg f E j))], M1)) rfl rfl rfl ?_
          refine ps_if2 (S1 := (115, [(0, .ref m0), (1, .int (nI j)), (2, .int 1)], [], M1)) (S2 := (109, [(3, .int (nI (tg f E j))), (0, .ref m0), (1, .int (nI j)), (2, .int 1)], [], M1)) rfl rfl rfl (fun c_106 => ?_) (fun c_106 => ?_)
          · have c_106 : (nI (tg f E j)) = 19 := of_decide_eq_true c_106
            have n_106 : tg f E j = 19 := (eq_nI (p := tg f E j) (n := 19) (Nat.lt_trans (tg_lt _ _ _) (by decide)) (by decide)).mp c_106
            refine ps_st (S' := (116, [(0, .ref m0), (1, .int (nI j)), (2, .int 1)], [.int 1], M1)) rfl rfl rfl ?_
            refine ps_st (S' := (117, [(0, .ref m0), (1, .int (nI j)), (2, .int 1)], [.int 1, .int 1], M1)) rfl rfl rfl ?_
            refine ps_if2 (S1 := (129, [(0, .ref m0), (1, .int (nI j)), (2, .int 1)], [], M1)) (S2 := (120, [(0, .ref m0), (1, .int (nI j)), (2, .int 1)], [], M1)) rfl rfl rfl (fun c_117 => ?_) (fun c_117 => ?_)
            · exact absurd (of_decide_eq_true c_117) (by decide)
            refine ps_st (S' := (121, [(0, .ref m0), (1, .int (nI j)), (2, .int 1)], [.ref m0], M1)) rfl rfl rfl ?_
            refine ps_st (S' := (122, [(0, .ref m0), (1, .int (nI j)), (2, .int 1)], [.int (nI j), .ref m0], M1)) rfl rfl rfl ?_
            refine ps_st (S' := (123, [(0, .ref m0), (1, .int (nI j)), (2, .int 1)], [.int 1, .int (nI j), .ref m0], M1)) rfl rfl rfl ?_
            refine pl_call (a := [.ref m0, .int (nI j), .int 1]) (rest := []) rfl rfl rfl (rd_idx1 (n := n) (f := f) (tx := tx) (cN := cN) (A := A) (N := N) (mj := mj) (E := E) (k := j) hR3 hi7 hi8 hi9 hF_10 hY_11 hP_12 (hEP) (hN) (hmj) (by omega)) (fun v26 M27 q28 => ?_)
            obtain ⟨rfl, rfl⟩ := q28
            show pl _ _ _ (126, [(0, .ref m0), (1, .int (nI j)), (2, .int 1)], [.int (nI (fi f E j))], M1) _
            have hix_123 := fi_lt f E j
            refine ps_st (S' := (130, [], [.int (nI (fi f E j))], M1)) rfl rfl rfl ?_
            exact ps_reti rfl (⟨I2, R, rfl, hR3, hEI13, hER, hi4⟩)
          · have c_106 : ¬ ((nI (tg f E j)) = 19) := of_decide_eq_false c_106
            have n_106 : ¬ (tg f E j = 19) := fun h9 => c_106 ((eq_nI (p := tg f E j) (n := 19) (Nat.lt_trans (tg_lt _ _ _) (by decide)) (by decide)).mpr h9)
            refine ps_st (S' := (110, [(3, .int (nI (tg f E j))), (0, .ref m0), (1, .int (nI j)), (2, .int 1)], [.int (nI (tg f E j))], M1)) rfl rfl rfl ?_
            refine ps_st (S' := (112, [(3, .int (nI (tg f E j))), (0, .ref m0), (1, .int (nI j)), (2, .int 1)], [.int 20, .int (nI (tg f E j))], M1)) rfl rfl rfl ?_
            refine ps_if2 (S1 := (131, [(3, .int (nI (tg f E j))), (0, .ref m0), (1, .int (nI j)), (2, .int 1)], [], M1)) (S2 := (115, [(0, .ref m0), (1, .int (nI j)), (2, .int 1)], [], M1)) rfl rfl rfl (fun c_112 => ?_) (fun c_112 => ?_)
            · have c_112 : ¬ (nI (tg f E j)) = 20 := of_decide_eq_true c_112
              have n_112 : ¬ (tg f E j = 20) := fun h9 => c_112 ((eq_nI (p := tg f E j) (n := 20) (Nat.lt_trans (tg_lt _ _ _) (by decide)) (by decide)).mpr h9)
              refine ps_st (S' := (132, [(3, .int (nI (tg f E j))), (0, .ref m0), (1, .int (nI j)), (2, .int 1)], [.int (nI (tg f E j))], M1)) rfl rfl rfl ?_
              refine ps_st (S' := (134, [(3, .int (nI (tg f E j))), (0, .ref m0), (1, .int (nI j)), (2, .int 1)], [.int 9, .int (nI (tg f E j))], M1)) rfl rfl rfl ?_
              refine ps_if2 (S1 := (143, [(0, .ref m0), (1, .int (nI j)), (2, .int 1), (3, .int (nI (tg f E j)))], [], M1)) (S2 := (137, [(3, .int (nI (tg f E j))), (0, .ref m0), (1, .int (nI j)), (2, .int 1)], [], M1)) rfl rfl rfl (fun c_134 => ?_) (fun c_134 => ?_)
              · have c_134 : (nI (tg f E j)) < 9 := of_decide_eq_true c_134
                have n_134 : tg f E j < 9 := (lt_nI (p := tg f E j) (n := 9) (Nat.lt_trans (tg_lt _ _ _) (by decide)) (by decide)).mp c_134
                refine ps_st (S' := (144, [(0, .ref m0), (1, .int (nI j)), (2, .int 1), (3, .int (nI (tg f E j)))], [.int (nI (tg f E j))], M1)) rfl rfl rfl ?_
                refine ps_st (S' := (146, [(0, .ref m0), (1, .int (nI j)), (2, .int 1), (3, .int (nI (tg f E j)))], [.int 17, .int (nI (tg f E j))], M1)) rfl rfl rfl ?_
                refine ps_if2 (S1 := (155, [(0, .ref m0), (1, .int (nI j)), (2, .int 1)], [], M1)) (S2 := (149, [(0, .ref m0), (1, .int (nI j)), (2, .int 1), (3, .int (nI (tg f E j)))], [], M1)) rfl rfl rfl (fun c_146 => ?_) (fun c_146 => ?_)
                · exact absurd (of_decide_eq_true c_146) (show ¬ ((nI (tg f E j)) = 17) from fun h9 => absurd ((eq_nI (p := tg f E j) (n := 17) (Nat.lt_trans (tg_lt _ _ _) (by decide)) (by decide)).mp h9) (by omega))
                refine ps_st (S' := (150, [(0, .ref m0), (1, .int (nI j)), (2, .int 1), (3, .int (nI (tg f E j)))], [.int (nI (tg f E j))], M1)) rfl rfl rfl ?_
                refine ps_st (S' := (152, [(0, .ref m0), (1, .int (nI j)), (2, .int 1), (3, .int (nI (tg f E j)))], [.int 18, .int (nI (tg f E j))], M1)) rfl rfl rfl ?_
                refine ps_if2 (S1 := (171, [(0, .ref m0), (1, .int (nI j)), (2, .int 1), (3, .int (nI (tg f E j)))], [], M1)) (S2 := (155, [(0, .ref m0), (1, .int (nI j)), (2, .int 1)], [], M1)) rfl rfl rfl (fun c_152 => ?_) (fun c_152 => ?_)
                rotate_left
                · exact absurd (show ¬ ((nI (tg f E j)) = 18) from fun h9 => absurd ((eq_nI (p := tg f E j) (n := 18) (Nat.lt_trans (tg_lt _ _ _) (by decide)) (by decide)).mp h9) (by omega)) (of_decide_eq_false c_152)
                refine ps_st (S' := (172, [(0, .ref m0), (1, .int (nI j)), (2, .int 1), (3, .int (nI (tg f E j)))], [.int 0], M1)) rfl rfl rfl ?_
                exact ps_ret rfl rfl (⟨I2, R, by rw [(ix_7 (by omega)).1]; rfl, hR3, hEI13, hER, hi4⟩)
              · have c_134 : ¬ ((nI (tg f E j)) < 9) := of_decide_eq_false c_134
                have n_134 : ¬ (tg f E j < 9) := fun h9 => c_134 ((lt_nI (p := tg f E j) (n := 9) (Nat.lt_trans (tg_lt _ _ _) (by decide)) (by decide)).mpr h9)
                refine ps_st (S' := (138, [(3, .int (nI (tg f E j))), (0, .ref m0), (1, .int (nI j)), (2, .int 1)], [.int (nI (tg f E j))], M1)) rfl rfl rfl ?_
                refine ps_st (S' := (140, [(3, .int (nI (tg f E j))), (0, .ref m0), (1, .int (nI j)), (2, .int 1)], [.int 12, .int (nI (tg f E j))], M1)) rfl rfl rfl ?_
                refine ps_if2 (S1 := (155, [(0, .ref m0), (1, .int (nI j)), (2, .int 1)], [], M1)) (S2 := (143, [(0, .ref m0), (1, .int (nI j)), (2, .int 1), (3, .int (nI (tg f E j)))], [], M1)) rfl rfl rfl (fun c_140 => ?_) (fun c_140 => ?_)
                · have c_140 : (nI (tg f E j)) ≤ 12 := of_decide_eq_true c_140
                  have n_140 : tg f E j ≤ 12 := (le_nI (p := tg f E j) (n := 12) (Nat.lt_trans (tg_lt _ _ _) (by decide)) (by decide)).mp c_140
                  refine ps_st (S' := (156, [(0, .ref m0), (1, .int (nI j)), (2, .int 1)], [.ref m0], M1)) rfl rfl rfl ?_
                  refine ps_st (S' := (157, [(0, .ref m0), (1, .int (nI j)), (2, .int 1)], [.int (nI j), .ref m0], M1)) rfl rfl rfl ?_
                  refine ps_st (S' := (158, [(0, .ref m0), (1, .int (nI j)), (2, .int 1)], [.int 1, .int (nI j), .ref m0], M1)) rfl rfl rfl ?_
                  refine ps_st (S' := (159, [(0, .ref m0), (1, .int (nI j)), (2, .int 1)], [.int 1, .int 1, .int (nI j), .ref m0], M1)) rfl rfl rfl ?_
                  refine ps_if2 (S1 := (166, [(0, .ref m0), (1, .int (nI j)), (2, .int 1)], [.int (nI j), .ref m0], M1)) (S2 := (162, [(0, .ref m0), (1, .int (nI j)), (2, .int 1)], [.int (nI j), .ref m0], M1)) rfl rfl rfl (fun c_159 => ?_) (fun c_159 => ?_)
                  · exact absurd (of_decide_eq_true c_159) (by decide)
                  refine ps_st (S' := (163, [(0, .ref m0), (1, .int (nI j)), (2, .int 1)], [.int 1, .int (nI j), .ref m0], M1)) rfl rfl rfl ?_
                  refine ps_st (S' := (167, [], [.int 1, .int (nI j), .ref m0], M1)) rfl rfl rfl ?_
                  refine pl_call (a := [.ref m0, .int (nI j), .int 1]) (rest := []) rfl rfl rfl (rd_idx1 (n := n) (f := f) (tx := tx) (cN := cN) (A := A) (N := N) (mj := mj) (E := E) (k := j) hR3 hi7 hi8 hi9 hF_10 hY_11 hP_12 (hEP) (hN) (hmj) (by omega)) (fun v29 M30 q31 => ?_)
                  obtain ⟨rfl, rfl⟩ := q31
                  show pl _ _ _ (170, [], [.int (nI (fi f E j))], M1) _
                  have hix_167 := fi_lt f E j
                  exact ps_reti rfl (⟨I2, R, rfl, hR3, hEI13, hER, hi4⟩)
                · have c_140 : ¬ ((nI (tg f E j)) ≤ 12) := of_decide_eq_false c_140
                  have n_140 : ¬ (tg f E j ≤ 12) := fun h9 => c_140 ((le_nI (p := tg f E j) (n := 12) (Nat.lt_trans (tg_lt _ _ _) (by decide)) (by decide)).mpr h9)
                  refine ps_st (S' := (144, [(0, .ref m0), (1, .int (nI j)), (2, .int 1), (3, .int (nI (tg f E j)))], [.int (nI (tg f E j))], M1)) rfl rfl rfl ?_
                  refine ps_st (S' := (146, [(0, .ref m0), (1, .int (nI j)), (2, .int 1), (3, .int (nI (tg f E j)))], [.int 17, .int (nI (tg f E j))], M1)) rfl rfl rfl ?_
                  refine ps_if2 (S1 := (155, [(0, .ref m0), (1, .int (nI j)), (2, .int 1)], [], M1)) (S2 := (149, [(0, .ref m0), (1, .int (nI j)), (2, .int 1), (3, .int (nI (tg f E j)))], [], M1)) rfl rfl rfl (fun c_146 => ?_) (fun c_146 => ?_)
                  · have c_146 : (nI (tg f E j)) = 17 := of_decide_eq_true c_146
                    have n_146 : tg f E j = 17 := (eq_nI (p := tg f E j) (n := 17) (Nat.lt_trans (tg_lt _ _ _) (by decide)) (by decide)).mp c_146
                    refine ps_st (S' := (156, [(0, .ref m0), (1, .int (nI j)), (2, .int 1)], [.ref m0], M1)) rfl rfl rfl ?_
                    refine ps_st (S' := (157, [(0, .ref m0), (1, .int (nI j)), (2, .int 1)], [.int (nI j), .ref m0], M1)) rfl rfl rfl ?_
                    refine ps_st (S' := (158, [(0, .ref m0), (1, .int (nI j)), (2, .int 1)], [.int 1, .int (nI j), .ref m0], M1)) rfl rfl rfl ?_
                    refine ps_st (S' := (159, [(0, .ref m0), (1, .int (nI j)), (2, .int 1)], [.int 1, .int 1, .int (nI j), .ref m0], M1)) rfl rfl rfl ?_
                    refine ps_if2 (S1 := (166, [(0, .ref m0), (1, .int (nI j)), (2, .int 1)], [.int (nI j), .ref m0], M1)) (S2 := (162, [(0, .ref m0), (1, .int (nI j)), (2, .int 1)], [.int (nI j), .ref m0], M1)) rfl rfl rfl (fun c_159 => ?_) (fun c_159 => ?_)
                    · exact absurd (of_decide_eq_true c_159) (by decide)
                    refine ps_st (S' := (163, [(0, .ref m0), (1, .int (nI j)), (2, .int 1)], [.int 1, .int (nI j), .ref m0], M1)) rfl rfl rfl ?_
                    refine ps_st (S' := (167, [], [.int 1, .int (nI j), .ref m0], M1)) rfl rfl rfl ?_
                    refine pl_call (a := [.ref m0, .int (nI j), .int 1]) (rest := []) rfl rfl rfl (rd_idx1 (n := n) (f := f) (tx := tx) (cN := cN) (A := A) (N := N) (mj := mj) (E := E) (k := j) hR3 hi7 hi8 hi9 hF_10 hY_11 hP_12 (hEP) (hN) (hmj) (by omega)) (fun v32 M33 q34 => ?_)
                    obtain ⟨rfl, rfl⟩ := q34
                    show pl _ _ _ (170, [], [.int (nI (fi f E j))], M1) _
                    have hix_167 := fi_lt f E j
                    exact ps_reti rfl (⟨I2, R, rfl, hR3, hEI13, hER, hi4⟩)
                  · have c_146 : ¬ ((nI (tg f E j)) = 17) := of_decide_eq_false c_146
                    have n_146 : ¬ (tg f E j = 17) := fun h9 => c_146 ((eq_nI (p := tg f E j) (n := 17) (Nat.lt_trans (tg_lt _ _ _) (by decide)) (by decide)).mpr h9)
                    refine ps_st (S' := (150, [(0, .ref m0), (1, .int (nI j)), (2, .int 1), (3, .int (nI (tg f E j)))], [.int (nI (tg f E j))], M1)) rfl rfl rfl ?_
                    refine ps_st (S' := (152, [(0, .ref m0), (1, .int (nI j)), (2, .int 1), (3, .int (nI (tg f E j)))], [.int 18, .int (nI (tg f E j))], M1)) rfl rfl rfl ?_
                    refine ps_if2 (S1 := (171, [(0, .ref m0), (1, .int (nI j)), (2, .int 1), (3, .int (nI (tg f E j)))], [], M1)) (S2 := (155, [(0, .ref m0), (1, .int (nI j)), (2, .int 1)], [], M1)) rfl rfl rfl (fun c_152 => ?_) (fun c_152 => ?_)
                    · have c_152 : ¬ (nI (tg f E j)) = 18 := of_decide_eq_true c_152
                      have n_152 : ¬ (tg f E j = 18) := fun h9 => c_152 ((eq_nI (p := tg f E j) (n := 18) (Nat.lt_trans (tg_lt _ _ _) (by decide)) (by decide)).mpr h9)
                      refine ps_st (S' := (172, [(0, .ref m0), (1, .int (nI j)), (2, .int 1), (3, .int (nI (tg f E j)))], [.int 0], M1)) rfl rfl rfl ?_
                      exact ps_ret rfl rfl (⟨I2, R, by rw [(ix_7 (by omega)).1]; rfl, hR3, hEI13, hER, hi4⟩)
                    · have c_152 : ¬ (¬ (nI (tg f E j)) = 18) := of_decide_eq_false c_152
                      have n_152 : tg f E j = 18 := (eq_nI (p := tg f E j) (n := 18) (Nat.lt_trans (tg_lt _ _ _) (by decide)) (by decide)).mp (Decidable.not_not.mp c_152)
                      refine ps_st (S' := (156, [(0, .ref m0), (1, .int (nI j)), (2, .int 1)], [.ref m0], M1)) rfl rfl rfl ?_
                      refine ps_st (S' := (157, [(0, .ref m0), (1, .int (nI j)), (2, .int 1)], [.int (nI j), .ref m0], M1)) rfl rfl rfl ?_
                      refine ps_st (S' := (158, [(0, .ref m0), (1, .int (nI j)), (2, .int 1)], [.int 1, .int (nI j), .ref m0], M1)) rfl rfl rfl ?_
                      refine ps_st (S' := (159, [(0, .ref m0), (1, .int (nI j)), (2, .int 1)], [.int 1, .int 1, .int (nI j), .ref m0], M1)) rfl rfl rfl ?_
                      refine ps_if2 (S1 := (166, [(0, .ref m0), (1, .int (nI j)), (2, .int 1)], [.int (nI j), .ref m0], M1)) (S2 := (162, [(0, .ref m0), (1, .int (nI j)), (2, .int 1)], [.int (nI j), .ref m0], M1)) rfl rfl rfl (fun c_159 => ?_) (fun c_159 => ?_)
                      · exact absurd (of_decide_eq_true c_159) (by decide)
                      refine ps_st (S' := (163, [(0, .ref m0), (1, .int (nI j)), (2, .int 1)], [.int 1, .int (nI j), .ref m0], M1)) rfl rfl rfl ?_
                      refine ps_st (S' := (167, [], [.int 1, .int (nI j), .ref m0], M1)) rfl rfl rfl ?_
                      refine pl_call (a := [.ref m0, .int (nI j), .int 1]) (rest := []) rfl rfl rfl (rd_idx1 (n := n) (f := f) (tx := tx) (cN := cN) (A := A) (N := N) (mj := mj) (E := E) (k := j) hR3 hi7 hi8 hi9 hF_10 hY_11 hP_12 (hEP) (hN) (hmj) (by omega)) (fun v35 M36 q37 => ?_)
                      obtain ⟨rfl, rfl⟩ := q37
                      show pl _ _ _ (170, [], [.int (nI (fi f E j))], M1) _
                      have hix_167 := fi_lt f E j
                      exact ps_reti rfl (⟨I2, R, rfl, hR3, hEI13, hER, hi4⟩)
            · have c_112 : ¬ (¬ (nI (tg f E j)) = 20) := of_decide_eq_false c_112
              have n_112 : tg f E j = 20 := (eq_nI (p := tg f E j) (n := 20) (Nat.lt_trans (tg_lt _ _ _) (by decide)) (by decide)).mp (Decidable.not_not.mp c_112)
              refine ps_st (S' := (116, [(0, .ref m0), (1, .int (nI j)), (2, .int 1)], [.int 1], M1)) rfl rfl rfl ?_
              refine ps_st (S' := (117, [(0, .ref m0), (1, .int (nI j)), (2, .int 1)], [.int 1, .int 1], M1)) rfl rfl rfl ?_
              refine ps_if2 (S1 := (129, [(0, .ref m0), (1, .int (nI j)), (2, .int 1)], [], M1)) (S2 := (120, [(0, .ref m0), (1, .int (nI j)), (2, .int 1)], [], M1)) rfl rfl rfl (fun c_117 => ?_) (fun c_117 => ?_)
              · exact absurd (of_decide_eq_true c_117) (by decide)
              refine ps_st (S' := (121, [(0, .ref m0), (1, .int (nI j)), (2, .int 1)], [.ref m0], M1)) rfl rfl rfl ?_
              refine ps_st (S' := (122, [(0, .ref m0), (1, .int (nI j)), (2, .int 1)], [.int (nI j), .ref m0], M1)) rfl rfl rfl ?_
              refine ps_st (S' := (123, [(0, .ref m0), (1, .int (nI j)), (2, .int 1)], [.int 1, .int (nI j), .ref m0], M1)) rfl rfl rfl ?_
              refine pl_call (a := [.ref m0, .int (nI j), .int 1]) (rest := []) rfl rfl rfl (rd_idx1 (n := n) (f := f) (tx := tx) (cN := cN) (A := A) (N := N) (mj := mj) (E := E) (k := j) hR3 hi7 hi8 hi9 hF_10 hY_11 hP_12 (hEP) (hN) (hmj) (by omega)) (fun v38 M39 q40 => ?_)
              obtain ⟨rfl, rfl⟩ := q40
              show pl _ _ _ (126, [(0, .ref m0), (1, .int (nI j)), (2, .int 1)], [.int (nI (fi f E j))], M1) _
              have hix_123 := fi_lt f E j
              refine ps_st (S' := (130, [], [.int (nI (fi f E j))], M1)) rfl rfl rfl ?_
              exact ps_reti rfl (⟨I2, R, rfl, hR3, hEI13, hER, hi4⟩)
  · have c_55 : ¬ (¬ (nI (tg f E j)) = 15) := of_decide_eq_false c_55
    have n_55 : tg f E j = 15 := (eq_nI (p := tg f E j) (n := 15) (Nat.lt_trans (tg_lt _ _ _) (by decide)) (by decide)).mp (Decidable.not_not.mp c_55)
    refine ps_st (S' := (59, [(3, .int (nI (tg f E j))), (0, .ref m0), (1, .int (nI j)), (2, .int 1)], [.int 1], M1)) rfl rfl rfl ?_
    refine ps_st (S' := (60, [(3, .int (nI (tg f E j))), (0, .ref m0), (1, .int (nI j)), (2, .int 1)], [.int 1, .int 1], M1)) rfl rfl rfl ?_
    refine ps_if2 (S1 := (78, [(3, .int (nI (tg f E j))), (0, .ref m0), (1, .int (nI j)), (2, .int 1)], [], M1)) (S2 := (63, [(3, .int (nI (tg f E j))), (0, .ref m0), (1, .int (nI j)), (2, .int 1)], [], M1)) rfl rfl rfl (fun c_60 => ?_) (fun c_60 => ?_)
    · exact absurd (of_decide_eq_true c_60) (by decide)
    obtain ⟨p, hk9, hb9⟩ := tg_lk (f := f) (E := E) (k := j) (by omega)
    have ha9 := hP_12.at hk9
    have hep9 := hEP j p hk9
    refine ps_st (S' := (64, [(3, .int (nI (tg f E j))), (0, .ref m0), (1, .int (nI j)), (2, .int 1)], [.ref m0], M1)) rfl rfl rfl ?_
    refine ps_st (S' := (65, [(3, .int (nI (tg f E j))), (0, .ref m0), (1, .int (nI j)), (2, .int 1)], [.ref m0, .ref m0], M1)) rfl rfl rfl ?_
    refine pr_ref (j := 21) (S' := (68, [(3, .int (nI (tg f E j))), (0, .ref m0), (1, .int (nI j)), (2, .int 1)], [.ref (q 21), .ref m0], M1)) rfl hR3 rfl rfl ?_
    refine ps_st (S' := (69, [(3, .int (nI (tg f E j))), (0, .ref m0), (1, .int (nI j)), (2, .int 1)], [.int (nI j), .ref (q 21), .ref m0], M1)) rfl rfl rfl ?_
    refine pr_ld (a := 21) (j := j) (y := (nI p)) (S' := (70, [(3, .int (nI (tg f E j))), (0, .ref m0), (1, .int (nI j)), (2, .int 1)], [.int (nI p), .ref m0], M1)) rfl hR3 rfl (by omega) (fun _ => ha9.2.2) rfl (fun i1_69 => ?_)
    refine ps_st (S' := (71, [(3, .int (nI (tg f E j))), (0, .ref m0), (1, .int (nI j)), (2, .int 1)], [.int 1, .int (nI p), .ref m0], M1)) rfl rfl rfl ?_
    refine ps_st (S' := (72, [(3, .int (nI (tg f E j))), (0, .ref m0), (1, .int (nI j)), (2, .int 1)], [.int ((nI p) + 1), .ref m0], M1)) rfl rfl rfl ?_
    rw [nI_add1 (p := p) (k := 1) (x := 1) rfl (by omega)]
    show pl _ _ _ (_, [(3, .int (nI (tg f E j))), (0, .ref m0), (1, .int (nI j)), (2, .int 1)], [.int (nI (p + 1)), .ref m0], M1) _
    refine pl_call (a := [.ref m0, .int (nI (p + 1))]) (rest := []) rfl rfl rfl (rd_u1 (n := n) (f := f) (p := (p + 1)) hR3 hF_10 (by omega)) (fun v41 M42 q43 => ?_)
    obtain ⟨rfl, rfl⟩ := q43
    show pl _ _ _ (75, [(3, .int (nI (tg f E j))), (0, .ref m0), (1, .int (nI j)), (2, .int 1)], [.int (nI (by1 f (p + 1)))], M1) _
    have hu_72 := by1_lt f (p + 1)
    refine ps_st (S' := (84, [], [.int (nI (by1 f (p + 1)))], M1)) rfl rfl rfl ?_
    exact ps_reti rfl (⟨I2, R, by rw [fi_15 hk9 (by omega)], hR3, hEI13, hER, hi4⟩)
set_option maxHeartbeats 1000000 in
theorem rd_entry_2 {g : xe_G} {m0 : Nat} {q : Nat → Nat} {z : Nat × Nat} {I : rI} {R : rR} {M : mi_H} {n : Nat} {f : Nat → Int32} {tx : List (List Nat)} {cN : Nat} {A : Nat → Nat} {N mj : Nat} {E : List (Nat × Nat)} {j n2 p1 : Nat} (hR : RS g m0 q z I R M) (hi18 : I 18 = some (nI n2)) (hi51 : I 51 = some 0) (hi52 : I 52 = some (nI N)) (hi53 : I 53 = some (nI mj)) (hF : FK n f I R) (hY : SYT tx cN A I R) (hP : RPV f n E tx N I R) (hEP : EP f n E) (hN : N < 65536) (hmj : mj < 65536) (hn2 : n2 ≤ 65540) (hj : j < N) (hpl : s_pool f n mj = .inr (p1, E)) : pt (mT g) 204 [.ref m0, .int (nI j), .int 2] M (fun v M' => (∃  (I' : rI) (R' : rR), v = some (.int (nI (se f E j))) ∧ RS g m0 q z I' R' M' ∧ eqI [0] I I' ∧ eqR [] R R' ∧ I' 0 = some 0)) := by
  refine pt_in (b := mb_204 g) rfl (fun kf => ?_)
  show pl (mT g) kf (mb_204 g).2 (0, [(0, .ref m0), (1, .int (nI j)), (2, .int 2)], [], M) _
  have hEI : eqI [0] I I := eqI.rf
  have hER : eqR [] R R := eqR.rf
  have hn := hF.1
  have hto := tg_ok (k := j) hpl
  unfold tgOk at hto
  have htl9 := tg_lt f E j
  refine ps_st (S' := (1, [(0, .ref m0), (1, .int (nI j)), (2, .int 2)], [.ref m0], M)) rfl rfl rfl ?_
  refine ps_st (S' := (2, [(0, .ref m0), (1, .int (nI j)), (2, .int 2)], [.int 0, .ref m0], M)) rfl rfl rfl ?_
  refine pr_put (j := 0) rfl hR rfl (fun M1 I2 hR3 hi4 hI5 => ?_)
  have hi6 := (hI5 18 (by decide)).trans hi18
  have hi7 := (hI5 51 (by decide)).trans hi51
  have hi8 := (hI5 52 (by decide)).trans hi52
  have hi9 := (hI5 53 (by decide)).trans hi53
  have hF_10 := hF.mono (pIx hI5 (by decide)) (fun _ _ => rfl)
  have hY_11 := hY.mono (pIx hI5 (by decide)) (fun _ _ => rfl)
  have hP_12 := hP.mono (pIx hI5 (by decide)) (fun _ _ => rfl)
  have hEI13 := hEI.put hI5 (by decide)
  show pl _ _ _ (5, [(0, .ref m0), (1, .int (nI j)), (2, .int 2)], [], M1) _
  refine ps_st (S' := (6, [(0, .ref m0), (1, .int (nI j)), (2, .int 2)], [.int 2], M1)) rfl rfl rfl ?_
  refine ps_if (S1 := (14, [(0, .ref m0)], [], M1)) (S2 := (9, [(0, .ref m0), (1, .int (nI j)), (2, .int 2)], [], M1)) rfl rfl rfl (fun c_6 => ?_) (fun c_6 => ?_)
  · exact absurd (of_decide_eq_true c_6) (by decide)
  refine ps_st (S' := (10, [(0, .ref m0), (1, .int (nI j)), (2, .int 2)], [.int 2], M1)) rfl rfl rfl ?_
  refine ps_st (S' := (11, [(0, .ref m0), (1, .int (nI j)), (2, .int 2)], [.int 2, .int 2], M1)) rfl rfl rfl ?_
  refine ps_if2 (S1 := (19, [(0, .ref m0), (1, .int (nI j)), (2, .int 2)], [], M1)) (S2 := (14, [(0, .ref m0)], [], M1)) rfl rfl rfl (fun c_11 => ?_) (fun c_11 => ?_)
  rotate_left
  · exact absurd (by decide) (of_decide_eq_false c_11)
  refine ps_st (S' := (20, [(0, .ref m0), (1, .int (nI j)), (2, .int 2)], [.ref m0], M1)) rfl rfl rfl ?_
  refine pr_int (j := 18) (S' := (23, [(0, .ref m0), (1, .int (nI j)), (2, .int 2)], [.int (nI n2)], M1)) rfl hR3 rfl hi6 rfl ?_
  refine ps_if (S1 := (38, [], [], M1)) (S2 := (26, [(0, .ref m0), (1, .int (nI j)), (2, .int 2)], [], M1)) rfl rfl rfl (fun c_23 => ?_) (fun c_23 => ?_)
  · exact absurd (of_decide_eq_true c_23) (show ¬ ((nI n2) < 0) from fun h9 => absurd ((lt_nI (p := n2) (n := 0) (by omega) (by decide)).mp h9) (by omega))
  refine ps_st (S' := (27, [(0, .ref m0), (1, .int (nI j)), (2, .int 2)], [.int (nI j)], M1)) rfl rfl rfl ?_
  refine ps_if (S1 := (38, [], [], M1)) (S2 := (30, [(0, .ref m0), (1, .int (nI j)), (2, .int 2)], [], M1)) rfl rfl rfl (fun c_27 => ?_) (fun c_27 => ?_)
  · exact absurd (of_decide_eq_true c_27) (show ¬ ((nI j) < 0) from fun h9 => absurd ((lt_nI (p := j) (n := 0) (by omega) (by decide)).mp h9) (by omega))
  refine ps_st (S' := (31, [(0, .ref m0), (1, .int (nI j)), (2, .int 2)], [.int (nI j)], M1)) rfl rfl rfl ?_
  refine ps_st (S' := (32, [(0, .ref m0), (1, .int (nI j)), (2, .int 2)], [.ref m0, .int (nI j)], M1)) rfl rfl rfl ?_
  refine pr_int (j := 52) (S' := (35, [(0, .ref m0), (1, .int (nI j)), (2, .int 2)], [.int (nI N), .int (nI j)], M1)) rfl hR3 rfl hi8 rfl ?_
  refine ps_if2 (S1 := (40, [(0, .ref m0), (1, .int (nI j)), (2, .int 2)], [], M1)) (S2 := (38, [], [], M1)) rfl rfl rfl (fun c_35 => ?_) (fun c_35 => ?_)
  rotate_left
  · exact absurd ((lt_nI (by omega) (by omega)).mpr hj) (of_decide_eq_false c_35)
  refine ps_st (S' := (41, [(0, .ref m0), (1, .int (nI j)), (2, .int 2)], [.ref m0], M1)) rfl rfl rfl ?_
  refine ps_st (S' := (42, [(0, .ref m0), (1, .int (nI j)), (2, .int 2)], [.int (nI j), .ref m0], M1)) rfl rfl rfl ?_
  refine pl_call (a := [.ref m0, .int (nI j)]) (rest := []) rfl rfl rfl (rd_tag (n := n) (f := f) (tx := tx) (cN := cN) (A := A) (N := N) (mj := mj) (E := E) (k := j) hR3 hi7 hi8 hi9 hF_10 hY_11 hP_12 (hEP) (hN) (hmj) (by omega)) (fun v14 M15 q16 => ?_)
  obtain ⟨rfl, rfl⟩ := q16
  show pl _ _ _ (45, [(0, .ref m0), (1, .int (nI j)), (2, .int 2)], [.int (nI (tg f E j))], M1) _
  have htg_42 := tg_lt f E j
  refine ps_st (S' := (46, [(3, .int (nI (tg f E j))), (0, .ref m0), (1, .int (nI j)), (2, .int 2)], [], M1)) rfl rfl rfl ?_
  refine ps_st (S' := (47, [(3, .int (nI (tg f E j))), (0, .ref m0), (1, .int (nI j)), (2, .int 2)], [.int 2], M1)) rfl rfl rfl ?_
  refine ps_if (S1 := (52, [(3, .int (nI (tg f E j))), (0, .ref m0), (1, .int (nI j)), (2, .int 2)], [], M1)) (S2 := (50, [(3, .int (nI (tg f E j))), (0, .ref m0), (1, .int (nI j)), (2, .int 2)], [], M1)) rfl rfl rfl (fun c_47 => ?_) (fun c_47 => ?_)
  rotate_left
  · exact absurd (by decide) (of_decide_eq_false c_47)
  refine ps_st (S' := (53, [(3, .int (nI (tg f E j))), (0, .ref m0), (1, .int (nI j)), (2, .int 2)], [.int (nI (tg f E j))], M1)) rfl rfl rfl ?_
  refine ps_st (S' := (55, [(3, .int (nI (tg f E j))), (0, .ref m0), (1, .int (nI j)), (2, .int 2)], [.int 15, .int (nI (tg f E j))], M1)) rfl rfl rfl ?_
  refine ps_if2 (S1 := (85, [(3, .int (nI (tg f E j))), (0, .ref m0), (1, .int (nI j)), (2, .int 2)], [], M1)) (S2 := (58, [(3, .int (nI (tg f E j))), (0, .ref m0), (1, .int (nI j)), (2, .int 2)], [], M1)) rfl rfl rfl (fun c_55 => ?_) (fun c_55 => ?_)
  · have c_55 : ¬ (nI (tg f E j)) = 15 := of_decide_eq_true c_55
    have n_55 : ¬ (tg f E j = 15) := fun h9 => c_55 ((eq_nI (p := tg f E j) (n := 15) (Nat.lt_trans (tg_lt _ _ _) (by decide)) (by decide)).mpr h9)
    refine ps_st (S' := (86, [(3, .int (nI (tg f E j))), (0, .ref m0), (1, .int (nI j)), (2, .int 2)], [.int (nI (tg f E j))], M1)) rfl rfl rfl ?_
    refine ps_st (S' := (88, [(3, .int (nI (tg f E j))), (0, .ref m0), (1, .int (nI j)), (2, .int 2)], [.int 7, .int (nI (tg f E j))], M1)) rfl rfl rfl ?_
    refine ps_if2 (S1 := (115, [(0, .ref m0), (1, .int (nI j)), (2, .int 2)], [], M1)) (S2 := (91, [(3, .int (nI (tg f E j))), (0, .ref m0), (1, .int (nI j)), (2, .int 2)], [], M1)) rfl rfl rfl (fun c_88 => ?_) (fun c_88 => ?_)
    · have c_88 : (nI (tg f E j)) = 7 := of_decide_eq_true c_88
      have n_88 : tg f E j = 7 := (eq_nI (p := tg f E j) (n := 7) (Nat.lt_trans (tg_lt _ _ _) (by decide)) (by decide)).mp c_88
      refine ps_st (S' := (116, [(0, .ref m0), (1, .int (nI j)), (2, .int 2)], [.int 2], M1)) rfl rfl rfl ?_
      refine ps_st (S' := (117, [(0, .ref m0), (1, .int (nI j)), (2, .int 2)], [.int 1, .int 2], M1)) rfl rfl rfl ?_
      refine ps_if2 (S1 := (129, [(0, .ref m0), (1, .int (nI j)), (2, .int 2)], [], M1)) (S2 := (120, [(0, .ref m0), (1, .int (nI j)), (2, .int 2)], [], M1)) rfl rfl rfl (fun c_117 => ?_) (fun c_117 => ?_)
      rotate_left
      · exact absurd (by decide) (of_decide_eq_false c_117)
      refine ps_st (S' := (130, [], [.int 0], M1)) rfl rfl rfl ?_
      exact ps_ret rfl rfl (⟨I2, R, by rw [show se f E j = 0 from (by first | exact (ix_7 (by omega)).2 | exact se_1 (by omega))]; rfl, hR3, hEI13, hER, hi4⟩)
    · have c_88 : ¬ ((nI (tg f E j)) = 7) := of_decide_eq_false c_88
      have n_88 : ¬ (tg f E j = 7) := fun h9 => c_88 ((eq_nI (p := tg f E j) (n := 7) (Nat.lt_trans (tg_lt _ _ _) (by decide)) (by decide)).mpr h9)
      refine ps_st (S' := (92, [(3, .int (nI (tg f E j))), (0, .ref m0), (1, .int (nI j)), (2, .int 2)], [.int (nI (tg f E j))], M1)) rfl rfl rfl ?_
      refine ps_st (S' := (94, [(3, .int (nI (tg f E j))), (0, .ref m0), (1, .int (nI j)), (2, .int 2)], [.int 8, .int (nI (tg f E j))], M1)) rfl rfl rfl ?_
      refine ps_if2 (S1 := (115, [(0, .ref m0), (1, .int (nI j)), (2, .int 2)], [], M1)) (S2 := (97, [(3, .int (nI (tg f E j))), (0, .ref m0), (1, .int (nI j)), (2, .int 2)], [], M1)) rfl rfl rfl (fun c_94 => ?_) (fun c_94 => ?_)
      · have c_94 : (nI (tg f E j)) = 8 := of_decide_eq_true c_94
        have n_94 : tg f E j = 8 := (eq_nI (p := tg f E j) (n := 8) (Nat.lt_trans (tg_lt _ _ _) (by decide)) (by decide)).mp c_94
        refine ps_st (S' := (116, [(0, .ref m0), (1, .int (nI j)), (2, .int 2)], [.int 2], M1)) rfl rfl rfl ?_
        refine ps_st (S' := (117, [(0, .ref m0), (1, .int (nI j)), (2, .int 2)], [.int 1, .int 2], M1)) rfl rfl rfl ?_
        refine ps_if2 (S1 := (129, [(0, .ref m0), (1, .int (nI j)), (2, .int 2)], [], M1)) (S2 := (120, [(0, .ref m0), (1, .int (nI j)), (2, .int 2)], [], M1)) rfl rfl rfl (fun c_117 => ?_) (fun c_117 => ?_)
        rotate_left
        · exact absurd (by decide) (of_decide_eq_false c_117)
        refine ps_st (S' := (130, [], [.int 0], M1)) rfl rfl rfl ?_
        exact ps_ret rfl rfl (⟨I2, R, by rw [show se f E j = 0 from (by first | exact (ix_7 (by omega)).2 | exact se_1 (by omega))]; rfl, hR3, hEI13, hER, hi4⟩)
      · have c_94 : ¬ ((nI (tg f E j)) = 8) := of_decide_eq_false c_94
        have n_94 : ¬ (tg f E j = 8) := fun h9 => c_94 ((eq_nI (p := tg f E j) (n := 8) (Nat.lt_trans (tg_lt _ _ _) (by decide)) (by decide)).mpr h9)
        refine ps_st (S' := (98, [(3, .int (nI (tg f E j))), (0, .ref m0), (1, .int (nI j)), (2, .int 2)], [.int (nI (tg f E j))], M1)) rfl rfl rfl ?_
        refine ps_st (S' := (100, [(3, .int (nI (tg f E j))), (0, .ref m0), (1, .int (nI j)), (2, .int 2)], [.int 16, .int (nI (tg f E j))], M1)) rfl rfl rfl ?_
        refine ps_if2 (S1 := (115, [(0, .ref m0), (1, .int (nI j)), (2, .int 2)], [], M1)) (S2 := (103, [(3, .int (nI (tg f E j))), (0, .ref m0), (1, .int (nI j)), (2, .int 2)], [], M1)) rfl rfl rfl (fun c_100 => ?_) (fun c_100 => ?_)
        · have c_100 : (nI (tg f E j)) = 16 := of_decide_eq_true c_100
          have n_100 : tg f E j = 16 := (eq_nI (p := tg f E j) (n := 16) (Nat.lt_trans (tg_lt _ _ _) (by decide)) (by decide)).mp c_100
          refine ps_st (S' := (116, [(0, .ref m0), (1, .int (nI j)), (2, .int 2)], [.int 2], M1)) rfl rfl rfl ?_
          refine ps_st (S' := (117, [(0, .ref m0), (1, .int (nI j)), (2, .int 2)], [.int 1, .int 2], M1)) rfl rfl rfl ?_
          refine ps_if2 (S1 := (129, [(0, .ref m0), (1, .int (nI j)), (2, .int 2)], [], M1)) (S2 := (120, [(0, .ref m0), (1, .int (nI j)), (2, .int 2)], [], M1)) rfl rfl rfl (fun c_117 => ?_) (fun c_117 => ?_)
          rotate_left
          · exact absurd (by decide) (of_decide_eq_false c_117)
          refine ps_st (S' := (130, [], [.int 0], M1)) rfl rfl rfl ?_
          exact ps_ret rfl rfl (⟨I2, R, by rw [show se f E j = 0 from (by first | exact (ix_7 (by omega)).2 | exact se_1 (by omega))]; rfl, hR3, hEI13, hER, hi4⟩)
        · have c_100 : ¬ ((nI (tg f E j)) = 16) := of_decide_eq_false c_100
          have n_100 : ¬ (tg f E j = 16) := fun h9 => c_100 ((eq_nI (p := tg f E j) (n := 16) (Nat.lt_trans (tg_lt _ _ _) (by decide)) (by decide)).mpr h9)
          refine ps_st (S' := (104, [(3, .int (nI (tg f E j))), (0, .ref m0), (1, .int (nI j)), (2, .int 2)], [.int (nI (tg f E j))], M1)) rfl rfl rfl ?_
          refine ps_st (S' := (106, [(3, .int (nI (tg f E j))), (0, .ref m0), (1, .int (nI j)), (2, .int 2)], [.int 19, .int (nI (tg f E j))], M1)) rfl rfl rfl ?_
          refine ps_if2 (S1 := (115, [(0, .ref m0), (1, .int (nI j)), (2, .int 2)], [], M1)) (S2 := (109, [(3, .int (nI (tg f E j))), (0, .ref m0), (1, .int (nI j)), (2, .int 2)], [], M1)) rfl rfl rfl (fun c_106 => ?_) (fun c_106 => ?_)
          · have c_106 : (nI (tg f E j)) = 19 := of_decide_eq_true c_106
            have n_106 : tg f E j = 19 := (eq_nI (p := tg f E j) (n := 19) (Nat.lt_trans (tg_lt _ _ _) (by decide)) (by decide)).mp c_106
            refine ps_st (S' := (116, [(0, .ref m0), (1, .int (nI j)), (2, .int 2)], [.int 2], M1)) rfl rfl rfl ?_
            refine ps_st (S' := (117, [(0, .ref m0), (1, .int (nI j)), (2, .int 2)], [.int 1, .int 2], M1)) rfl rfl rfl ?_
            refine ps_if2 (S1 := (129, [(0, .ref m0), (1, .int (nI j)), (2, .int 2)], [], M1)) (S2 := (120, [(0, .ref m0), (1, .int (nI j)), (2, .int 2)], [], M1)) rfl rfl rfl (fun c_117 => ?_) (fun c_117 => ?_)
            rotate_left
            · exact absurd (by decide) (of_decide_eq_false c_117)
            refine ps_st (S' := (130, [], [.int 0], M1)) rfl rfl rfl ?_
            exact ps_ret rfl rfl (⟨I2, R, by rw [show se f E j = 0 from (by first | exact (ix_7 (by omega)).2 | exact se_1 (by omega))]; rfl, hR3, hEI13, hER, hi4⟩)
          · have c_106 : ¬ ((nI (tg f E j)) = 19) := of_decide_eq_false c_106
            have n_106 : ¬ (tg f E j = 19) := fun h9 => c_106 ((eq_nI (p := tg f E j) (n := 19) (Nat.lt_trans (tg_lt _ _ _) (by decide)) (by decide)).mpr h9)
            refine ps_st (S' := (110, [(3, .int (nI (tg f E j))), (0, .ref m0), (1, .int (nI j)), (2, .int 2)], [.int (nI (tg f E j))], M1)) rfl rfl rfl ?_
            refine ps_st (S' := (112, [(3, .int (nI (tg f E j))), (0, .ref m0), (1, .int (nI j)), (2, .int 2)], [.int 20, .int (nI (tg f E j))], M1)) rfl rfl rfl ?_
            refine ps_if2 (S1 := (131, [(3, .int (nI (tg f E j))), (0, .ref m0), (1, .int (nI j)), (2, .int 2)], [], M1)) (S2 := (115, [(0, .ref m0), (1, .int (nI j)), (2, .int 2)], [], M1)) rfl rfl rfl (fun c_112 => ?_) (fun c_112 => ?_)
            · have c_112 : ¬ (nI (tg f E j)) = 20 := of_decide_eq_true c_112
              have n_112 : ¬ (tg f E j = 20) := fun h9 => c_112 ((eq_nI (p := tg f E j) (n := 20) (Nat.lt_trans (tg_lt _ _ _) (by decide)) (by decide)).mpr h9)
              refine ps_st (S' := (132, [(3, .int (nI (tg f E j))), (0, .ref m0), (1, .int (nI j)), (2, .int 2)], [.int (nI (tg f E j))], M1)) rfl rfl rfl ?_
              refine ps_st (S' := (134, [(3, .int (nI (tg f E j))), (0, .ref m0), (1, .int (nI j)), (2, .int 2)], [.int 9, .int (nI (tg f E j))], M1)) rfl rfl rfl ?_
              refine ps_if2 (S1 := (143, [(0, .ref m0), (1, .int (nI j)), (2, .int 2), (3, .int (nI (tg f E j)))], [], M1)) (S2 := (137, [(3, .int (nI (tg f E j))), (0, .ref m0), (1, .int (nI j)), (2, .int 2)], [], M1)) rfl rfl rfl (fun c_134 => ?_) (fun c_134 => ?_)
              · have c_134 : (nI (tg f E j)) < 9 := of_decide_eq_true c_134
                have n_134 : tg f E j < 9 := (lt_nI (p := tg f E j) (n := 9) (Nat.lt_trans (tg_lt _ _ _) (by decide)) (by decide)).mp c_134
                refine ps_st (S' := (144, [(0, .ref m0), (1, .int (nI j)), (2, .int 2), (3, .int (nI (tg f E j)))], [.int (nI (tg f E j))], M1)) rfl rfl rfl ?_
                refine ps_st (S' := (146, [(0, .ref m0), (1, .int (nI j)), (2, .int 2), (3, .int (nI (tg f E j)))], [.int 17, .int (nI (tg f E j))], M1)) rfl rfl rfl ?_
                refine ps_if2 (S1 := (155, [(0, .ref m0), (1, .int (nI j)), (2, .int 2)], [], M1)) (S2 := (149, [(0, .ref m0), (1, .int (nI j)), (2, .int 2), (3, .int (nI (tg f E j)))], [], M1)) rfl rfl rfl (fun c_146 => ?_) (fun c_146 => ?_)
                · exact absurd (of_decide_eq_true c_146) (show ¬ ((nI (tg f E j)) = 17) from fun h9 => absurd ((eq_nI (p := tg f E j) (n := 17) (Nat.lt_trans (tg_lt _ _ _) (by decide)) (by decide)).mp h9) (by omega))
                refine ps_st (S' := (150, [(0, .ref m0), (1, .int (nI j)), (2, .int 2), (3, .int (nI (tg f E j)))], [.int (nI (tg f E j))], M1)) rfl rfl rfl ?_
                refine ps_st (S' := (152, [(0, .ref m0), (1, .int (nI j)), (2, .int 2), (3, .int (nI (tg f E j)))], [.int 18, .int (nI (tg f E j))], M1)) rfl rfl rfl ?_
                refine ps_if2 (S1 := (171, [(0, .ref m0), (1, .int (nI j)), (2, .int 2), (3, .int (nI (tg f E j)))], [], M1)) (S2 := (155, [(0, .ref m0), (1, .int (nI j)), (2, .int 2)], [], M1)) rfl rfl rfl (fun c_152 => ?_) (fun c_152 => ?_)
                rotate_left
                · exact absurd (show ¬ ((nI (tg f E j)) = 18) from fun h9 => absurd ((eq_nI (p := tg f E j) (n := 18) (Nat.lt_trans (tg_lt _ _ _) (by decide)) (by decide)).mp h9) (by omega)) (of_decide_eq_false c_152)
                refine ps_st (S' := (172, [(0, .ref m0), (1, .int (nI j)), (2, .int 2), (3, .int (nI (tg f E j)))], [.int 0], M1)) rfl rfl rfl ?_
                exact ps_ret rfl rfl (⟨I2, R, by rw [show se f E j = 0 from (by first | exact (ix_7 (by omega)).2 | exact se_1 (by omega))]; rfl, hR3, hEI13, hER, hi4⟩)
              · have c_134 : ¬ ((nI (tg f E j)) < 9) := of_decide_eq_false c_134
                have n_134 : ¬ (tg f E j < 9) := fun h9 => c_134 ((lt_nI (p := tg f E j) (n := 9) (Nat.lt_trans (tg_lt _ _ _) (by decide)) (by decide)).mpr h9)
                refine ps_st (S' := (138, [(3, .int (nI (tg f E j))), (0, .ref m0), (1, .int (nI j)), (2, .int 2)], [.int (nI (tg f E j))], M1)) rfl rfl rfl ?_
                refine ps_st (S' := (140, [(3, .int (nI (tg f E j))), (0, .ref m0), (1, .int (nI j)), (2, .int 2)], [.int 12, .int (nI (tg f E j))], M1)) rfl rfl rfl ?_
                refine ps_if2 (S1 := (155, [(0, .ref m0), (1, .int (nI j)), (2, .int 2)], [], M1)) (S2 := (143, [(0, .ref m0), (1, .int (nI j)), (2, .int 2), (3, .int (nI (tg f E j)))], [], M1)) rfl rfl rfl (fun c_140 => ?_) (fun c_140 => ?_)
                · have c_140 : (nI (tg f E j)) ≤ 12 := of_decide_eq_true c_140
                  have n_140 : tg f E j ≤ 12 := (le_nI (p := tg f E j) (n := 12) (Nat.lt_trans (tg_lt _ _ _) (by decide)) (by decide)).mp c_140
                  refine ps_st (S' := (156, [(0, .ref m0), (1, .int (nI j)), (2, .int 2)], [.ref m0], M1)) rfl rfl rfl ?_
                  refine ps_st (S' := (157, [(0, .ref m0), (1, .int (nI j)), (2, .int 2)], [.int (nI j), .ref m0], M1)) rfl rfl rfl ?_
                  refine ps_st (S' := (158, [(0, .ref m0), (1, .int (nI j)), (2, .int 2)], [.int 2, .int (nI j), .ref m0], M1)) rfl rfl rfl ?_
                  refine ps_st (S' := (159, [(0, .ref m0), (1, .int (nI j)), (2, .int 2)], [.int 1, .int 2, .int (nI j), .ref m0], M1)) rfl rfl rfl ?_
                  refine ps_if2 (S1 := (166, [(0, .ref m0), (1, .int (nI j)), (2, .int 2)], [.int (nI j), .ref m0], M1)) (S2 := (162, [(0, .ref m0), (1, .int (nI j)), (2, .int 2)], [.int (nI j), .ref m0], M1)) rfl rfl rfl (fun c_159 => ?_) (fun c_159 => ?_)
                  rotate_left
                  · exact absurd (by decide) (of_decide_eq_false c_159)
                  refine ps_st (S' := (167, [], [.int 3, .int (nI j), .ref m0], M1)) rfl rfl rfl ?_
                  refine pl_call (a := [.ref m0, .int (nI j), .int 3]) (rest := []) rfl rfl rfl (rd_idx3 (n := n) (f := f) (tx := tx) (cN := cN) (A := A) (N := N) (mj := mj) (E := E) (k := j) hR3 hi7 hi8 hi9 hF_10 hY_11 hP_12 (hEP) (hN) (hmj) (by omega)) (fun v17 M18 q19 => ?_)
                  obtain ⟨rfl, rfl⟩ := q19
                  show pl _ _ _ (170, [], [.int (nI (se f E j))], M1) _
                  have hix_167 := se_lt f E j
                  exact ps_reti rfl (⟨I2, R, rfl, hR3, hEI13, hER, hi4⟩)
                · have c_140 : ¬ ((nI (tg f E j)) ≤ 12) := of_decide_eq_false c_140
                  have n_140 : ¬ (tg f E j ≤ 12) := fun h9 => c_140 ((le_nI (p := tg f E j) (n := 12) (Nat.lt_trans (tg_lt _ _ _) (by decide)) (by decide)).mpr h9)
                  refine ps_st (S' := (144, [(0, .ref m0), (1, .int (nI j)), (2, .int 2), (3, .int (nI (tg f E j)))], [.int (nI (tg f E j))], M1)) rfl rfl rfl ?_
                  refine ps_st (S' := (146, [(0, .ref m0), (1, .int (nI j)), (2, .int 2), (3, .int (nI (tg f E j)))], [.int 17, .int (nI (tg f E j))], M1)) rfl rfl rfl ?_
                  refine ps_if2 (S1 := (155, [(0, .ref m0), (1, .int (nI j)), (2, .int 2)], [], M1)) (S2 := (149, [(0, .ref m0), (1, .int (nI j)), (2, .int 2), (3, .int (nI (tg f E j)))], [], M1)) rfl rfl rfl (fun c_146 => ?_) (fun c_146 => ?_)
                  · have c_146 : (nI (tg f E j)) = 17 := of_decide_eq_true c_146
                    have n_146 : tg f E j = 17 := (eq_nI (p := tg f E j) (n := 17) (Nat.lt_trans (tg_lt _ _ _) (by decide)) (by decide)).mp c_146
                    refine ps_st (S' := (156, [(0, .ref m0), (1, .int (nI j)), (2, .int 2)], [.ref m0], M1)) rfl rfl rfl ?_
                    refine ps_st (S' := (157, [(0, .ref m0), (1, .int (nI j)), (2, .int 2)], [.int (nI j), .ref m0], M1)) rfl rfl rfl ?_
                    refine ps_st (S' := (158, [(0, .ref m0), (1, .int (nI j)), (2, .int 2)], [.int 2, .int (nI j), .ref m0], M1)) rfl rfl rfl ?_
                    refine ps_st (S' := (159, [(0, .ref m0), (1, .int (nI j)), (2, .int 2)], [.int 1, .int 2, .int (nI j), .ref m0], M1)) rfl rfl rfl ?_
                    refine ps_if2 (S1 := (166, [(0, .ref m0), (1, .int (nI j)), (2, .int 2)], [.int (nI j), .ref m0], M1)) (S2 := (162, [(0, .ref m0), (1, .int (nI j)), (2, .int 2)], [.int (nI j), .ref m0], M1)) rfl rfl rfl (fun c_159 => ?_) (fun c_159 => ?_)
                    rotate_left
                    · exact absurd (by decide) (of_decide_eq_false c_159)
                    refine ps_st (S' := (167, [], [.int 3, .int (nI j), .ref m0], M1)) rfl rfl rfl ?_
                    refine pl_call (a := [.ref m0, .int (nI j), .int 3]) (rest := []) rfl rfl rfl (rd_idx3 (n := n) (f := f) (tx := tx) (cN := cN) (A := A) (N := N) (mj := mj) (E := E) (k := j) hR3 hi7 hi8 hi9 hF_10 hY_11 hP_12 (hEP) (hN) (hmj) (by omega)) (fun v20 M21 q22 => ?_)
                    obtain ⟨rfl, rfl⟩ := q22
                    show pl _ _ _ (170, [], [.int (nI (se f E j))], M1) _
                    have hix_167 := se_lt f E j
                    exact ps_reti rfl (⟨I2, R, rfl, hR3, hEI13, hER, hi4⟩)
                  · have c_146 : ¬ ((nI (tg f E j)) = 17) := of_decide_eq_false c_146
                    have n_146 : ¬ (tg f E j = 17) := fun h9 => c_146 ((eq_nI (p := tg f E j) (n := 17) (Nat.lt_trans (tg_lt _ _ _) (by decide)) (by decide)).mpr h9)
                    refine ps_st (S' := (150, [(0, .ref m0), (1, .int (nI j)), (2, .int 2), (3, .int (nI (tg f E j)))], [.int (nI (tg f E j))], M1)) rfl rfl rfl ?_
                    refine ps_st (S' := (152, [(0, .ref m0), (1, .int (nI j)), (2, .int 2), (3, .int (nI (tg f E j)))], [.int 18, .int (nI (tg f E j))], M1)) rfl rfl rfl ?_
                    refine ps_if2 (S1 := (171, [(0, .ref m0), (1, .int (nI j)), (2, .int 2), (3, .int (nI (tg f E j)))], [], M1)) (S2 := (155, [(0, .ref m0), (1, .int (nI j)), (2, .int 2)], [], M1)) rfl rfl rfl (fun c_152 => ?_) (fun c_152 => ?_)
                    · have c_152 : ¬ (nI (tg f E j)) = 18 := of_decide_eq_true c_152
                      have n_152 : ¬ (tg f E j = 18) := fun h9 => c_152 ((eq_nI (p := tg f E j) (n := 18) (Nat.lt_trans (tg_lt _ _ _) (by decide)) (by decide)).mpr h9)
                      refine ps_st (S' := (172, [(0, .ref m0), (1, .int (nI j)), (2, .int 2), (3, .int (nI (tg f E j)))], [.int 0], M1)) rfl rfl rfl ?_
                      exact ps_ret rfl rfl (⟨I2, R, by rw [show se f E j = 0 from (by first | exact (ix_7 (by omega)).2 | exact se_1 (by omega))]; rfl, hR3, hEI13, hER, hi4⟩)
                    · have c_152 : ¬ (¬ (nI (tg f E j)) = 18) := of_decide_eq_false c_152
                      have n_152 : tg f E j = 18 := (eq_nI (p := tg f E j) (n := 18) (Nat.lt_trans (tg_lt _ _ _) (by decide)) (by decide)).mp (Decidable.not_not.mp c_152)
                      refine ps_st (S' := (156, [(0, .ref m0), (1, .int (nI j)), (2, .int 2)], [.ref m0], M1)) rfl rfl rfl ?_
                      refine ps_st (S' := (157, [(0, .ref m0), (1, .int (nI j)), (2, .int 2)], [.int (nI j), .ref m0], M1)) rfl rfl rfl ?_
                      refine ps_st (S' := (158, [(0, .ref m0), (1, .int (nI j)), (2, .int 2)], [.int 2, .int (nI j), .ref m0], M1)) rfl rfl rfl ?_
                      refine ps_st (S' := (159, [(0, .ref m0), (1, .int (nI j)), (2, .int 2)], [.int 1, .int 2, .int (nI j), .ref m0], M1)) rfl rfl rfl ?_
                      refine ps_if2 (S1 := (166, [(0, .ref m0), (1, .int (nI j)), (2, .int 2)], [.int (nI j), .ref m0], M1)) (S2 := (162, [(0, .ref m0), (1, .int (nI j)), (2, .int 2)], [.int (nI j), .ref m0], M1)) rfl rfl rfl (fun c_159 => ?_) (fun c_159 => ?_)
                      rotate_left
                      · exact absurd (by decide) (of_decide_eq_false c_159)
                      refine ps_st (S' := (167, [], [.int 3, .int (nI j), .ref m0], M1)) rfl rfl rfl ?_
                      refine pl_call (a := [.ref m0, .int (nI j), .int 3]) (rest := []) rfl rfl rfl (rd_idx3 (n := n) (f := f) (tx := tx) (cN := cN) (A := A) (N := N) (mj := mj) (E := E) (k := j) hR3 hi7 hi8 hi9 hF_10 hY_11 hP_12 (hEP) (hN) (hmj) (by omega)) (fun v23 M24 q25 => ?_)
                      obtain ⟨rfl, rfl⟩ := q25
                      show pl _ _ _ (170, [], [.int (nI (se f E j))], M1) _
                      have hix_167 := se_lt f E j
                      exact ps_reti rfl (⟨I2, R, rfl, hR3, hEI13, hER, hi4⟩)
            · have c_112 : ¬ (¬ (nI (tg f E j)) = 20) := of_decide_eq_false c_112
              have n_112 : tg f E j = 20 := (eq_nI (p := tg f E j) (n := 20) (Nat.lt_trans (tg_lt _ _ _) (by decide)) (by decide)).mp (Decidable.not_not.mp c_112)
              refine ps_st (S' := (116, [(0, .ref m0), (1, .int (nI j)), (2, .int 2)], [.int 2], M1)) rfl rfl rfl ?_
              refine ps_st (S' := (117, [(0, .ref m0), (1, .int (nI j)), (2, .int 2)], [.int 1, .int 2], M1)) rfl rfl rfl ?_
              refine ps_if2 (S1 := (129, [(0, .ref m0), (1, .int (nI j)), (2, .int 2)], [], M1)) (S2 := (120, [(0, .ref m0), (1, .int (nI j)), (2, .int 2)], [], M1)) rfl rfl rfl (fun c_117 => ?_) (fun c_117 => ?_)
              rotate_left
              · exact absurd (by decide) (of_decide_eq_false c_117)
              refine ps_st (S' := (130, [], [.int 0], M1)) rfl rfl rfl ?_
              exact ps_ret rfl rfl (⟨I2, R, by rw [show se f E j = 0 from (by first | exact (ix_7 (by omega)).2 | exact se_1 (by omega))]; rfl, hR3, hEI13, hER, hi4⟩)
  · have c_55 : ¬ (¬ (nI (tg f E j)) = 15) := of_decide_eq_false c_55
    have n_55 : tg f E j = 15 := (eq_nI (p := tg f E j) (n := 15) (Nat.lt_trans (tg_lt _ _ _) (by decide)) (by decide)).mp (Decidable.not_not.mp c_55)
    refine ps_st (S' := (59, [(3, .int (nI (tg f E j))), (0, .ref m0), (1, .int (nI j)), (2, .int 2)], [.int 2], M1)) rfl rfl rfl ?_
    refine ps_st (S' := (60, [(3, .int (nI (tg f E j))), (0, .ref m0), (1, .int (nI j)), (2, .int 2)], [.int 1, .int 2], M1)) rfl rfl rfl ?_
    refine ps_if2 (S1 := (78, [(3, .int (nI (tg f E j))), (0, .ref m0), (1, .int (nI j)), (2, .int 2)], [], M1)) (S2 := (63, [(3, .int (nI (tg f E j))), (0, .ref m0), (1, .int (nI j)), (2, .int 2)], [], M1)) rfl rfl rfl (fun c_60 => ?_) (fun c_60 => ?_)
    rotate_left
    · exact absurd (by decide) (of_decide_eq_false c_60)
    refine ps_st (S' := (79, [(3, .int (nI (tg f E j))), (0, .ref m0), (1, .int (nI j)), (2, .int 2)], [.ref m0], M1)) rfl rfl rfl ?_
    refine ps_st (S' := (80, [(3, .int (nI (tg f E j))), (0, .ref m0), (1, .int (nI j)), (2, .int 2)], [.int (nI j), .ref m0], M1)) rfl rfl rfl ?_
    refine ps_st (S' := (81, [(3, .int (nI (tg f E j))), (0, .ref m0), (1, .int (nI j)), (2, .int 2)], [.int 2, .int (nI j), .ref m0], M1)) rfl rfl rfl ?_
    refine pl_call (a := [.ref m0, .int (nI j), .int 2]) (rest := []) rfl rfl rfl (rd_idx2 (n := n) (f := f) (tx := tx) (cN := cN) (A := A) (N := N) (mj := mj) (E := E) (k := j) hR3 hi7 hi8 hi9 hF_10 hY_11 hP_12 (hEP) (hN) (hmj) (by omega)) (fun v26 M27 q28 => ?_)
    obtain ⟨rfl, rfl⟩ := q28
    show pl _ _ _ (84, [], [.int (nI (se f E j))], M1) _
    have hix_81 := se_lt f E j
    exact ps_reti rfl (⟨I2, R, rfl, hR3, hEI13, hER, hi4⟩)
theorem rd_entry {g : xe_G} {m0 : Nat} {q : Nat → Nat} {z : Nat × Nat} {I : rI} {R : rR} {M : mi_H} {ko : Option (Nat × (Nat → Int32))} {k p : Int32} (hR : RS g m0 q z I R M) (hK : KPR ko I R) (hp0 : ¬ p < 0) (hp1 : p ≤ 2) : pt (mT g) 204 [.ref m0, .int k, .int p] M (fun v M' => ∃ (I' : rI) (R' : rR), v = some (.int (enK ko k p)) ∧ RS g m0 q z I' R' M' ∧ eqI [0] I I' ∧ eqR [] R R' ∧ I' 0 = some 0) := by
  cases ko with
  | none =>
    obtain ⟨kn, h1, h2⟩ := hK
    exact rd_entry0 hR h1 hp0 hp1 h2
  | some r =>
    obtain ⟨h1, h2, -, -, tx, cN, A, E, N, mj, p1, pF, pM, pA, k1, k2, k3, k4, k5, k6, k7, rfl, rfl, -⟩ := hK
    rw [enK_is k7]
    have hN := by2_lt r.2 8
    have hpl := whole_in k7
    have hEP := (EP_of hpl).1
    unfold enI
    by_cases hk : k < 0 ∨ nI (by2 r.2 8) ≤ k
    · rw [if_pos hk]
      exact rd_entryN hR h1 k4 k5 k6 k1 k2 k3 hEP hN hp0 hp1 h2 hk
    · rw [if_neg hk]
      obtain ⟨e, hj⟩ := i32_in hN hk
      obtain ⟨j, ej⟩ : ∃ j, j = k.toNatClampNeg := ⟨_, rfl⟩
      rw [← ej] at e hj ⊢
      subst e
      rcases i32_3 hp0 hp1 with rfl | rfl | rfl
      · exact rd_entry_0 hR h1 k4 k5 k6 k1 k2 k3 hEP hN (by2_lt _ _) h2 hj hpl
      · exact rd_entry_1 hR h1 k4 k5 k6 k1 k2 k3 hEP hN (by2_lt _ _) h2 hj hpl
      · exact rd_entry_2 hR h1 k4 k5 k6 k1 k2 k3 hEP hN (by2_lt _ _) h2 hj hpl
end
section
/-! a character of a text, as both sides tell it (my own text) -/
section CHA
variable {f : Nat → Int32} {n H m N : Nat} {E : List (Nat × Nat)} {F : Nat → Nat → Int32}
def chI (f : Nat → Int32) (n : Nat) (E : List (Nat × Nat)) (k i : Int32) : Int32 := if tg f E k.toNatClampNeg = 1 ∧ ¬ i < 0 ∧ i.toNatClampNeg < (tX f n E k.toNatClampNeg).length then nI ((tX f n E k.toNatClampNeg).getD i.toNatClampNeg 0) else -1
def chK (ko : Option (Nat × (Nat → Int32))) (k i : Int32) : Int32 := match ko with
  | none => -1
  | some r => match s_whole r.2 r.1 with
    | .inl _ => -1
    | .inr y => chI r.2 r.1 y.1 k i
theorem chK_is {r : Nat × (Nat → Int32)} {k p : Int32} {y : Nat × Nat × Nat × Nat} (h : s_whole r.2 r.1 = .inr (E, y)) : chK (some r) k p = chI r.2 r.1 E k p := by
  show (match s_whole r.2 r.1 with | .inl _ => -1 | .inr y => chI r.2 r.1 y.1 k p) = _
  rw [h]
theorem i32_cl {k : Int32} (h : k < 0) : k.toNatClampNeg = 0 := by
  have h1 := Int32.lt_iff_toInt_lt.mp h
  have e0 : (0 : Int32).toInt = 0 := rfl
  show k.toInt.toNat = 0
  omega
theorem i32_to {k : Int32} (h : ¬ k < 0) : (k.toNatClampNeg : Int) = k.toInt := by
  have h1 := Int32.le_iff_toInt_le.mp (Int32.not_lt.mp h)
  have e0 : (0 : Int32).toInt = 0 := rfl
  show ((k.toInt.toNat : Nat) : Int) = _
  omega
theorem i32_ge {k : Int32} {N : Nat} (hN : N ≤ 65540) (h0 : ¬ k < 0) (h : ¬ k < nI N) : N ≤ k.toNatClampNeg := by
  have h1 := Int32.le_iff_toInt_le.mp (Int32.not_lt.mp h)
  rw [nI_val (by omega)] at h1
  have h2 := i32_to h0
  omega
theorem i32_lt {k : Int32} {N : Nat} (hN : N ≤ 65540) (h0 : ¬ k < 0) (h : k.toNatClampNeg < N) : k < nI N := by
  apply Int32.lt_iff_toInt_lt.mpr
  rw [nI_val (by omega)]
  have h2 := i32_to h0
  omega
theorem VF.tagR (h : VF f n E H m F) (hH : H ≤ 65536) (h0 : tg f E 0 = 0) (k : Int32) : sp_tagOf H m F k = nI (tg f E k.toNatClampNeg) := by
  unfold sp_tagOf
  by_cases h1 : k < 0
  · rw [if_pos h1, i32_cl h1, h0]
    rfl
  · rw [if_neg h1]
    by_cases h2 : k < nI H
    · rw [if_pos h2]
      exact h.1 _
    · rw [if_neg h2, h.2.1 _ (i32_ge (by omega) h1 h2)]
      rfl
theorem VF.charR (h : VF f n E H m F) (hH : H ≤ 65536) (hm : m ≤ 65540) (h0 : tg f E 0 = 0) (k i : Int32) : sp_characterAt H m F k i = chI f n E k i := by
  unfold sp_characterAt chI
  rw [h.tagR hH h0 k]
  obtain ⟨j, hj⟩ : ∃ j, j = k.toNatClampNeg := ⟨_, rfl⟩
  rw [← hj]
  by_cases h1 : tg f E j = 1
  · obtain ⟨c, a1, a2, a3, a4⟩ := h.2.2.2.2 j h1
    rw [if_neg (by rw [h1]; exact fun q => q rfl)]
    by_cases h2 : i < 0
    · rw [if_pos h2, if_neg (fun q => q.2.1 h2)]
    · rw [if_neg h2, a2, a1]
      have hl := tx_len f n E j
      by_cases h3 : i.toNatClampNeg < (tX f n E j).length
      · rw [if_pos (i32_lt (by omega) h2 h3), if_pos ⟨h1, h2, h3⟩]
        have e := i32_nn h2
        obtain ⟨t, ht⟩ : ∃ t, t = i.toNatClampNeg := ⟨_, rfl⟩
        rw [← ht] at h3 e ⊢
        rw [e, nI_add1 rfl (by omega), nI_toNat (by omega), a4 t h3]
      · rw [if_neg (fun q => h3 ?_), if_neg (fun q => h3 q.2.2)]
        have h4 := Int32.lt_iff_toInt_lt.mp q
        rw [nI_val (by omega)] at h4
        have h5 := i32_to h2
        omega
  · rw [if_pos (show ¬ nI (tg f E j) = 1 from fun q => h1 ((eq_nI (p := tg f E j) (n := 1) (Nat.lt_trans (tg_lt _ _ _) (by decide)) (by decide)).mp q)), if_neg (fun q => h1 q.1)]
theorem s_ents_1 {mj : Nat} : ∀ {r k p p' : Nat} {E0 E : List (Nat × Nat)}, 1 ≤ k → (∀ q ∈ E0, 1 ≤ q.1) → s_ents f n mj N r k p E0 = .inr (p', E) → ∀ q ∈ E, 1 ≤ q.1 := by
  intro r
  induction r with
  | zero => intro k p p' E0 E hk h0 h; cases h; exact h0
  | succ r ih =>
    intro k p p' E0 E hk h0 h
    unfold s_ents at h
    split at h
    · cases h; exact h0
    · cases he : s_entry f n mj N k p with
      | inl e => rw [he] at h; cases h
      | inr y =>
        obtain ⟨p2, x⟩ := y
        rw [he] at h
        refine ih (k := if by1 f p = 5 ∨ by1 f p = 6 then k + 2 else k + 1) ?_ ?_ h
        · split <;> omega
        · intro q hq
          rcases List.mem_append.mp hq with hq | hq
          · exact h0 q hq
          · have e : q = (k, p) := by simpa using hq
            rw [e]
            exact hk
/-- number 0 is no entry's -/
theorem tg_0 {mj p' : Nat} (h : s_pool f n mj = .inr (p', E)) : tg f E 0 = 0 := by
  unfold s_pool at h
  split at h
  · cases h
  · split at h
    · cases h
    · unfold tg
      cases hk : lk E 0 with
      | none => rfl
      | some p => exact absurd (s_ents_1 (by decide) (fun q hq => by cases hq) h _ (lk_in hk)) (show ¬ 1 ≤ 0 by decide)
end CHA
theorem dz_characterAt {g : xe_G} {M : mi_H} {f : Nat → Int32} {n N q : Nat} {E : List (Nat × Nat)} {k i : Int32}  (hV : PV g f n N E q M) (h0 : tg f E 0 = 0) : pt (mT g) 113 [.ref q, .int k, .int i] M (fun v M' => (v = some (.int (chI f n E k i)) ∧ M = M')) := by
  obtain ⟨hL9, H, m, qq, F, cc, hP9, hT9, -, hb9, hVF, -⟩ := id hV
  exact ((ct_characterAt hP9 hT9 (by omega) (d := 2) (Nat.le_refl _)).pt).mono (fun v M' h => ⟨by rw [h.1, hVF.charR hb9.1 hb9.2.1 h0], h.2.symm⟩)
set_option maxHeartbeats 1000000 in
theorem dk_character0 {g : xe_G} {M : mi_H} {o ca fl : Nat} {cn wp k i : Int32} (h_o : M.1 o = some (ob 11 [.ref ca, .int cn, .ref fl, .null, .int wp]))  : pt (mT g) 3 [.ref o, .int k, .int i] M (fun v M' => (v = some (.int (-1)) ∧ M = M')) := by
  refine pt_in (b := mb_3 g) rfl (fun kf => ?_)
  show pl (mT g) kf (mb_3 g).2 (0, [(0, .ref o), (1, .int k), (2, .int i)], [], M) _
  refine ps_st (S' := (1, [(0, .ref o), (1, .int k), (2, .int i)], [.ref o], M)) rfl rfl rfl ?_
  refine ps_get (S' := (4, [(0, .ref o), (1, .int k), (2, .int i)], [.null], M)) rfl h_o rfl rfl ?_
  refine ps_st (S' := (7, [(0, .ref o), (1, .int k), (2, .int i)], [], M)) rfl rfl rfl ?_
  refine ps_st (S' := (8, [(0, .ref o), (1, .int k), (2, .int i)], [.int (-1)], M)) rfl rfl rfl ?_
  refine ps_st (S' := (23, [], [.int (-1)], M)) rfl rfl rfl ?_
  exact ps_ret rfl rfl (⟨rfl, rfl⟩)
set_option maxHeartbeats 1000000 in
theorem dk_characterK {g : xe_G} {M : mi_H} {f : Nat → Int32} {n N q : Nat} {E : List (Nat × Nat)} {o ca fl c b : Nat} {cn wp : Int32} {w : List Value} {k i : Int32} (h_o : M.1 o = some (ob 11 [.ref ca, .int cn, .ref fl, .ref c, .int wp])) (h_c : M.1 c = some (ob 3 (.ref b :: .ref q :: w))) (hV : PV g f n N E q M) (h0 : tg f E 0 = 0) : pt (mT g) 3 [.ref o, .int k, .int i] M (fun v M' => (v = some (.int (chI f n E k i)) ∧ M = M')) := by
  refine pt_in (b := mb_3 g) rfl (fun kf => ?_)
  show pl (mT g) kf (mb_3 g).2 (0, [(0, .ref o), (1, .int k), (2, .int i)], [], M) _
  obtain ⟨hL9, H, m, qq, F, cc, hP9, -, -, hb9, -⟩ := id hV
  have h_q := hP9.1
  have hN9 := hb9.2.2.1
  refine ps_st (S' := (1, [(0, .ref o), (1, .int k), (2, .int i)], [.ref o], M)) rfl rfl rfl ?_
  refine ps_get (S' := (4, [(0, .ref o), (1, .int k), (2, .int i)], [.ref c], M)) rfl h_o rfl rfl ?_
  refine ps_st (S' := (11, [(0, .ref o), (1, .int k), (2, .int i)], [], M)) rfl rfl rfl ?_
  refine ps_st (S' := (12, [(0, .ref o), (1, .int k), (2, .int i)], [.ref o], M)) rfl rfl rfl ?_
  refine ps_get (S' := (15, [(0, .ref o), (1, .int k), (2, .int i)], [.ref c], M)) rfl h_o rfl rfl ?_
  refine ps_get (S' := (18, [(0, .ref o), (1, .int k), (2, .int i)], [.ref q], M)) rfl h_c rfl rfl ?_
  refine ps_st (S' := (19, [(0, .ref o), (1, .int k), (2, .int i)], [.int k, .ref q], M)) rfl rfl rfl ?_
  refine ps_st (S' := (20, [(0, .ref o), (1, .int k), (2, .int i)], [.int i, .int k, .ref q], M)) rfl rfl rfl ?_
  refine pl_call (a := [.ref q, .int k, .int i]) (rest := []) rfl rfl rfl (dz_characterAt (f := f) (n := n) (N := N) (q := q) (E := E) (k := k) (i := i) (hV) (h0)) (fun v1 M2 q3 => ?_)
  obtain ⟨rfl, rfl⟩ := q3
  show pl _ _ _ (23, [], [.int (chI f n E k i)], M) _
  exact ps_reti rfl (⟨rfl, rfl⟩)
theorem dk_character {g : xe_G} {M : mi_H} {ko : Option (Nat × (Nat → Int32))} {kv : Value} {cm o fl : Nat} {cn wp k i : Int32} (hx : M.1 o = some (ob 11 [.ref cm, .int cn, .ref fl, kv, .int wp])) (hK : KPC g ko kv cm M) : pt (mT g) 3 [.ref o, .int k, .int i] M (fun v M' => v = some (.int (chK ko k i)) ∧ M = M') := by
  cases ko with
  | none =>
    have e : kv = .null := hK
    subst e
    exact dk_character0 hx
  | some r =>
    obtain ⟨c, da, rfl, ⟨b, q, N, E, p1, pF, pM, pA, w, h1, h2, h3, h4, h5, rfl, -⟩, -, -⟩ := hK
    rw [chK_is h5]
    exact dk_characterK hx h1 h4 (tg_0 (whole_in h5))
end
section
set_option maxHeartbeats 1000000 in
theorem rd_tagO {g : xe_G} {m0 : Nat} {q : Nat → Nat} {z : Nat × Nat} {I : rI} {R : rR} {M : mi_H} {n : Nat} {f : Nat → Int32} {tx : List (List Nat)} {cN : Nat} {A : Nat → Nat} {N mj : Nat} {E : List (Nat × Nat)} {k : Int32} (hR : RS g m0 q z I R M) (hi51 : I 51 = some 0) (hi52 : I 52 = some (nI N)) (hi53 : I 53 = some (nI mj)) (hF : FK n f I R) (hY : SYT tx cN A I R) (hP : RPV f n E tx N I R) (hEP : EP f n E) (hN : N < 65536) (hk : k ≤ 0 ∨ nI N ≤ k) : pt (mT g) 247 [.ref m0, .int k] M (fun v M' => (v = some (.int 0) ∧ M = M')) := by
  refine pt_in (b := mb_247 g) rfl (fun kf => ?_)
  show pl (mT g) kf (mb_247 g).2 (0, [(0, .ref m0), (1, .int k)], [], M) _
  refine ps_st (S' := (1, [(0, .ref m0), (1, .int k)], [.int k], M)) rfl rfl rfl ?_
  refine ps_if (S1 := (26, [], [], M)) (S2 := (4, [(0, .ref m0), (1, .int k)], [], M)) rfl rfl rfl (fun c_1 => ?_) (fun c_1 => ?_)
  · have c_1 : k ≤ 0 := of_decide_eq_true c_1
    refine ps_st (S' := (27, [], [.int 0], M)) rfl rfl rfl ?_
    refine ps_st (S' := (45, [], [.int 0], M)) rfl rfl rfl ?_
    exact ps_ret rfl rfl (⟨rfl, rfl⟩)
  · have c_1 : ¬ (k ≤ 0) := of_decide_eq_false c_1
    refine ps_st (S' := (5, [(0, .ref m0), (1, .int k)], [.int k], M)) rfl rfl rfl ?_
    refine ps_st (S' := (6, [(0, .ref m0), (1, .int k)], [.ref m0, .int k], M)) rfl rfl rfl ?_
    refine pr_int (j := 52) (S' := (9, [(0, .ref m0), (1, .int k)], [.int (nI N), .int k], M)) rfl hR rfl hi52 rfl ?_
    refine ps_if2 (S1 := (26, [], [], M)) (S2 := (12, [(0, .ref m0), (1, .int k)], [], M)) rfl rfl rfl (fun c_9 => ?_) (fun c_9 => ?_)
    · have c_9 : (nI N) ≤ k := of_decide_eq_true c_9
      refine ps_st (S' := (27, [], [.int 0], M)) rfl rfl rfl ?_
      refine ps_st (S' := (45, [], [.int 0], M)) rfl rfl rfl ?_
      exact ps_ret rfl rfl (⟨rfl, rfl⟩)
    · have c_9 : ¬ ((nI N) ≤ k) := of_decide_eq_false c_9
      exfalso
      rcases hk with h9 | h9
      · exact absurd h9 (by assumption)
      · exact absurd h9 (by assumption)
theorem rd_tagR {g : xe_G} {m0 : Nat} {q : Nat → Nat} {z : Nat × Nat} {I : rI} {R : rR} {M : mi_H} {n : Nat} {f : Nat → Int32} {tx : List (List Nat)} {cN : Nat} {A : Nat → Nat} {N mj : Nat} {E : List (Nat × Nat)} {k : Int32} (hR : RS g m0 q z I R M) (hi51 : I 51 = some 0) (hi52 : I 52 = some (nI N)) (hi53 : I 53 = some (nI mj)) (hF : FK n f I R) (hY : SYT tx cN A I R) (hP : RPV f n E tx N I R) (hEP : EP f n E) (hN : N < 65536) (hmj : mj < 65536) (h0 : tg f E 0 = 0) : pt (mT g) 247 [.ref m0, .int k] M (fun v M' => (v = some (.int (nI (tg f E k.toNatClampNeg))) ∧ M = M')) := by
  by_cases hk : k ≤ 0 ∨ nI N ≤ k
  · have e : tg f E k.toNatClampNeg = 0 := by
      by_cases h1 : k < 0
      · rw [i32_cl h1]
        exact h0
      · rcases hk with h2 | h2
        · have h3 : k = 0 := Int32.le_antisymm h2 (Int32.not_lt.mp h1)
          rw [h3]
          exact h0
        · have h3 := i32_ge (N := N) (by omega) h1 (Int32.not_lt.mpr h2)
          unfold tg
          rw [lk_hi hP.1 (Or.inr h3)]
    rw [e]
    exact rd_tagO hR hi51 hi52 hi53 hF hY hP hEP hN hk
  · have h1 : ¬ k < 0 := fun h9 => hk (Or.inl (Int32.le_of_lt h9))
    obtain ⟨e, hj⟩ := i32_in hN (fun h9 => h9.elim h1 (fun h8 => hk (Or.inr h8)))
    obtain ⟨j, ej⟩ : ∃ j, j = k.toNatClampNeg := ⟨_, rfl⟩
    rw [← ej] at e hj ⊢
    subst e
    exact rd_tag hR hi51 hi52 hi53 hF hY hP hEP hN hmj (by omega)
set_option maxHeartbeats 1000000 in
theorem rd_character0 {g : xe_G} {m0 : Nat} {q : Nat → Nat} {z : Nat × Nat} {I : rI} {R : rR} {M : mi_H} {kn k i : Int32} (hR : RS g m0 q z I R M) (hi18 : I 18 = some kn)  (hk : kn < 0) : pt (mT g) 186 [.ref m0, .int k, .int i] M (fun v M' => (∃  (I' : rI) (R' : rR), v = some (.int (-1)) ∧ RS g m0 q z I' R' M' ∧ eqI [0] I I' ∧ eqR [] R R' ∧ I' 0 = some 0)) := by
  refine pt_in (b := mb_186 g) rfl (fun kf => ?_)
  show pl (mT g) kf (mb_186 g).2 (0, [(0, .ref m0), (1, .int k), (2, .int i)], [], M) _
  have hEI : eqI [0] I I := eqI.rf
  have hER : eqR [] R R := eqR.rf
  refine ps_st (S' := (1, [(0, .ref m0), (1, .int k), (2, .int i)], [.ref m0], M)) rfl rfl rfl ?_
  refine ps_st (S' := (2, [(0, .ref m0), (1, .int k), (2, .int i)], [.int 0, .ref m0], M)) rfl rfl rfl ?_
  refine pr_put (j := 0) rfl hR rfl (fun M1 I2 hR3 hi4 hI5 => ?_)
  have hi6 := (hI5 18 (by decide)).trans hi18
  have hEI7 := hEI.put hI5 (by decide)
  show pl _ _ _ (5, [(0, .ref m0), (1, .int k), (2, .int i)], [], M1) _
  refine ps_st (S' := (6, [(0, .ref m0), (1, .int k), (2, .int i)], [.ref m0], M1)) rfl rfl rfl ?_
  refine pr_int (j := 18) (S' := (9, [(0, .ref m0), (1, .int k), (2, .int i)], [.int kn], M1)) rfl hR3 rfl hi6 rfl ?_
  refine ps_if (S1 := (38, [], [], M1)) (S2 := (12, [(0, .ref m0), (1, .int k), (2, .int i)], [], M1)) rfl rfl rfl (fun c_9 => ?_) (fun c_9 => ?_)
  rotate_left
  · exact absurd (hk) (of_decide_eq_false c_9)
  refine ps_st (S' := (39, [], [.int (-1)], M1)) rfl rfl rfl ?_
  refine ps_st (S' := (52, [], [.int (-1)], M1)) rfl rfl rfl ?_
  exact ps_ret rfl rfl (⟨I2, R, rfl, hR3, hEI7, hER, hi4⟩)
set_option maxHeartbeats 1000000 in
theorem rd_characterT {g : xe_G} {m0 : Nat} {q : Nat → Nat} {z : Nat × Nat} {I : rI} {R : rR} {M : mi_H} {n : Nat} {f : Nat → Int32} {tx : List (List Nat)} {cN : Nat} {A : Nat → Nat} {N mj : Nat} {E : List (Nat × Nat)} {n2 : Nat} {k i : Int32} (hR : RS g m0 q z I R M) (hi18 : I 18 = some (nI n2)) (hi51 : I 51 = some 0) (hi52 : I 52 = some (nI N)) (hi53 : I 53 = some (nI mj)) (hF : FK n f I R) (hY : SYT tx cN A I R) (hP : RPV f n E tx N I R) (hEP : EP f n E) (hN : N < 65536) (hmj : mj < 65536) (hn2 : n2 ≤ 65540) (h0 : tg f E 0 = 0) (ht : ¬ tg f E k.toNatClampNeg = 1) : pt (mT g) 186 [.ref m0, .int k, .int i] M (fun v M' => (∃  (I' : rI) (R' : rR), v = some (.int (-1)) ∧ RS g m0 q z I' R' M' ∧ eqI [0] I I' ∧ eqR [] R R' ∧ I' 0 = some 0)) := by
  refine pt_in (b := mb_186 g) rfl (fun kf => ?_)
  show pl (mT g) kf (mb_186 g).2 (0, [(0, .ref m0), (1, .int k), (2, .int i)], [], M) _
  have hEI : eqI [0] I I := eqI.rf
  have hER : eqR [] R R := eqR.rf
  refine ps_st (S' := (1, [(0, .ref m0), (1, .int k), (2, .int i)], [.ref m0], M)) rfl rfl rfl ?_
  refine ps_st (S' := (2, [(0, .ref m0), (1, .int k), (2, .int i)], [.int 0, .ref m0], M)) rfl rfl rfl ?_
  refine pr_put (j := 0) rfl hR rfl (fun M1 I2 hR3 hi4 hI5 => ?_)
  have hi6 := (hI5 18 (by decide)).trans hi18
  have hi7 := (hI5 51 (by decide)).trans hi51
  have hi8 := (hI5 52 (by decide)).trans hi52
  have hi9 := (hI5 53 (by decide)).trans hi53
  have hF_10 := hF.mono (pIx hI5 (by decide)) (fun _ _ => rfl)
  have hY_11 := hY.mono (pIx hI5 (by decide)) (fun _ _ => rfl)
  have hP_12 := hP.mono (pIx hI5 (by decide)) (fun _ _ => rfl)
  have hEI13 := hEI.put hI5 (by decide)
  show pl _ _ _ (5, [(0, .ref m0), (1, .int k), (2, .int i)], [], M1) _
  refine ps_st (S' := (6, [(0, .ref m0), (1, .int k), (2, .int i)], [.ref m0], M1)) rfl rfl rfl ?_
  refine pr_int (j := 18) (S' := (9, [(0, .ref m0), (1, .int k), (2, .int i)], [.int (nI n2)], M1)) rfl hR3 rfl hi6 rfl ?_
  refine ps_if (S1 := (38, [], [], M1)) (S2 := (12, [(0, .ref m0), (1, .int k), (2, .int i)], [], M1)) rfl rfl rfl (fun c_9 => ?_) (fun c_9 => ?_)
  · exact absurd (of_decide_eq_true c_9) (show ¬ ((nI n2) < 0) from fun h9 => absurd ((lt_nI (p := n2) (n := 0) (by omega) (by decide)).mp h9) (by omega))
  refine ps_st (S' := (13, [(0, .ref m0), (1, .int k), (2, .int i)], [.ref m0], M1)) rfl rfl rfl ?_
  refine ps_st (S' := (14, [(0, .ref m0), (1, .int k), (2, .int i)], [.int k, .ref m0], M1)) rfl rfl rfl ?_
  refine pl_call (a := [.ref m0, .int k]) (rest := []) rfl rfl rfl (rd_tagR (n := n) (f := f) (tx := tx) (cN := cN) (A := A) (N := N) (mj := mj) (E := E) (k := k) hR3 hi7 hi8 hi9 hF_10 hY_11 hP_12 (hEP) (hN) (hmj) (h0)) (fun v14 M15 q16 => ?_)
  obtain ⟨rfl, rfl⟩ := q16
  show pl _ _ _ (17, [(0, .ref m0), (1, .int k), (2, .int i)], [.int (nI (tg f E k.toNatClampNeg))], M1) _
  have htg9 := tg_lt f E k.toNatClampNeg
  refine ps_st (S' := (18, [(0, .ref m0), (1, .int k), (2, .int i)], [.int 1, .int (nI (tg f E k.toNatClampNeg))], M1)) rfl rfl rfl ?_
  refine ps_if2 (S1 := (38, [], [], M1)) (S2 := (21, [(0, .ref m0), (1, .int k), (2, .int i)], [], M1)) rfl rfl rfl (fun c_18 => ?_) (fun c_18 => ?_)
  rotate_left
  · exact absurd (show ¬ (nI (tg f E k.toNatClampNeg)) = 1 from fun h9 => ht ((eq_nI (p := tg f E k.toNatClampNeg) (n := 1) (by omega) (by decide)).mp h9)) (of_decide_eq_false c_18)
  refine ps_st (S' := (39, [], [.int (-1)], M1)) rfl rfl rfl ?_
  refine ps_st (S' := (52, [], [.int (-1)], M1)) rfl rfl rfl ?_
  exact ps_ret rfl rfl (⟨I2, R, rfl, hR3, hEI13, hER, hi4⟩)
set_option maxHeartbeats 1000000 in
theorem rd_characterN {g : xe_G} {m0 : Nat} {q : Nat → Nat} {z : Nat × Nat} {I : rI} {R : rR} {M : mi_H} {n : Nat} {f : Nat → Int32} {tx : List (List Nat)} {cN : Nat} {A : Nat → Nat} {N mj : Nat} {E : List (Nat × Nat)} {n2 : Nat} {j : Nat} {i : Int32} (hR : RS g m0 q z I R M) (hi18 : I 18 = some (nI n2)) (hi51 : I 51 = some 0) (hi52 : I 52 = some (nI N)) (hi53 : I 53 = some (nI mj)) (hF : FK n f I R) (hY : SYT tx cN A I R) (hP : RPV f n E tx N I R) (hEP : EP f n E) (hN : N < 65536) (hmj : mj < 65536) (hn2 : n2 ≤ 65540) (hj : j < 65536) (h1t : tg f E j = 1) (hi : i < 0 ∨ ¬ i < nI (tX f n E j).length) : pt (mT g) 186 [.ref m0, .int (nI j), .int i] M (fun v M' => (∃  (I' : rI) (R' : rR), v = some (.int (-1)) ∧ RS g m0 q z I' R' M' ∧ eqI [0] I I' ∧ eqR [] R R' ∧ I' 0 = some 0)) := by
  refine pt_in (b := mb_186 g) rfl (fun kf => ?_)
  show pl (mT g) kf (mb_186 g).2 (0, [(0, .ref m0), (1, .int (nI j)), (2, .int i)], [], M) _
  have hEI : eqI [0] I I := eqI.rf
  have hER : eqR [] R R := eqR.rf
  have hn := hF.1
  have hlx := tx_len f n E j
  refine ps_st (S' := (1, [(0, .ref m0), (1, .int (nI j)), (2, .int i)], [.ref m0], M)) rfl rfl rfl ?_
  refine ps_st (S' := (2, [(0, .ref m0), (1, .int (nI j)), (2, .int i)], [.int 0, .ref m0], M)) rfl rfl rfl ?_
  refine pr_put (j := 0) rfl hR rfl (fun M1 I2 hR3 hi4 hI5 => ?_)
  have hi6 := (hI5 18 (by decide)).trans hi18
  have hi7 := (hI5 51 (by decide)).trans hi51
  have hi8 := (hI5 52 (by decide)).trans hi52
  have hi9 := (hI5 53 (by decide)).trans hi53
  have hF_10 := hF.mono (pIx hI5 (by decide)) (fun _ _ => rfl)
  have hY_11 := hY.mono (pIx hI5 (by decide)) (fun _ _ => rfl)
  have hP_12 := hP.mono (pIx hI5 (by decide)) (fun _ _ => rfl)
  have hEI13 := hEI.put hI5 (by decide)
  show pl _ _ _ (5, [(0, .ref m0), (1, .int (nI j)), (2, .int i)], [], M1) _
  refine ps_st (S' := (6, [(0, .ref m0), (1, .int (nI j)), (2, .int i)], [.ref m0], M1)) rfl rfl rfl ?_
  refine pr_int (j := 18) (S' := (9, [(0, .ref m0), (1, .int (nI j)), (2, .int i)], [.int (nI n2)], M1)) rfl hR3 rfl hi6 rfl ?_
  refine ps_if (S1 := (38, [], [], M1)) (S2 := (12, [(0, .ref m0), (1, .int (nI j)), (2, .int i)], [], M1)) rfl rfl rfl (fun c_9 => ?_) (fun c_9 => ?_)
  · exact absurd (of_decide_eq_true c_9) (show ¬ ((nI n2) < 0) from fun h9 => absurd ((lt_nI (p := n2) (n := 0) (by omega) (by decide)).mp h9) (by omega))
  refine ps_st (S' := (13, [(0, .ref m0), (1, .int (nI j)), (2, .int i)], [.ref m0], M1)) rfl rfl rfl ?_
  refine ps_st (S' := (14, [(0, .ref m0), (1, .int (nI j)), (2, .int i)], [.int (nI j), .ref m0], M1)) rfl rfl rfl ?_
  refine pl_call (a := [.ref m0, .int (nI j)]) (rest := []) rfl rfl rfl (rd_tag (n := n) (f := f) (tx := tx) (cN := cN) (A := A) (N := N) (mj := mj) (E := E) (k := j) hR3 hi7 hi8 hi9 hF_10 hY_11 hP_12 (hEP) (hN) (hmj) (by omega)) (fun v14 M15 q16 => ?_)
  obtain ⟨rfl, rfl⟩ := q16
  show pl _ _ _ (17, [(0, .ref m0), (1, .int (nI j)), (2, .int i)], [.int (nI (tg f E j))], M1) _
  have htg_14 := tg_lt f E j
  refine ps_st (S' := (18, [(0, .ref m0), (1, .int (nI j)), (2, .int i)], [.int 1, .int (nI (tg f E j))], M1)) rfl rfl rfl ?_
  refine ps_if2 (S1 := (38, [], [], M1)) (S2 := (21, [(0, .ref m0), (1, .int (nI j)), (2, .int i)], [], M1)) rfl rfl rfl (fun c_18 => ?_) (fun c_18 => ?_)
  · exact absurd (of_decide_eq_true c_18) (fun h9 => h9 (by rw [h1t]; rfl))
  refine ps_st (S' := (22, [(0, .ref m0), (1, .int (nI j)), (2, .int i)], [.int i], M1)) rfl rfl rfl ?_
  refine ps_if (S1 := (38, [], [], M1)) (S2 := (25, [(0, .ref m0), (1, .int (nI j)), (2, .int i)], [], M1)) rfl rfl rfl (fun c_22 => ?_) (fun c_22 => ?_)
  · have c_22 : i < 0 := of_decide_eq_true c_22
    refine ps_st (S' := (39, [], [.int (-1)], M1)) rfl rfl rfl ?_
    refine ps_st (S' := (52, [], [.int (-1)], M1)) rfl rfl rfl ?_
    exact ps_ret rfl rfl (⟨I2, R, rfl, hR3, hEI13, hER, hi4⟩)
  · have c_22 : ¬ (i < 0) := of_decide_eq_false c_22
    refine ps_st (S' := (26, [(0, .ref m0), (1, .int (nI j)), (2, .int i)], [.int i], M1)) rfl rfl rfl ?_
    refine ps_st (S' := (27, [(0, .ref m0), (1, .int (nI j)), (2, .int i)], [.ref m0, .int i], M1)) rfl rfl rfl ?_
    refine ps_st (S' := (28, [(0, .ref m0), (1, .int (nI j)), (2, .int i)], [.ref m0, .ref m0, .int i], M1)) rfl rfl rfl ?_
    refine ps_st (S' := (29, [(0, .ref m0), (1, .int (nI j)), (2, .int i)], [.int (nI j), .ref m0, .ref m0, .int i], M1)) rfl rfl rfl ?_
    refine pl_call (a := [.ref m0, .int (nI j)]) (rest := [.ref m0, .int i]) rfl rfl rfl (rd_symOf (n := n) (f := f) (tx := tx) (cN := cN) (A := A) (N := N) (mj := mj) (E := E) (k := j) hR3 hi7 hi8 hi9 hF_10 hY_11 hP_12 (hEP) (hN) (hmj) (by omega)) (fun v17 M18 q19 => ?_)
    obtain ⟨s20, q29_s, rfl, rfl⟩ := q19
    show pl _ _ _ (32, [(0, .ref m0), (1, .int (nI j)), (2, .int i)], [.int (nI s20), .ref m0, .int i], M1) _
    have hsl_29 := q29_s.1
    have htl_29 := hY_11.1.2.2.1
    refine pl_call (a := [.ref m0, .int (nI s20)]) (rest := [.int i]) rfl rfl rfl (rd_length (tx := tx) (cN := cN) (A := A) (s := s20) (l := (tX f n E j)) hR3 hY_11 (q29_s)) (fun v21 M22 q23 => ?_)
    obtain ⟨rfl, rfl⟩ := q23
    show pl _ _ _ (35, [(0, .ref m0), (1, .int (nI j)), (2, .int i)], [.int (nI ((tX f n E j).length)), .int i], M1) _
    refine ps_if2 (S1 := (42, [(0, .ref m0), (1, .int (nI j)), (2, .int i)], [], M1)) (S2 := (38, [], [], M1)) rfl rfl rfl (fun c_35 => ?_) (fun c_35 => ?_)
    · exact absurd (of_decide_eq_true c_35) (hi.resolve_left c_22)
    refine ps_st (S' := (39, [], [.int (-1)], M1)) rfl rfl rfl ?_
    refine ps_st (S' := (52, [], [.int (-1)], M1)) rfl rfl rfl ?_
    exact ps_ret rfl rfl (⟨I2, R, rfl, hR3, hEI13, hER, hi4⟩)
set_option maxHeartbeats 1000000 in
theorem rd_characterI {g : xe_G} {m0 : Nat} {q : Nat → Nat} {z : Nat × Nat} {I : rI} {R : rR} {M : mi_H} {n : Nat} {f : Nat → Int32} {tx : List (List Nat)} {cN : Nat} {A : Nat → Nat} {N mj : Nat} {E : List (Nat × Nat)} {n2 : Nat} {j t : Nat} (hR : RS g m0 q z I R M) (hi18 : I 18 = some (nI n2)) (hi51 : I 51 = some 0) (hi52 : I 52 = some (nI N)) (hi53 : I 53 = some (nI mj)) (hF : FK n f I R) (hY : SYT tx cN A I R) (hP : RPV f n E tx N I R) (hEP : EP f n E) (hN : N < 65536) (hmj : mj < 65536) (hn2 : n2 ≤ 65540) (hj : j < 65536) (h1t : tg f E j = 1) (ht : t < (tX f n E j).length) : pt (mT g) 186 [.ref m0, .int (nI j), .int (nI t)] M (fun v M' => (∃  (I' : rI) (R' : rR), v = some (.int (nI ((tX f n E j).getD t 0))) ∧ RS g m0 q z I' R' M' ∧ eqI [0] I I' ∧ eqR [] R R' ∧ I' 0 = some 0)) := by
  refine pt_in (b := mb_186 g) rfl (fun kf => ?_)
  show pl (mT g) kf (mb_186 g).2 (0, [(0, .ref m0), (1, .int (nI j)), (2, .int (nI t))], [], M) _
  have hEI : eqI [0] I I := eqI.rf
  have hER : eqR [] R R := eqR.rf
  have hn := hF.1
  have hlx := tx_len f n E j
  refine ps_st (S' := (1, [(0, .ref m0), (1, .int (nI j)), (2, .int (nI t))], [.ref m0], M)) rfl rfl rfl ?_
  refine ps_st (S' := (2, [(0, .ref m0), (1, .int (nI j)), (2, .int (nI t))], [.int 0, .ref m0], M)) rfl rfl rfl ?_
  refine pr_put (j := 0) rfl hR rfl (fun M1 I2 hR3 hi4 hI5 => ?_)
  have hi6 := (hI5 18 (by decide)).trans hi18
  have hi7 := (hI5 51 (by decide)).trans hi51
  have hi8 := (hI5 52 (by decide)).trans hi52
  have hi9 := (hI5 53 (by decide)).trans hi53
  have hF_10 := hF.mono (pIx hI5 (by decide)) (fun _ _ => rfl)
  have hY_11 := hY.mono (pIx hI5 (by decide)) (fun _ _ => rfl)
  have hP_12 := hP.mono (pIx hI5 (by decide)) (fun _ _ => rfl)
  have hEI13 := hEI.put hI5 (by decide)
  show pl _ _ _ (5, [(0, .ref m0), (1, .int (nI j)), (2, .int (nI t))], [], M1) _
  refine ps_st (S' := (6, [(0, .ref m0), (1, .int (nI j)), (2, .int (nI t))], [.ref m0], M1)) rfl rfl rfl ?_
  refine pr_int (j := 18) (S' := (9, [(0, .ref m0), (1, .int (nI j)), (2, .int (nI t))], [.int (nI n2)], M1)) rfl hR3 rfl hi6 rfl ?_
  refine ps_if (S1 := (38, [], [], M1)) (S2 := (12, [(0, .ref m0), (1, .int (nI j)), (2, .int (nI t))], [], M1)) rfl rfl rfl (fun c_9 => ?_) (fun c_9 => ?_)
  · exact absurd (of_decide_eq_true c_9) (show ¬ ((nI n2) < 0) from fun h9 => absurd ((lt_nI (p := n2) (n := 0) (by omega) (by decide)).mp h9) (by omega))
  refine ps_st (S' := (13, [(0, .ref m0), (1, .int (nI j)), (2, .int (nI t))], [.ref m0], M1)) rfl rfl rfl ?_
  refine ps_st (S' := (14, [(0, .ref m0), (1, .int (nI j)), (2, .int (nI t))], [.int (nI j), .ref m0], M1)) rfl rfl rfl ?_
  refine pl_call (a := [.ref m0, .int (nI j)]) (rest := []) rfl rfl rfl (rd_tag (n := n) (f := f) (tx := tx) (cN := cN) (A := A) (N := N) (mj := mj) (E := E) (k := j) hR3 hi7 hi8 hi9 hF_10 hY_11 hP_12 (hEP) (hN) (hmj) (by omega)) (fun v14 M15 q16 => ?_)
  obtain ⟨rfl, rfl⟩ := q16
  show pl _ _ _ (17, [(0, .ref m0), (1, .int (nI j)), (2, .int (nI t))], [.int (nI (tg f E j))], M1) _
  have htg_14 := tg_lt f E j
  refine ps_st (S' := (18, [(0, .ref m0), (1, .int (nI j)), (2, .int (nI t))], [.int 1, .int (nI (tg f E j))], M1)) rfl rfl rfl ?_
  refine ps_if2 (S1 := (38, [], [], M1)) (S2 := (21, [(0, .ref m0), (1, .int (nI j)), (2, .int (nI t))], [], M1)) rfl rfl rfl (fun c_18 => ?_) (fun c_18 => ?_)
  · exact absurd (of_decide_eq_true c_18) (fun h9 => h9 (by rw [h1t]; rfl))
  refine ps_st (S' := (22, [(0, .ref m0), (1, .int (nI j)), (2, .int (nI t))], [.int (nI t)], M1)) rfl rfl rfl ?_
  refine ps_if (S1 := (38, [], [], M1)) (S2 := (25, [(0, .ref m0), (1, .int (nI j)), (2, .int (nI t))], [], M1)) rfl rfl rfl (fun c_22 => ?_) (fun c_22 => ?_)
  · exact absurd (of_decide_eq_true c_22) (show ¬ ((nI t) < 0) from fun h9 => absurd ((lt_nI (p := t) (n := 0) (by omega) (by decide)).mp h9) (by omega))
  refine ps_st (S' := (26, [(0, .ref m0), (1, .int (nI j)), (2, .int (nI t))], [.int (nI t)], M1)) rfl rfl rfl ?_
  refine ps_st (S' := (27, [(0, .ref m0), (1, .int (nI j)), (2, .int (nI t))], [.ref m0, .int (nI t)], M1)) rfl rfl rfl ?_
  refine ps_st (S' := (28, [(0, .ref m0), (1, .int (nI j)), (2, .int (nI t))], [.ref m0, .ref m0, .int (nI t)], M1)) rfl rfl rfl ?_
  refine ps_st (S' := (29, [(0, .ref m0), (1, .int (nI j)), (2, .int (nI t))], [.int (nI j), .ref m0, .ref m0, .int (nI t)], M1)) rfl rfl rfl ?_
  refine pl_call (a := [.ref m0, .int (nI j)]) (rest := [.ref m0, .int (nI t)]) rfl rfl rfl (rd_symOf (n := n) (f := f) (tx := tx) (cN := cN) (A := A) (N := N) (mj := mj) (E := E) (k := j) hR3 hi7 hi8 hi9 hF_10 hY_11 hP_12 (hEP) (hN) (hmj) (by omega)) (fun v17 M18 q19 => ?_)
  obtain ⟨s20, q29_s, rfl, rfl⟩ := q19
  show pl _ _ _ (32, [(0, .ref m0), (1, .int (nI j)), (2, .int (nI t))], [.int (nI s20), .ref m0, .int (nI t)], M1) _
  have hsl_29 := q29_s.1
  have htl_29 := hY_11.1.2.2.1
  refine pl_call (a := [.ref m0, .int (nI s20)]) (rest := [.int (nI t)]) rfl rfl rfl (rd_length (tx := tx) (cN := cN) (A := A) (s := s20) (l := (tX f n E j)) hR3 hY_11 (q29_s)) (fun v21 M22 q23 => ?_)
  obtain ⟨rfl, rfl⟩ := q23
  show pl _ _ _ (35, [(0, .ref m0), (1, .int (nI j)), (2, .int (nI t))], [.int (nI ((tX f n E j).length)), .int (nI t)], M1) _
  refine ps_if2 (S1 := (42, [(0, .ref m0), (1, .int (nI j)), (2, .int (nI t))], [], M1)) (S2 := (38, [], [], M1)) rfl rfl rfl (fun c_35 => ?_) (fun c_35 => ?_)
  rotate_left
  · exact absurd ((lt_nI (by omega) (by omega)).mpr ht) (of_decide_eq_false c_35)
  refine ps_st (S' := (43, [(0, .ref m0), (1, .int (nI j)), (2, .int (nI t))], [.ref m0], M1)) rfl rfl rfl ?_
  refine ps_st (S' := (44, [(0, .ref m0), (1, .int (nI j)), (2, .int (nI t))], [.ref m0, .ref m0], M1)) rfl rfl rfl ?_
  refine ps_st (S' := (45, [(0, .ref m0), (1, .int (nI j)), (2, .int (nI t))], [.int (nI j), .ref m0, .ref m0], M1)) rfl rfl rfl ?_
  refine pl_call (a := [.ref m0, .int (nI j)]) (rest := [.ref m0]) rfl rfl rfl (rd_symOf (n := n) (f := f) (tx := tx) (cN := cN) (A := A) (N := N) (mj := mj) (E := E) (k := j) hR3 hi7 hi8 hi9 hF_10 hY_11 hP_12 (hEP) (hN) (hmj) (by omega)) (fun v24 M25 q26 => ?_)
  obtain ⟨s27, q45_s, rfl, rfl⟩ := q26
  show pl _ _ _ (48, [(0, .ref m0), (1, .int (nI j)), (2, .int (nI t))], [.int (nI s27), .ref m0], M1) _
  have hsl_45 := q45_s.1
  have htl_45 := hY_11.1.2.2.1
  refine ps_st (S' := (49, [(0, .ref m0), (1, .int (nI j)), (2, .int (nI t))], [.int (nI t), .int (nI s27), .ref m0], M1)) rfl rfl rfl ?_
  refine pl_call (a := [.ref m0, .int (nI s27), .int (nI t)]) (rest := []) rfl rfl rfl (rd_at (tx := tx) (cN := cN) (A := A) (s := s27) (l := (tX f n E j)) (k := t) hR3 hY_11 (q45_s) (ht)) (fun v28 M29 q30 => ?_)
  obtain ⟨rfl, rfl⟩ := q30
  show pl _ _ _ (52, [], [.int (nI ((tX f n E j).getD t 0))], M1) _
  exact ps_reti rfl (⟨I2, R, rfl, hR3, hEI13, hER, hi4⟩)
theorem rd_character {g : xe_G} {m0 : Nat} {q : Nat → Nat} {z : Nat × Nat} {I : rI} {R : rR} {M : mi_H} {ko : Option (Nat × (Nat → Int32))} {k i : Int32} (hR : RS g m0 q z I R M) (hK : KPR ko I R) : pt (mT g) 186 [.ref m0, .int k, .int i] M (fun v M' => ∃ (I' : rI) (R' : rR), v = some (.int (chK ko k i)) ∧ RS g m0 q z I' R' M' ∧ eqI [0] I I' ∧ eqR [] R R' ∧ I' 0 = some 0) := by
  cases ko with
  | none =>
    obtain ⟨kn, h1, h2⟩ := hK
    exact rd_character0 hR h1 h2
  | some r =>
    obtain ⟨h1, h2, -, -, tx, cN, A, E, N, mj, p1, pF, pM, pA, k1, k2, k3, k4, k5, k6, k7, rfl, rfl, -⟩ := hK
    rw [chK_is k7]
    have hN := by2_lt r.2 8
    have hpl := whole_in k7
    have hEP := (EP_of hpl).1
    have h0 := tg_0 hpl
    unfold chI
    by_cases ht : tg r.2 E k.toNatClampNeg = 1
    · have hk0 : ¬ k < 0 := fun h9 => by rw [i32_cl h9, h0] at ht; cases ht
      have e := i32_nn hk0
      obtain ⟨j, ej⟩ : ∃ j, j = k.toNatClampNeg := ⟨_, rfl⟩
      rw [← ej] at e ht ⊢
      have hj : j < 65536 := Nat.not_le.mp (fun h9 => by
        unfold tg at ht
        rw [lk_hi k3.1 (Or.inr (by omega))] at ht
        cases ht)
      subst e
      have hl := tx_len r.2 r.1 E j
      by_cases hi : i < 0 ∨ ¬ i < nI (tX r.2 r.1 E j).length
      · rw [if_neg (fun q => hi.elim q.2.1 (fun h9 => h9 (i32_lt (by omega) q.2.1 q.2.2)))]
        exact rd_characterN hR h1 k4 k5 k6 k1 k2 k3 hEP hN (by2_lt _ _) h2 hj ht hi
      · have hi0 : ¬ i < 0 := fun h9 => hi (Or.inl h9)
        have hi1 : i.toNatClampNeg < (tX r.2 r.1 E j).length := Nat.not_le.mp (fun h9 => hi (Or.inr (fun h8 => by
          have h7 := Int32.lt_iff_toInt_lt.mp h8
          rw [nI_val (by omega)] at h7
          have h6 := i32_to hi0
          omega)))
        rw [if_pos ⟨ht, hi0, hi1⟩]
        have e2 := i32_nn hi0
        obtain ⟨t, et⟩ : ∃ t, t = i.toNatClampNeg := ⟨_, rfl⟩
        rw [← et] at e2 hi1 ⊢
        subst e2
        exact rd_characterI hR h1 k4 k5 k6 k1 k2 k3 hEP hN (by2_lt _ _) h2 hj ht hi1
    · rw [if_neg (fun q => ht q.1)]
      exact rd_characterT hR h1 k4 k5 k6 k1 k2 k3 hEP hN (by2_lt _ _) h2 h0 ht
end
section
/-! the bits of a number, as both sides tell them (my own text) -/
section BIA
variable {f : Nat → Int32} {n : Nat} {E : List (Nat × Nat)} {j : Nat}
def bL4 (f : Nat → Int32) (p : Nat) : Int64 := Int32.toInt64 (nI (by4 f (p + 1)))
def bL8 (f : Nat → Int32) (p : Nat) : Int64 := (nL (by4 f (p + 1)) <<< (Int32.toInt64 32 &&& 63)) ||| nL (by4 f (p + 5))
def plc (E : List (Nat × Nat)) (j : Nat) : Nat := (lk E j).getD 0
def biI (f : Nat → Int32) (E : List (Nat × Nat)) (k : Int32) : Int64 := if tg f E k.toNatClampNeg = 3 ∨ tg f E k.toNatClampNeg = 4 then bL4 f (plc E k.toNatClampNeg) else if tg f E k.toNatClampNeg = 5 ∨ tg f E k.toNatClampNeg = 6 then bL8 f (plc E k.toNatClampNeg) else 0
/-- what is kept tells it -/
def biK (ko : Option (Nat × (Nat → Int32))) (k : Int32) : Int64 := match ko with
  | none => 0
  | some r => match s_whole r.2 r.1 with
    | .inl _ => 0
    | .inr y => biI r.2 y.1 k
theorem biK_is {r : Nat × (Nat → Int32)} {k : Int32} {y : Nat × Nat × Nat × Nat} (h : s_whole r.2 r.1 = .inr (E, y)) : biK (some r) k = biI r.2 E k := by
  show (match s_whole r.2 r.1 with | .inl _ => 0 | .inr y => biI r.2 y.1 k) = _
  rw [h]
theorem nL_bv {x : Nat} : (nL x).toBitVec = BitVec.ofNat 64 x := rfl
theorem l2i_all {p : Nat} : Int64.toInt32 (nL p) = nI p := by
  apply Int32.toBitVec_inj.mp
  rw [Int64.toBitVec_toInt32, nL_bv, nI_bv, BitVec.signExtend_eq_setWidth_of_le _ (by decide)]
  apply BitVec.eq_of_toNat_eq
  simp only [BitVec.toNat_setWidth, BitVec.toNat_ofNat]
  omega
theorem msk32 (i : Nat) (h : i < 64) : (4294967295 : Int64).toBitVec.getLsbD i = decide (i < 32) := by
  have e : (4294967295 : Int64).toBitVec = BitVec.ofNat 64 (2 ^ 32 - 1) := by decide
  rw [e, BitVec.getLsbD_ofNat, Nat.testBit_two_pow_sub_one]
  simp only [h, decide_true, Bool.true_and]
theorem bits8 {a b : Nat} (ha : a < 4294967296) (hb : b < 4294967296) : ((Int32.toInt64 (nI a)) <<< (Int32.toInt64 32 &&& 63)) ||| ((Int32.toInt64 (nI b)) &&& 4294967295) = (nL a <<< (Int32.toInt64 32 &&& 63)) ||| nL b := by
  apply Int64.toBitVec_inj.mp
  have e32 : (Int32.toInt64 32 &&& 63).toBitVec.smod 64 = 32#64 := by decide
  rw [Int64.toBitVec_or, Int64.toBitVec_or, Int64.toBitVec_and, Int64.toBitVec_shiftLeft, Int64.toBitVec_shiftLeft, Int32.toBitVec_toInt64, Int32.toBitVec_toInt64, nI_bv, nI_bv, nL_bv, nL_bv, e32]
  apply BitVec.eq_of_getLsbD_eq
  intro i hi
  have e3 : (32#64).toNat = 32 := by decide
  rw [BitVec.getLsbD_or, BitVec.getLsbD_or, BitVec.getLsbD_and, msk32 i hi, BitVec.shiftLeft_eq', BitVec.shiftLeft_eq', e3, BitVec.getLsbD_shiftLeft, BitVec.getLsbD_shiftLeft]
  by_cases h : i < 32
  · have h2 : (BitVec.signExtend 64 (BitVec.ofNat 32 b)).getLsbD i = (BitVec.ofNat 64 b).getLsbD i := by
      rw [BitVec.getLsbD_signExtend, BitVec.getLsbD_ofNat, BitVec.getLsbD_ofNat]
      simp only [h, hi, decide_true, Bool.true_and, if_true]
    rw [h2]
    simp only [h, decide_true, Bool.not_true, Bool.and_false, Bool.false_and, Bool.false_or, Bool.and_true]
  · have h3 : (BitVec.ofNat 64 b).getLsbD i = false := by
      rw [BitVec.getLsbD_ofNat, Nat.testBit_lt_two_pow (Nat.lt_of_lt_of_le hb (by
        have : 2 ^ 32 ≤ 2 ^ i := Nat.pow_le_pow_right (by decide) (by omega)
        omega))]
      exact Bool.and_false _
    have h4 : (BitVec.signExtend 64 (BitVec.ofNat 32 a)).getLsbD (i - 32) = (BitVec.ofNat 64 a).getLsbD (i - 32) := by
      have q1 : i - 32 < 32 := by omega
      have q2 : i - 32 < 64 := by omega
      rw [BitVec.getLsbD_signExtend, BitVec.getLsbD_ofNat, BitVec.getLsbD_ofNat]
      simp only [q1, q2, decide_true, Bool.true_and, if_true]
    rw [h3, h4]
    simp only [h, decide_false, Bool.and_false, Bool.or_false]
/-- numbers lie within the file -/
def nu1 (f : Nat → Int32) (n p : Nat) : Prop := (by1 f p = 3 ∨ by1 f p = 4 → p + 5 ≤ n) ∧ (by1 f p = 5 ∨ by1 f p = 6 → p + 9 ≤ n)
theorem nums_ok {mj N : Nat} : ∀ {r k p p' : Nat} {E0 E : List (Nat × Nat)}, (∀ q ∈ E0, nu1 f n q.2) → s_ents f n mj N r k p E0 = .inr (p', E) → ∀ q ∈ E, nu1 f n q.2 := by
  intro r
  induction r with
  | zero => intro k p p' E0 E h0 h; cases h; exact h0
  | succ r ih =>
    intro k p p' E0 E h0 h
    unfold s_ents at h
    split at h
    · cases h; exact h0
    · cases he : s_entry f n mj N k p with
      | inl e => rw [he] at h; cases h
      | inr y =>
        obtain ⟨p2, x⟩ := y
        rw [he] at h
        refine ih ?_ h
        intro q hq
        rcases List.mem_append.mp hq with hq | hq
        · exact h0 q hq
        · have e : q = (k, p) := by simpa using hq
          rw [e]
          refine ⟨fun h9 => ?_, fun h9 => ?_⟩
          · refine Nat.not_lt.mp (fun h8 => ?_)
            dsimp only at h9 h8
            unfold s_entry at he
            rw [if_neg (show ¬ ((by1 f p = 5 ∨ by1 f p = 6) ∧ N ≤ k + 1) by omega), if_neg (show ¬ by1 f p = 1 by omega), if_pos h9, if_pos h8] at he
            split at he
            · cases he
            · split at he <;> cases he
          · refine Nat.not_lt.mp (fun h8 => ?_)
            dsimp only at h9 h8
            unfold s_entry at he
            rw [if_neg (show ¬ by1 f p = 1 by omega), if_neg (show ¬ (by1 f p = 3 ∨ by1 f p = 4) by omega), if_pos h9] at he
            repeat' split at he
            all_goals first | cases he | omega
theorem nums_of {mj p' p : Nat} (h : s_pool f n mj = .inr (p', E)) (hp : lk E j = some p) : nu1 f n p := by
  unfold s_pool at h
  split at h
  · cases h
  · split at h
    · cases h
    · exact nums_ok (fun q hq => by cases hq) h _ (lk_in hp)
theorem plc_of {p : Nat} (h : lk E j = some p) : plc E j = p := by
  unfold plc
  rw [h]
  rfl
end BIA
theorem dz_tagOf {g : xe_G} {M : mi_H} {f : Nat → Int32} {n N q : Nat} {E : List (Nat × Nat)} {k : Int32}  (hV : PV g f n N E q M) (h0 : tg f E 0 = 0) : pt (mT g) 138 [.ref q, .int k] M (fun v M' => (v = some (.int (nI (tg f E k.toNatClampNeg))) ∧ M = M')) := by
  obtain ⟨hL9, H, m, qq, F, cc, hP9, hT9, -, hb9, hVF, -⟩ := id hV
  exact (ct_tagOf hP9 (d := 3) (by decide)).pt.mono (fun v M' h => ⟨by rw [h.1, hVF.tagR hb9.1 h0], h.2.symm⟩)
theorem dz_tagPlace {g : xe_G} {M : mi_H} {f : Nat → Int32} {n N q : Nat} {E : List (Nat × Nat)} {k : Int32}  (hV : PV g f n N E q M) : pt (mT g) 139 [.ref q, .int k] M (fun v M' => (∃ (x : Int32), v = some (.int x) ∧ M = M')) := by
  obtain ⟨hL9, H, m, qq, F, cc, hP9, hT9, -, hb9, hVF, -⟩ := id hV
  exact (ct_tagPlace hP9 (d := 3) (by decide)).pt.mono (fun v M' h => ⟨_, h.1, h.2.symm⟩)
set_option maxHeartbeats 1000000 in
theorem dk_bits0 {g : xe_G} {M : mi_H} {o ca fl : Nat} {cn wp k : Int32} (h_o : M.1 o = some (ob 11 [.ref ca, .int cn, .ref fl, .null, .int wp]))  : pt (mT g) 1 [.ref o, .int k] M (fun v M' => (v = some (.long 0) ∧ M = M')) := by
  refine pt_in (b := mb_1 g) rfl (fun kf => ?_)
  show pl (mT g) kf (mb_1 g).2 (0, [(0, .ref o), (1, .int k)], [], M) _
  refine ps_st (S' := (1, [(0, .ref o), (1, .int k)], [.ref o], M)) rfl rfl rfl ?_
  refine ps_get (S' := (4, [(0, .ref o), (1, .int k)], [.null], M)) rfl h_o rfl rfl ?_
  refine ps_st (S' := (7, [(0, .ref o), (1, .int k)], [], M)) rfl rfl rfl ?_
  refine ps_st (S' := (8, [(0, .ref o), (1, .int k)], [.long 0], M)) rfl rfl rfl ?_
  exact ps_ret rfl rfl (⟨rfl, rfl⟩)
set_option maxHeartbeats 1000000 in
theorem dk_bitsT {g : xe_G} {M : mi_H} {f : Nat → Int32} {n N q : Nat} {E : List (Nat × Nat)} {o ca fl c b : Nat} {cn wp : Int32} {w : List Value} {k : Int32} (h_o : M.1 o = some (ob 11 [.ref ca, .int cn, .ref fl, .ref c, .int wp])) (h_c : M.1 c = some (ob 3 (.ref b :: .ref q :: w))) (hV : PV g f n N E q M) (h0 : tg f E 0 = 0) (ht : ¬ (3 ≤ tg f E k.toNatClampNeg ∧ tg f E k.toNatClampNeg ≤ 6)) : pt (mT g) 1 [.ref o, .int k] M (fun v M' => (v = some (.long 0) ∧ M = M')) := by
  refine pt_in (b := mb_1 g) rfl (fun kf => ?_)
  show pl (mT g) kf (mb_1 g).2 (0, [(0, .ref o), (1, .int k)], [], M) _
  obtain ⟨hL9, H, m, qq, F, cc, hP9, -, -, hb9, -⟩ := id hV
  have h_q := hP9.1
  have hN9 := hb9.2.2.1
  have htl9 := tg_lt f E k.toNatClampNeg
  refine ps_st (S' := (1, [(0, .ref o), (1, .int k)], [.ref o], M)) rfl rfl rfl ?_
  refine ps_get (S' := (4, [(0, .ref o), (1, .int k)], [.ref c], M)) rfl h_o rfl rfl ?_
  refine ps_st (S' := (9, [(0, .ref o), (1, .int k)], [], M)) rfl rfl rfl ?_
  refine ps_st (S' := (10, [(0, .ref o), (1, .int k)], [.ref o], M)) rfl rfl rfl ?_
  refine ps_get (S' := (13, [(0, .ref o), (1, .int k)], [.ref c], M)) rfl h_o rfl rfl ?_
  refine ps_get (S' := (16, [(0, .ref o), (1, .int k)], [.ref q], M)) rfl h_c rfl rfl ?_
  refine ps_st (S' := (17, [(0, .ref o), (1, .int k)], [.int k, .ref q], M)) rfl rfl rfl ?_
  refine pl_call (a := [.ref q, .int k]) (rest := []) rfl rfl rfl (dz_tagOf (f := f) (n := n) (N := N) (q := q) (E := E) (k := k) (hV) (h0)) (fun v1 M2 q3 => ?_)
  obtain ⟨rfl, rfl⟩ := q3
  show pl _ _ _ (20, [(0, .ref o), (1, .int k)], [.int (nI (tg f E k.toNatClampNeg))], M) _
  refine ps_st (S' := (21, [(2, .int (nI (tg f E k.toNatClampNeg))), (0, .ref o), (1, .int k)], [], M)) rfl rfl rfl ?_
  refine ps_st (S' := (22, [(2, .int (nI (tg f E k.toNatClampNeg))), (0, .ref o), (1, .int k)], [.ref o], M)) rfl rfl rfl ?_
  refine ps_get (S' := (25, [(2, .int (nI (tg f E k.toNatClampNeg))), (0, .ref o), (1, .int k)], [.ref c], M)) rfl h_o rfl rfl ?_
  refine ps_get (S' := (28, [(2, .int (nI (tg f E k.toNatClampNeg))), (0, .ref o), (1, .int k)], [.ref q], M)) rfl h_c rfl rfl ?_
  refine ps_st (S' := (29, [(2, .int (nI (tg f E k.toNatClampNeg))), (0, .ref o), (1, .int k)], [.int k, .ref q], M)) rfl rfl rfl ?_
  refine pl_call (a := [.ref q, .int k]) (rest := []) rfl rfl rfl (dz_tagPlace (f := f) (n := n) (N := N) (q := q) (E := E) (k := k) (hV)) (fun v4 M5 q6 => ?_)
  obtain ⟨x7, rfl, rfl⟩ := q6
  show pl _ _ _ (32, [(2, .int (nI (tg f E k.toNatClampNeg))), (0, .ref o), (1, .int k)], [.int x7], M) _
  refine ps_st (S' := (33, [(2, .int (nI (tg f E k.toNatClampNeg))), (0, .ref o), (1, .int k)], [.int 1, .int x7], M)) rfl rfl rfl ?_
  refine ps_st (S' := (34, [(2, .int (nI (tg f E k.toNatClampNeg))), (0, .ref o), (1, .int k)], [.int (x7 + 1)], M)) rfl rfl rfl ?_
  refine ps_st (S' := (35, [(3, .int (x7 + 1)), (2, .int (nI (tg f E k.toNatClampNeg))), (0, .ref o), (1, .int k)], [], M)) rfl rfl rfl ?_
  refine ps_st (S' := (36, [(3, .int (x7 + 1)), (2, .int (nI (tg f E k.toNatClampNeg))), (0, .ref o), (1, .int k)], [.int (nI (tg f E k.toNatClampNeg))], M)) rfl rfl rfl ?_
  refine ps_st (S' := (37, [(3, .int (x7 + 1)), (2, .int (nI (tg f E k.toNatClampNeg))), (0, .ref o), (1, .int k)], [.int 3, .int (nI (tg f E k.toNatClampNeg))], M)) rfl rfl rfl ?_
  refine ps_if2 (S1 := (45, [(0, .ref o), (3, .int (x7 + 1))], [], M)) (S2 := (40, [(3, .int (x7 + 1)), (2, .int (nI (tg f E k.toNatClampNeg))), (0, .ref o), (1, .int k)], [], M)) rfl rfl rfl (fun c_37 => ?_) (fun c_37 => ?_)
  · exact absurd (of_decide_eq_true c_37) (fun h9 => ht (by have h8 := (eq_nI (p := tg f E k.toNatClampNeg) (n := 3) (by omega) (by decide)).mp h9; omega))
  refine ps_st (S' := (41, [(3, .int (x7 + 1)), (2, .int (nI (tg f E k.toNatClampNeg))), (0, .ref o), (1, .int k)], [.int (nI (tg f E k.toNatClampNeg))], M)) rfl rfl rfl ?_
  refine ps_st (S' := (42, [(3, .int (x7 + 1)), (2, .int (nI (tg f E k.toNatClampNeg))), (0, .ref o), (1, .int k)], [.int 4, .int (nI (tg f E k.toNatClampNeg))], M)) rfl rfl rfl ?_
  refine ps_if2 (S1 := (58, [(3, .int (x7 + 1)), (2, .int (nI (tg f E k.toNatClampNeg))), (0, .ref o), (1, .int k)], [], M)) (S2 := (45, [(0, .ref o), (3, .int (x7 + 1))], [], M)) rfl rfl rfl (fun c_42 => ?_) (fun c_42 => ?_)
  rotate_left
  · exact absurd (show ¬ (nI (tg f E k.toNatClampNeg)) = 4 from fun h9 => ht (by have h8 := (eq_nI (p := tg f E k.toNatClampNeg) (n := 4) (by omega) (by decide)).mp h9; omega)) (of_decide_eq_false c_42)
  refine ps_st (S' := (59, [(3, .int (x7 + 1)), (2, .int (nI (tg f E k.toNatClampNeg))), (0, .ref o), (1, .int k)], [.int (nI (tg f E k.toNatClampNeg))], M)) rfl rfl rfl ?_
  refine ps_st (S' := (60, [(3, .int (x7 + 1)), (2, .int (nI (tg f E k.toNatClampNeg))), (0, .ref o), (1, .int k)], [.int 5, .int (nI (tg f E k.toNatClampNeg))], M)) rfl rfl rfl ?_
  refine ps_if2 (S1 := (69, [(0, .ref o), (3, .int (x7 + 1))], [], M)) (S2 := (63, [(3, .int (x7 + 1)), (2, .int (nI (tg f E k.toNatClampNeg))), (0, .ref o), (1, .int k)], [], M)) rfl rfl rfl (fun c_60 => ?_) (fun c_60 => ?_)
  · exact absurd (of_decide_eq_true c_60) (fun h9 => ht (by have h8 := (eq_nI (p := tg f E k.toNatClampNeg) (n := 5) (by omega) (by decide)).mp h9; omega))
  refine ps_st (S' := (64, [(3, .int (x7 + 1)), (2, .int (nI (tg f E k.toNatClampNeg))), (0, .ref o), (1, .int k)], [.int (nI (tg f E k.toNatClampNeg))], M)) rfl rfl rfl ?_
  refine ps_st (S' := (66, [(3, .int (x7 + 1)), (2, .int (nI (tg f E k.toNatClampNeg))), (0, .ref o), (1, .int k)], [.int 6, .int (nI (tg f E k.toNatClampNeg))], M)) rfl rfl rfl ?_
  refine ps_if2 (S1 := (104, [(3, .int (x7 + 1)), (2, .int (nI (tg f E k.toNatClampNeg))), (0, .ref o), (1, .int k)], [], M)) (S2 := (69, [(0, .ref o), (3, .int (x7 + 1))], [], M)) rfl rfl rfl (fun c_66 => ?_) (fun c_66 => ?_)
  rotate_left
  · exact absurd (show ¬ (nI (tg f E k.toNatClampNeg)) = 6 from fun h9 => ht (by have h8 := (eq_nI (p := tg f E k.toNatClampNeg) (n := 6) (by omega) (by decide)).mp h9; omega)) (of_decide_eq_false c_66)
  refine ps_st (S' := (105, [(3, .int (x7 + 1)), (2, .int (nI (tg f E k.toNatClampNeg))), (0, .ref o), (1, .int k)], [.long 0], M)) rfl rfl rfl ?_
  exact ps_ret rfl rfl (⟨rfl, rfl⟩)
set_option maxHeartbeats 1000000 in
theorem dk_bits4 {g : xe_G} {M : mi_H} {f : Nat → Int32} {n N q : Nat} {E : List (Nat × Nat)} {o ca fl c b : Nat} {cn wp : Int32} {w : List Value} {da j p : Nat} (h_o : M.1 o = some (ob 11 [.ref ca, .int cn, .ref fl, .ref c, .int wp])) (h_c : M.1 c = some (ob 3 (.ref b :: .ref q :: w))) (h_b : M.1 b = some (ob 1 [.ref da])) (h_da : M.1 da = some (ar .byte n f)) (hV : PV g f n N E q M) (hj : j < 65536) (hn : n ≤ 65540) (hp : lk E j = some p) (htt : tg f E j = 3 ∨ tg f E j = 4) (hin : p + 5 ≤ n) : pt (mT g) 1 [.ref o, .int (nI j)] M (fun v M' => (v = some (.long (bL4 f p)) ∧ M = M')) := by
  refine pt_in (b := mb_1 g) rfl (fun kf => ?_)
  show pl (mT g) kf (mb_1 g).2 (0, [(0, .ref o), (1, .int (nI j))], [], M) _
  obtain ⟨hL9, H, m, qq, F, cc, hP9, -, -, hb9, -⟩ := id hV
  have h_q := hP9.1
  have hN9 := hb9.2.2.1
  have htl9 := tg_lt f E j
  refine ps_st (S' := (1, [(0, .ref o), (1, .int (nI j))], [.ref o], M)) rfl rfl rfl ?_
  refine ps_get (S' := (4, [(0, .ref o), (1, .int (nI j))], [.ref c], M)) rfl h_o rfl rfl ?_
  refine ps_st (S' := (9, [(0, .ref o), (1, .int (nI j))], [], M)) rfl rfl rfl ?_
  refine ps_st (S' := (10, [(0, .ref o), (1, .int (nI j))], [.ref o], M)) rfl rfl rfl ?_
  refine ps_get (S' := (13, [(0, .ref o), (1, .int (nI j))], [.ref c], M)) rfl h_o rfl rfl ?_
  refine ps_get (S' := (16, [(0, .ref o), (1, .int (nI j))], [.ref q], M)) rfl h_c rfl rfl ?_
  refine ps_st (S' := (17, [(0, .ref o), (1, .int (nI j))], [.int (nI j), .ref q], M)) rfl rfl rfl ?_
  refine pl_call (a := [.ref q, .int (nI j)]) (rest := []) rfl rfl rfl (dy_tagOf (f := f) (n := n) (N := N) (q := q) (E := E) (j := j) (hV) (hj)) (fun v1 M2 q3 => ?_)
  obtain ⟨rfl, rfl⟩ := q3
  show pl _ _ _ (20, [(0, .ref o), (1, .int (nI j))], [.int (nI (tg f E j))], M) _
  refine ps_st (S' := (21, [(2, .int (nI (tg f E j))), (0, .ref o), (1, .int (nI j))], [], M)) rfl rfl rfl ?_
  refine ps_st (S' := (22, [(2, .int (nI (tg f E j))), (0, .ref o), (1, .int (nI j))], [.ref o], M)) rfl rfl rfl ?_
  refine ps_get (S' := (25, [(2, .int (nI (tg f E j))), (0, .ref o), (1, .int (nI j))], [.ref c], M)) rfl h_o rfl rfl ?_
  refine ps_get (S' := (28, [(2, .int (nI (tg f E j))), (0, .ref o), (1, .int (nI j))], [.ref q], M)) rfl h_c rfl rfl ?_
  refine ps_st (S' := (29, [(2, .int (nI (tg f E j))), (0, .ref o), (1, .int (nI j))], [.int (nI j), .ref q], M)) rfl rfl rfl ?_
  refine pl_call (a := [.ref q, .int (nI j)]) (rest := []) rfl rfl rfl (dy_tagPlace (f := f) (n := n) (N := N) (q := q) (E := E) (j := j) (p := p) (hV) (hj) (hp) (by omega)) (fun v4 M5 q6 => ?_)
  obtain ⟨rfl, rfl⟩ := q6
  show pl _ _ _ (32, [(2, .int (nI (tg f E j))), (0, .ref o), (1, .int (nI j))], [.int (nI (p))], M) _
  refine ps_st (S' := (33, [(2, .int (nI (tg f E j))), (0, .ref o), (1, .int (nI j))], [.int 1, .int (nI (p))], M)) rfl rfl rfl ?_
  refine ps_st (S' := (34, [(2, .int (nI (tg f E j))), (0, .ref o), (1, .int (nI j))], [.int ((nI (p)) + 1)], M)) rfl rfl rfl ?_
  rw [nI_add1 (p := p) (k := 1) (x := 1) rfl (by omega)]
  show pl _ _ _ (_, [(2, .int (nI (tg f E j))), (0, .ref o), (1, .int (nI j))], [.int (nI (p + 1))], M) _
  refine ps_st (S' := (35, [(3, .int (nI (p + 1))), (2, .int (nI (tg f E j))), (0, .ref o), (1, .int (nI j))], [], M)) rfl rfl rfl ?_
  refine ps_st (S' := (36, [(3, .int (nI (p + 1))), (2, .int (nI (tg f E j))), (0, .ref o), (1, .int (nI j))], [.int (nI (tg f E j))], M)) rfl rfl rfl ?_
  refine ps_st (S' := (37, [(3, .int (nI (p + 1))), (2, .int (nI (tg f E j))), (0, .ref o), (1, .int (nI j))], [.int 3, .int (nI (tg f E j))], M)) rfl rfl rfl ?_
  refine ps_if2 (S1 := (45, [(0, .ref o), (3, .int (nI (p + 1)))], [], M)) (S2 := (40, [(3, .int (nI (p + 1))), (2, .int (nI (tg f E j))), (0, .ref o), (1, .int (nI j))], [], M)) rfl rfl rfl (fun c_37 => ?_) (fun c_37 => ?_)
  · have c_37 : (nI (tg f E j)) = 3 := of_decide_eq_true c_37
    have n_37 : tg f E j = 3 := (eq_nI (p := tg f E j) (n := 3) (Nat.lt_trans (tg_lt _ _ _) (by decide)) (by decide)).mp c_37
    refine ps_st (S' := (46, [(0, .ref o), (3, .int (nI (p + 1)))], [.ref o], M)) rfl rfl rfl ?_
    refine ps_get (S' := (49, [(0, .ref o), (3, .int (nI (p + 1)))], [.ref c], M)) rfl h_o rfl rfl ?_
    refine ps_get (S' := (52, [(0, .ref o), (3, .int (nI (p + 1)))], [.ref b], M)) rfl h_c rfl rfl ?_
    refine ps_st (S' := (53, [(0, .ref o), (3, .int (nI (p + 1)))], [.int (nI (p + 1)), .ref b], M)) rfl rfl rfl ?_
    refine pl_call (a := [.ref b, .int (nI (p + 1))]) (rest := []) rfl rfl rfl (dk_u4 (f := f) (n := n) (b := b) (da := da) (p := (p + 1)) h_b h_da (hn) (by omega)) (fun v7 M8 q9 => ?_)
    obtain ⟨rfl, rfl⟩ := q9
    show pl _ _ _ (56, [(0, .ref o), (3, .int (nI (p + 1)))], [.int (nI (by4 f (p + 1)))], M) _
    refine ps_st (S' := (57, [(0, .ref o), (3, .int (nI (p + 1)))], [.long (Int32.toInt64 (nI (by4 f (p + 1))))], M)) rfl rfl rfl ?_
    exact ps_ret rfl rfl (⟨rfl, rfl⟩)
  · have c_37 : ¬ ((nI (tg f E j)) = 3) := of_decide_eq_false c_37
    have n_37 : ¬ (tg f E j = 3) := fun h9 => c_37 ((eq_nI (p := tg f E j) (n := 3) (Nat.lt_trans (tg_lt _ _ _) (by decide)) (by decide)).mpr h9)
    refine ps_st (S' := (41, [(3, .int (nI (p + 1))), (2, .int (nI (tg f E j))), (0, .ref o), (1, .int (nI j))], [.int (nI (tg f E j))], M)) rfl rfl rfl ?_
    refine ps_st (S' := (42, [(3, .int (nI (p + 1))), (2, .int (nI (tg f E j))), (0, .ref o), (1, .int (nI j))], [.int 4, .int (nI (tg f E j))], M)) rfl rfl rfl ?_
    refine ps_if2 (S1 := (58, [(3, .int (nI (p + 1))), (2, .int (nI (tg f E j))), (0, .ref o), (1, .int (nI j))], [], M)) (S2 := (45, [(0, .ref o), (3, .int (nI (p + 1)))], [], M)) rfl rfl rfl (fun c_42 => ?_) (fun c_42 => ?_)
    · exact absurd (of_decide_eq_true c_42) (fun h9 => h9 ((eq_nI (p := tg f E j) (n := 4) (Nat.lt_trans (tg_lt _ _ _) (by decide)) (by decide)).mpr (by omega)))
    refine ps_st (S' := (46, [(0, .ref o), (3, .int (nI (p + 1)))], [.ref o], M)) rfl rfl rfl ?_
    refine ps_get (S' := (49, [(0, .ref o), (3, .int (nI (p + 1)))], [.ref c], M)) rfl h_o rfl rfl ?_
    refine ps_get (S' := (52, [(0, .ref o), (3, .int (nI (p + 1)))], [.ref b], M)) rfl h_c rfl rfl ?_
    refine ps_st (S' := (53, [(0, .ref o), (3, .int (nI (p + 1)))], [.int (nI (p + 1)), .ref b], M)) rfl rfl rfl ?_
    refine pl_call (a := [.ref b, .int (nI (p + 1))]) (rest := []) rfl rfl rfl (dk_u4 (f := f) (n := n) (b := b) (da := da) (p := (p + 1)) h_b h_da (hn) (by omega)) (fun v10 M11 q12 => ?_)
    obtain ⟨rfl, rfl⟩ := q12
    show pl _ _ _ (56, [(0, .ref o), (3, .int (nI (p + 1)))], [.int (nI (by4 f (p + 1)))], M) _
    refine ps_st (S' := (57, [(0, .ref o), (3, .int (nI (p + 1)))], [.long (Int32.toInt64 (nI (by4 f (p + 1))))], M)) rfl rfl rfl ?_
    exact ps_ret rfl rfl (⟨rfl, rfl⟩)
set_option maxHeartbeats 1000000 in
theorem dk_bits8 {g : xe_G} {M : mi_H} {f : Nat → Int32} {n N q : Nat} {E : List (Nat × Nat)} {o ca fl c b : Nat} {cn wp : Int32} {w : List Value} {da j p : Nat} (h_o : M.1 o = some (ob 11 [.ref ca, .int cn, .ref fl, .ref c, .int wp])) (h_c : M.1 c = some (ob 3 (.ref b :: .ref q :: w))) (h_b : M.1 b = some (ob 1 [.ref da])) (h_da : M.1 da = some (ar .byte n f)) (hV : PV g f n N E q M) (hj : j < 65536) (hn : n ≤ 65540) (hp : lk E j = some p) (htt : tg f E j = 5 ∨ tg f E j = 6) (hin : p + 9 ≤ n) : pt (mT g) 1 [.ref o, .int (nI j)] M (fun v M' => (v = some (.long (bL8 f p)) ∧ M = M')) := by
  refine pt_in (b := mb_1 g) rfl (fun kf => ?_)
  show pl (mT g) kf (mb_1 g).2 (0, [(0, .ref o), (1, .int (nI j))], [], M) _
  obtain ⟨hL9, H, m, qq, F, cc, hP9, -, -, hb9, -⟩ := id hV
  have h_q := hP9.1
  have hN9 := hb9.2.2.1
  have htl9 := tg_lt f E j
  refine ps_st (S' := (1, [(0, .ref o), (1, .int (nI j))], [.ref o], M)) rfl rfl rfl ?_
  refine ps_get (S' := (4, [(0, .ref o), (1, .int (nI j))], [.ref c], M)) rfl h_o rfl rfl ?_
  refine ps_st (S' := (9, [(0, .ref o), (1, .int (nI j))], [], M)) rfl rfl rfl ?_
  refine ps_st (S' := (10, [(0, .ref o), (1, .int (nI j))], [.ref o], M)) rfl rfl rfl ?_
  refine ps_get (S' := (13, [(0, .ref o), (1, .int (nI j))], [.ref c], M)) rfl h_o rfl rfl ?_
  refine ps_get (S' := (16, [(0, .ref o), (1, .int (nI j))], [.ref q], M)) rfl h_c rfl rfl ?_
  refine ps_st (S' := (17, [(0, .ref o), (1, .int (nI j))], [.int (nI j), .ref q], M)) rfl rfl rfl ?_
  refine pl_call (a := [.ref q, .int (nI j)]) (rest := []) rfl rfl rfl (dy_tagOf (f := f) (n := n) (N := N) (q := q) (E := E) (j := j) (hV) (hj)) (fun v1 M2 q3 => ?_)
  obtain ⟨rfl, rfl⟩ := q3
  show pl _ _ _ (20, [(0, .ref o), (1, .int (nI j))], [.int (nI (tg f E j))], M) _
  refine ps_st (S' := (21, [(2, .int (nI (tg f E j))), (0, .ref o), (1, .int (nI j))], [], M)) rfl rfl rfl ?_
  refine ps_st (S' := (22, [(2, .int (nI (tg f E j))), (0, .ref o), (1, .int (nI j))], [.ref o], M)) rfl rfl rfl ?_
  refine ps_get (S' := (25, [(2, .int (nI (tg f E j))), (0, .ref o), (1, .int (nI j))], [.ref c], M)) rfl h_o rfl rfl ?_
  refine ps_get (S' := (28, [(2, .int (nI (tg f E j))), (0, .ref o), (1, .int (nI j))], [.ref q], M)) rfl h_c rfl rfl ?_
  refine ps_st (S' := (29, [(2, .int (nI (tg f E j))), (0, .ref o), (1, .int (nI j))], [.int (nI j), .ref q], M)) rfl rfl rfl ?_
  refine pl_call (a := [.ref q, .int (nI j)]) (rest := []) rfl rfl rfl (dy_tagPlace (f := f) (n := n) (N := N) (q := q) (E := E) (j := j) (p := p) (hV) (hj) (hp) (by omega)) (fun v4 M5 q6 => ?_)
  obtain ⟨rfl, rfl⟩ := q6
  show pl _ _ _ (32, [(2, .int (nI (tg f E j))), (0, .ref o), (1, .int (nI j))], [.int (nI (p))], M) _
  refine ps_st (S' := (33, [(2, .int (nI (tg f E j))), (0, .ref o), (1, .int (nI j))], [.int 1, .int (nI (p))], M)) rfl rfl rfl ?_
  refine ps_st (S' := (34, [(2, .int (nI (tg f E j))), (0, .ref o), (1, .int (nI j))], [.int ((nI (p)) + 1)], M)) rfl rfl rfl ?_
  rw [nI_add1 (p := p) (k := 1) (x := 1) rfl (by omega)]
  show pl _ _ _ (_, [(2, .int (nI (tg f E j))), (0, .ref o), (1, .int (nI j))], [.int (nI (p + 1))], M) _
  refine ps_st (S' := (35, [(3, .int (nI (p + 1))), (2, .int (nI (tg f E j))), (0, .ref o), (1, .int (nI j))], [], M)) rfl rfl rfl ?_
  refine ps_st (S' := (36, [(3, .int (nI (p + 1))), (2, .int (nI (tg f E j))), (0, .ref o), (1, .int (nI j))], [.int (nI (tg f E j))], M)) rfl rfl rfl ?_
  refine ps_st (S' := (37, [(3, .int (nI (p + 1))), (2, .int (nI (tg f E j))), (0, .ref o), (1, .int (nI j))], [.int 3, .int (nI (tg f E j))], M)) rfl rfl rfl ?_
  refine ps_if2 (S1 := (45, [(0, .ref o), (3, .int (nI (p + 1)))], [], M)) (S2 := (40, [(3, .int (nI (p + 1))), (2, .int (nI (tg f E j))), (0, .ref o), (1, .int (nI j))], [], M)) rfl rfl rfl (fun c_37 => ?_) (fun c_37 => ?_)
  · exact absurd (of_decide_eq_true c_37) (show ¬ ((nI (tg f E j)) = 3) from fun h9 => absurd ((eq_nI (p := tg f E j) (n := 3) (Nat.lt_trans (tg_lt _ _ _) (by decide)) (by decide)).mp h9) (by omega))
  refine ps_st (S' := (41, [(3, .int (nI (p + 1))), (2, .int (nI (tg f E j))), (0, .ref o), (1, .int (nI j))], [.int (nI (tg f E j))], M)) rfl rfl rfl ?_
  refine ps_st (S' := (42, [(3, .int (nI (p + 1))), (2, .int (nI (tg f E j))), (0, .ref o), (1, .int (nI j))], [.int 4, .int (nI (tg f E j))], M)) rfl rfl rfl ?_
  refine ps_if2 (S1 := (58, [(3, .int (nI (p + 1))), (2, .int (nI (tg f E j))), (0, .ref o), (1, .int (nI j))], [], M)) (S2 := (45, [(0, .ref o), (3, .int (nI (p + 1)))], [], M)) rfl rfl rfl (fun c_42 => ?_) (fun c_42 => ?_)
  rotate_left
  · exact absurd (show ¬ ((nI (tg f E j)) = 4) from fun h9 => absurd ((eq_nI (p := tg f E j) (n := 4) (Nat.lt_trans (tg_lt _ _ _) (by decide)) (by decide)).mp h9) (by omega)) (of_decide_eq_false c_42)
  refine ps_st (S' := (59, [(3, .int (nI (p + 1))), (2, .int (nI (tg f E j))), (0, .ref o), (1, .int (nI j))], [.int (nI (tg f E j))], M)) rfl rfl rfl ?_
  refine ps_st (S' := (60, [(3, .int (nI (p + 1))), (2, .int (nI (tg f E j))), (0, .ref o), (1, .int (nI j))], [.int 5, .int (nI (tg f E j))], M)) rfl rfl rfl ?_
  refine ps_if2 (S1 := (69, [(0, .ref o), (3, .int (nI (p + 1)))], [], M)) (S2 := (63, [(3, .int (nI (p + 1))), (2, .int (nI (tg f E j))), (0, .ref o), (1, .int (nI j))], [], M)) rfl rfl rfl (fun c_60 => ?_) (fun c_60 => ?_)
  · have c_60 : (nI (tg f E j)) = 5 := of_decide_eq_true c_60
    have n_60 : tg f E j = 5 := (eq_nI (p := tg f E j) (n := 5) (Nat.lt_trans (tg_lt _ _ _) (by decide)) (by decide)).mp c_60
    refine ps_st (S' := (70, [(0, .ref o), (3, .int (nI (p + 1)))], [.ref o], M)) rfl rfl rfl ?_
    refine ps_get (S' := (73, [(0, .ref o), (3, .int (nI (p + 1)))], [.ref c], M)) rfl h_o rfl rfl ?_
    refine ps_get (S' := (76, [(0, .ref o), (3, .int (nI (p + 1)))], [.ref b], M)) rfl h_c rfl rfl ?_
    refine ps_st (S' := (77, [(0, .ref o), (3, .int (nI (p + 1)))], [.int (nI (p + 1)), .ref b], M)) rfl rfl rfl ?_
    refine pl_call (a := [.ref b, .int (nI (p + 1))]) (rest := []) rfl rfl rfl (dk_u4 (f := f) (n := n) (b := b) (da := da) (p := (p + 1)) h_b h_da (hn) (by omega)) (fun v7 M8 q9 => ?_)
    obtain ⟨rfl, rfl⟩ := q9
    show pl _ _ _ (80, [(0, .ref o), (3, .int (nI (p + 1)))], [.int (nI (by4 f (p + 1)))], M) _
    refine ps_st (S' := (81, [(0, .ref o), (3, .int (nI (p + 1)))], [.long (Int32.toInt64 (nI (by4 f (p + 1))))], M)) rfl rfl rfl ?_
    refine ps_st (S' := (83, [(0, .ref o), (3, .int (nI (p + 1)))], [.int 32, .long (Int32.toInt64 (nI (by4 f (p + 1))))], M)) rfl rfl rfl ?_
    refine ps_st (S' := (84, [(0, .ref o), (3, .int (nI (p + 1)))], [.long ((Int32.toInt64 (nI (by4 f (p + 1)))) <<< (Int32.toInt64 32 &&& 63))], M)) rfl rfl rfl ?_
    refine ps_st (S' := (85, [(0, .ref o), (3, .int (nI (p + 1)))], [.ref o, .long ((Int32.toInt64 (nI (by4 f (p + 1)))) <<< (Int32.toInt64 32 &&& 63))], M)) rfl rfl rfl ?_
    refine ps_get (S' := (88, [(0, .ref o), (3, .int (nI (p + 1)))], [.ref c, .long ((Int32.toInt64 (nI (by4 f (p + 1)))) <<< (Int32.toInt64 32 &&& 63))], M)) rfl h_o rfl rfl ?_
    refine ps_get (S' := (91, [(0, .ref o), (3, .int (nI (p + 1)))], [.ref b, .long ((Int32.toInt64 (nI (by4 f (p + 1)))) <<< (Int32.toInt64 32 &&& 63))], M)) rfl h_c rfl rfl ?_
    refine ps_st (S' := (92, [(0, .ref o), (3, .int (nI (p + 1)))], [.int (nI (p + 1)), .ref b, .long ((Int32.toInt64 (nI (by4 f (p + 1)))) <<< (Int32.toInt64 32 &&& 63))], M)) rfl rfl rfl ?_
    refine ps_st (S' := (93, [(0, .ref o), (3, .int (nI (p + 1)))], [.int 4, .int (nI (p + 1)), .ref b, .long ((Int32.toInt64 (nI (by4 f (p + 1)))) <<< (Int32.toInt64 32 &&& 63))], M)) rfl rfl rfl ?_
    refine ps_st (S' := (94, [(0, .ref o), (3, .int (nI (p + 1)))], [.int ((nI (p + 1)) + 4), .ref b, .long ((Int32.toInt64 (nI (by4 f (p + 1)))) <<< (Int32.toInt64 32 &&& 63))], M)) rfl rfl rfl ?_
    rw [nI_add1 (p := p + 1) (k := 4) (x := 4) rfl (by omega)]
    show pl _ _ _ (_, [(0, .ref o), (3, .int (nI (p + 1)))], [.int (nI (p + 5)), .ref b, .long ((Int32.toInt64 (nI (by4 f (p + 1)))) <<< (Int32.toInt64 32 &&& 63))], M) _
    refine pl_call (a := [.ref b, .int (nI (p + 5))]) (rest := [.long ((Int32.toInt64 (nI (by4 f (p + 1)))) <<< (Int32.toInt64 32 &&& 63))]) rfl rfl rfl (dk_u4 (f := f) (n := n) (b := b) (da := da) (p := (p + 5)) h_b h_da (hn) (by omega)) (fun v10 M11 q12 => ?_)
    obtain ⟨rfl, rfl⟩ := q12
    show pl _ _ _ (97, [(0, .ref o), (3, .int (nI (p + 1)))], [.int (nI (by4 f (p + 5))), .long ((Int32.toInt64 (nI (by4 f (p + 1)))) <<< (Int32.toInt64 32 &&& 63))], M) _
    refine ps_st (S' := (98, [(0, .ref o), (3, .int (nI (p + 1)))], [.long (Int32.toInt64 (nI (by4 f (p + 5)))), .long ((Int32.toInt64 (nI (by4 f (p + 1)))) <<< (Int32.toInt64 32 &&& 63))], M)) rfl rfl rfl ?_
    refine ps_st (S' := (101, [(0, .ref o), (3, .int (nI (p + 1)))], [.long 4294967295, .long (Int32.toInt64 (nI (by4 f (p + 5)))), .long ((Int32.toInt64 (nI (by4 f (p + 1)))) <<< (Int32.toInt64 32 &&& 63))], M)) rfl rfl rfl ?_
    refine ps_st (S' := (102, [(0, .ref o), (3, .int (nI (p + 1)))], [.long ((Int32.toInt64 (nI (by4 f (p + 5)))) &&& 4294967295), .long ((Int32.toInt64 (nI (by4 f (p + 1)))) <<< (Int32.toInt64 32 &&& 63))], M)) rfl rfl rfl ?_
    refine ps_st (S' := (103, [(0, .ref o), (3, .int (nI (p + 1)))], [.long (((Int32.toInt64 (nI (by4 f (p + 1)))) <<< (Int32.toInt64 32 &&& 63)) ||| ((Int32.toInt64 (nI (by4 f (p + 5)))) &&& 4294967295))], M)) rfl rfl rfl ?_
    exact ps_ret rfl rfl (⟨congrArg (fun x => some (Value.long x)) (bits8 (by4_lt _ _) (by4_lt _ _)), rfl⟩)
  · have c_60 : ¬ ((nI (tg f E j)) = 5) := of_decide_eq_false c_60
    have n_60 : ¬ (tg f E j = 5) := fun h9 => c_60 ((eq_nI (p := tg f E j) (n := 5) (Nat.lt_trans (tg_lt _ _ _) (by decide)) (by decide)).mpr h9)
    refine ps_st (S' := (64, [(3, .int (nI (p + 1))), (2, .int (nI (tg f E j))), (0, .ref o), (1, .int (nI j))], [.int (nI (tg f E j))], M)) rfl rfl rfl ?_
    refine ps_st (S' := (66, [(3, .int (nI (p + 1))), (2, .int (nI (tg f E j))), (0, .ref o), (1, .int (nI j))], [.int 6, .int (nI (tg f E j))], M)) rfl rfl rfl ?_
    refine ps_if2 (S1 := (104, [(3, .int (nI (p + 1))), (2, .int (nI (tg f E j))), (0, .ref o), (1, .int (nI j))], [], M)) (S2 := (69, [(0, .ref o), (3, .int (nI (p + 1)))], [], M)) rfl rfl rfl (fun c_66 => ?_) (fun c_66 => ?_)
    · exact absurd (of_decide_eq_true c_66) (fun h9 => h9 ((eq_nI (p := tg f E j) (n := 6) (Nat.lt_trans (tg_lt _ _ _) (by decide)) (by decide)).mpr (by omega)))
    refine ps_st (S' := (70, [(0, .ref o), (3, .int (nI (p + 1)))], [.ref o], M)) rfl rfl rfl ?_
    refine ps_get (S' := (73, [(0, .ref o), (3, .int (nI (p + 1)))], [.ref c], M)) rfl h_o rfl rfl ?_
    refine ps_get (S' := (76, [(0, .ref o), (3, .int (nI (p + 1)))], [.ref b], M)) rfl h_c rfl rfl ?_
    refine ps_st (S' := (77, [(0, .ref o), (3, .int (nI (p + 1)))], [.int (nI (p + 1)), .ref b], M)) rfl rfl rfl ?_
    refine pl_call (a := [.ref b, .int (nI (p + 1))]) (rest := []) rfl rfl rfl (dk_u4 (f := f) (n := n) (b := b) (da := da) (p := (p + 1)) h_b h_da (hn) (by omega)) (fun v13 M14 q15 => ?_)
    obtain ⟨rfl, rfl⟩ := q15
    show pl _ _ _ (80, [(0, .ref o), (3, .int (nI (p + 1)))], [.int (nI (by4 f (p + 1)))], M) _
    refine ps_st (S' := (81, [(0, .ref o), (3, .int (nI (p + 1)))], [.long (Int32.toInt64 (nI (by4 f (p + 1))))], M)) rfl rfl rfl ?_
    refine ps_st (S' := (83, [(0, .ref o), (3, .int (nI (p + 1)))], [.int 32, .long (Int32.toInt64 (nI (by4 f (p + 1))))], M)) rfl rfl rfl ?_
    refine ps_st (S' := (84, [(0, .ref o), (3, .int (nI (p + 1)))], [.long ((Int32.toInt64 (nI (by4 f (p + 1)))) <<< (Int32.toInt64 32 &&& 63))], M)) rfl rfl rfl ?_
    refine ps_st (S' := (85, [(0, .ref o), (3, .int (nI (p + 1)))], [.ref o, .long ((Int32.toInt64 (nI (by4 f (p + 1)))) <<< (Int32.toInt64 32 &&& 63))], M)) rfl rfl rfl ?_
    refine ps_get (S' := (88, [(0, .ref o), (3, .int (nI (p + 1)))], [.ref c, .long ((Int32.toInt64 (nI (by4 f (p + 1)))) <<< (Int32.toInt64 32 &&& 63))], M)) rfl h_o rfl rfl ?_
    refine ps_get (S' := (91, [(0, .ref o), (3, .int (nI (p + 1)))], [.ref b, .long ((Int32.toInt64 (nI (by4 f (p + 1)))) <<< (Int32.toInt64 32 &&& 63))], M)) rfl h_c rfl rfl ?_
    refine ps_st (S' := (92, [(0, .ref o), (3, .int (nI (p + 1)))], [.int (nI (p + 1)), .ref b, .long ((Int32.toInt64 (nI (by4 f (p + 1)))) <<< (Int32.toInt64 32 &&& 63))], M)) rfl rfl rfl ?_
    refine ps_st (S' := (93, [(0, .ref o), (3, .int (nI (p + 1)))], [.int 4, .int (nI (p + 1)), .ref b, .long ((Int32.toInt64 (nI (by4 f (p + 1)))) <<< (Int32.toInt64 32 &&& 63))], M)) rfl rfl rfl ?_
    refine ps_st (S' := (94, [(0, .ref o), (3, .int (nI (p + 1)))], [.int ((nI (p + 1)) + 4), .ref b, .long ((Int32.toInt64 (nI (by4 f (p + 1)))) <<< (Int32.toInt64 32 &&& 63))], M)) rfl rfl rfl ?_
    rw [nI_add1 (p := p + 1) (k := 4) (x := 4) rfl (by omega)]
    show pl _ _ _ (_, [(0, .ref o), (3, .int (nI (p + 1)))], [.int (nI (p + 5)), .ref b, .long ((Int32.toInt64 (nI (by4 f (p + 1)))) <<< (Int32.toInt64 32 &&& 63))], M) _
    refine pl_call (a := [.ref b, .int (nI (p + 5))]) (rest := [.long ((Int32.toInt64 (nI (by4 f (p + 1)))) <<< (Int32.toInt64 32 &&& 63))]) rfl rfl rfl (dk_u4 (f := f) (n := n) (b := b) (da := da) (p := (p + 5)) h_b h_da (hn) (by omega)) (fun v16 M17 q18 => ?_)
    obtain ⟨rfl, rfl⟩ := q18
    show pl _ _ _ (97, [(0, .ref o), (3, .int (nI (p + 1)))], [.int (nI (by4 f (p + 5))), .long ((Int32.toInt64 (nI (by4 f (p + 1)))) <<< (Int32.toInt64 32 &&& 63))], M) _
    refine ps_st (S' := (98, [(0, .ref o), (3, .int (nI (p + 1)))], [.long (Int32.toInt64 (nI (by4 f (p + 5)))), .long ((Int32.toInt64 (nI (by4 f (p + 1)))) <<< (Int32.toInt64 32 &&& 63))], M)) rfl rfl rfl ?_
    refine ps_st (S' := (101, [(0, .ref o), (3, .int (nI (p + 1)))], [.long 4294967295, .long (Int32.toInt64 (nI (by4 f (p + 5)))), .long ((Int32.toInt64 (nI (by4 f (p + 1)))) <<< (Int32.toInt64 32 &&& 63))], M)) rfl rfl rfl ?_
    refine ps_st (S' := (102, [(0, .ref o), (3, .int (nI (p + 1)))], [.long ((Int32.toInt64 (nI (by4 f (p + 5)))) &&& 4294967295), .long ((Int32.toInt64 (nI (by4 f (p + 1)))) <<< (Int32.toInt64 32 &&& 63))], M)) rfl rfl rfl ?_
    refine ps_st (S' := (103, [(0, .ref o), (3, .int (nI (p + 1)))], [.long (((Int32.toInt64 (nI (by4 f (p + 1)))) <<< (Int32.toInt64 32 &&& 63)) ||| ((Int32.toInt64 (nI (by4 f (p + 5)))) &&& 4294967295))], M)) rfl rfl rfl ?_
    exact ps_ret rfl rfl (⟨congrArg (fun x => some (Value.long x)) (bits8 (by4_lt _ _) (by4_lt _ _)), rfl⟩)
theorem dk_bits {g : xe_G} {M : mi_H} {ko : Option (Nat × (Nat → Int32))} {kv : Value} {cm o fl : Nat} {cn wp k : Int32} (hx : M.1 o = some (ob 11 [.ref cm, .int cn, .ref fl, kv, .int wp])) (hK : KPC g ko kv cm M) : pt (mT g) 1 [.ref o, .int k] M (fun v M' => v = some (.long (biK ko k)) ∧ M = M') := by
  cases ko with
  | none =>
    have e : kv = .null := hK
    subst e
    exact dk_bits0 hx
  | some r =>
    obtain ⟨c, da, rfl, ⟨b, q, N, E, p1, pF, pM, pA, w, h1, h2, h3, h4, h5, rfl, h6, h7, -⟩, -, -⟩ := hK
    rw [biK_is h5]
    have hpl := whole_in h5
    have h0 := tg_0 hpl
    by_cases ht : 3 ≤ tg r.2 E k.toNatClampNeg ∧ tg r.2 E k.toNatClampNeg ≤ 6
    · have hk0 : ¬ k < 0 := fun h9 => by rw [i32_cl h9, h0] at ht; omega
      have e := i32_nn hk0
      unfold biI
      obtain ⟨j, ej⟩ : ∃ j, j = k.toNatClampNeg := ⟨_, rfl⟩
      rw [← ej] at e ht ⊢
      have hj : j < 65536 := by
        obtain ⟨hL9, H, m, qq, F, cc, hP9, hT9, -, hb9, hVF, -⟩ := id h4
        refine Nat.not_le.mp (fun h9 => ?_)
        have h8 := hVF.2.1 j (by omega)
        omega
      subst e
      obtain ⟨p, hk9, hb9⟩ := tg_lk (f := r.2) (E := E) (k := j) (by omega)
      obtain ⟨u1, u2⟩ := nums_of hpl hk9
      rw [plc_of hk9]
      by_cases h34 : tg r.2 E j = 3 ∨ tg r.2 E j = 4
      · rw [if_pos h34]
        exact dk_bits4 hx h1 h2 h3 h4 hj h7 hk9 h34 (u1 (by omega))
      · have h56 : tg r.2 E j = 5 ∨ tg r.2 E j = 6 := by omega
        rw [if_neg h34, if_pos h56]
        exact dk_bits8 hx h1 h2 h3 h4 hj h7 hk9 h56 (u2 (by omega))
    · have e : biI r.2 E k = 0 := by
        unfold biI
        rw [if_neg (by omega), if_neg (by omega)]
      rw [e]
      exact dk_bitsT hx h1 h4 h0 ht
end
section
set_option maxHeartbeats 1000000 in
theorem rd_bits0 {g : xe_G} {m0 : Nat} {q : Nat → Nat} {z : Nat × Nat} {I : rI} {R : rR} {M : mi_H} {kn k : Int32} (hR : RS g m0 q z I R M) (hi18 : I 18 = some kn)  (hk : kn < 0) : pt (mT g) 183 [.ref m0, .int k] M (fun v M' => (∃  (I' : rI) (R' : rR), v = some (.long 0) ∧ RS g m0 q z I' R' M' ∧ eqI [0] I I' ∧ eqR [] R R' ∧ I' 0 = some 0)) := by
  refine pt_in (b := mb_183 g) rfl (fun kf => ?_)
  show pl (mT g) kf (mb_183 g).2 (0, [(0, .ref m0), (1, .int k)], [], M) _
  have hEI : eqI [0] I I := eqI.rf
  have hER : eqR [] R R := eqR.rf
  refine ps_st (S' := (1, [(0, .ref m0), (1, .int k)], [.ref m0], M)) rfl rfl rfl ?_
  refine ps_st (S' := (2, [(0, .ref m0), (1, .int k)], [.int 0, .ref m0], M)) rfl rfl rfl ?_
  refine pr_put (j := 0) rfl hR rfl (fun M1 I2 hR3 hi4 hI5 => ?_)
  have hi6 := (hI5 18 (by decide)).trans hi18
  have hEI7 := hEI.put hI5 (by decide)
  show pl _ _ _ (5, [(0, .ref m0), (1, .int k)], [], M1) _
  refine ps_st (S' := (6, [(0, .ref m0), (1, .int k)], [.ref m0], M1)) rfl rfl rfl ?_
  refine pr_int (j := 18) (S' := (9, [(0, .ref m0), (1, .int k)], [.int kn], M1)) rfl hR3 rfl hi6 rfl ?_
  refine ps_if (S1 := (14, [(0, .ref m0), (1, .int k)], [], M1)) (S2 := (12, [(0, .ref m0), (1, .int k)], [], M1)) rfl rfl rfl (fun c_9 => ?_) (fun c_9 => ?_)
  · exact absurd (of_decide_eq_true c_9) (Int32.not_le.mpr hk)
  refine ps_st (S' := (13, [(0, .ref m0), (1, .int k)], [.long 0], M1)) rfl rfl rfl ?_
  exact ps_ret rfl rfl (⟨I2, R, rfl, hR3, hEI7, hER, hi4⟩)
set_option maxHeartbeats 1000000 in
theorem rd_bitsT {g : xe_G} {m0 : Nat} {q : Nat → Nat} {z : Nat × Nat} {I : rI} {R : rR} {M : mi_H} {n : Nat} {f : Nat → Int32} {tx : List (List Nat)} {cN : Nat} {A : Nat → Nat} {N mj : Nat} {E : List (Nat × Nat)} {n2 : Nat} {k : Int32} (hR : RS g m0 q z I R M) (hi18 : I 18 = some (nI n2)) (hi51 : I 51 = some 0) (hi52 : I 52 = some (nI N)) (hi53 : I 53 = some (nI mj)) (hF : FK n f I R) (hY : SYT tx cN A I R) (hP : RPV f n E tx N I R) (hEP : EP f n E) (hN : N < 65536) (hmj : mj < 65536) (hn2 : n2 ≤ 65540) (h0 : tg f E 0 = 0) (ht : ¬ (3 ≤ tg f E k.toNatClampNeg ∧ tg f E k.toNatClampNeg ≤ 6)) : pt (mT g) 183 [.ref m0, .int k] M (fun v M' => (∃  (I' : rI) (R' : rR), v = some (.long 0) ∧ RS g m0 q z I' R' M' ∧ eqI [0] I I' ∧ eqR [] R R' ∧ I' 0 = some 0)) := by
  refine pt_in (b := mb_183 g) rfl (fun kf => ?_)
  show pl (mT g) kf (mb_183 g).2 (0, [(0, .ref m0), (1, .int k)], [], M) _
  have hEI : eqI [0] I I := eqI.rf
  have hER : eqR [] R R := eqR.rf
  refine ps_st (S' := (1, [(0, .ref m0), (1, .int k)], [.ref m0], M)) rfl rfl rfl ?_
  refine ps_st (S' := (2, [(0, .ref m0), (1, .int k)], [.int 0, .ref m0], M)) rfl rfl rfl ?_
  refine pr_put (j := 0) rfl hR rfl (fun M1 I2 hR3 hi4 hI5 => ?_)
  have hi6 := (hI5 18 (by decide)).trans hi18
  have hi7 := (hI5 51 (by decide)).trans hi51
  have hi8 := (hI5 52 (by decide)).trans hi52
  have hi9 := (hI5 53 (by decide)).trans hi53
  have hF_10 := hF.mono (pIx hI5 (by decide)) (fun _ _ => rfl)
  have hY_11 := hY.mono (pIx hI5 (by decide)) (fun _ _ => rfl)
  have hP_12 := hP.mono (pIx hI5 (by decide)) (fun _ _ => rfl)
  have hEI13 := hEI.put hI5 (by decide)
  show pl _ _ _ (5, [(0, .ref m0), (1, .int k)], [], M1) _
  refine ps_st (S' := (6, [(0, .ref m0), (1, .int k)], [.ref m0], M1)) rfl rfl rfl ?_
  refine pr_int (j := 18) (S' := (9, [(0, .ref m0), (1, .int k)], [.int (nI n2)], M1)) rfl hR3 rfl hi6 rfl ?_
  refine ps_if (S1 := (14, [(0, .ref m0), (1, .int k)], [], M1)) (S2 := (12, [(0, .ref m0), (1, .int k)], [], M1)) rfl rfl rfl (fun c_9 => ?_) (fun c_9 => ?_)
  rotate_left
  · exact absurd ((le_nI (p := 0) (n := n2) (by decide) (by omega)).mpr (by omega)) (of_decide_eq_false c_9)
  refine ps_st (S' := (15, [(0, .ref m0), (1, .int k)], [.ref m0], M1)) rfl rfl rfl ?_
  refine ps_st (S' := (16, [(0, .ref m0), (1, .int k)], [.int k, .ref m0], M1)) rfl rfl rfl ?_
  refine pl_call (a := [.ref m0, .int k]) (rest := []) rfl rfl rfl (rd_tagR (n := n) (f := f) (tx := tx) (cN := cN) (A := A) (N := N) (mj := mj) (E := E) (k := k) hR3 hi7 hi8 hi9 hF_10 hY_11 hP_12 (hEP) (hN) (hmj) (h0)) (fun v14 M15 q16 => ?_)
  obtain ⟨rfl, rfl⟩ := q16
  show pl _ _ _ (19, [(0, .ref m0), (1, .int k)], [.int (nI (tg f E k.toNatClampNeg))], M1) _
  have htg9 := tg_lt f E k.toNatClampNeg
  refine ps_st (S' := (20, [(2, .int (nI (tg f E k.toNatClampNeg))), (0, .ref m0), (1, .int k)], [], M1)) rfl rfl rfl ?_
  refine ps_st (S' := (21, [(2, .int (nI (tg f E k.toNatClampNeg))), (0, .ref m0), (1, .int k)], [.int (nI (tg f E k.toNatClampNeg))], M1)) rfl rfl rfl ?_
  refine ps_st (S' := (22, [(2, .int (nI (tg f E k.toNatClampNeg))), (0, .ref m0), (1, .int k)], [.int 3, .int (nI (tg f E k.toNatClampNeg))], M1)) rfl rfl rfl ?_
  refine ps_if2 (S1 := (30, [(0, .ref m0), (1, .int k)], [], M1)) (S2 := (25, [(2, .int (nI (tg f E k.toNatClampNeg))), (0, .ref m0), (1, .int k)], [], M1)) rfl rfl rfl (fun c_22 => ?_) (fun c_22 => ?_)
  · exact absurd (of_decide_eq_true c_22) (fun h9 => ht (by have h8 := (eq_nI (p := tg f E k.toNatClampNeg) (n := 3) (by omega) (by decide)).mp h9; omega))
  refine ps_st (S' := (26, [(2, .int (nI (tg f E k.toNatClampNeg))), (0, .ref m0), (1, .int k)], [.int (nI (tg f E k.toNatClampNeg))], M1)) rfl rfl rfl ?_
  refine ps_st (S' := (27, [(2, .int (nI (tg f E k.toNatClampNeg))), (0, .ref m0), (1, .int k)], [.int 4, .int (nI (tg f E k.toNatClampNeg))], M1)) rfl rfl rfl ?_
  refine ps_if2 (S1 := (45, [(2, .int (nI (tg f E k.toNatClampNeg))), (0, .ref m0), (1, .int k)], [], M1)) (S2 := (30, [(0, .ref m0), (1, .int k)], [], M1)) rfl rfl rfl (fun c_27 => ?_) (fun c_27 => ?_)
  rotate_left
  · exact absurd (show ¬ (nI (tg f E k.toNatClampNeg)) = 4 from fun h9 => ht (by have h8 := (eq_nI (p := tg f E k.toNatClampNeg) (n := 4) (by omega) (by decide)).mp h9; omega)) (of_decide_eq_false c_27)
  refine ps_st (S' := (46, [(2, .int (nI (tg f E k.toNatClampNeg))), (0, .ref m0), (1, .int k)], [.int (nI (tg f E k.toNatClampNeg))], M1)) rfl rfl rfl ?_
  refine ps_st (S' := (47, [(2, .int (nI (tg f E k.toNatClampNeg))), (0, .ref m0), (1, .int k)], [.int 5, .int (nI (tg f E k.toNatClampNeg))], M1)) rfl rfl rfl ?_
  refine ps_if2 (S1 := (56, [(0, .ref m0), (1, .int k)], [], M1)) (S2 := (50, [(2, .int (nI (tg f E k.toNatClampNeg))), (0, .ref m0), (1, .int k)], [], M1)) rfl rfl rfl (fun c_47 => ?_) (fun c_47 => ?_)
  · exact absurd (of_decide_eq_true c_47) (fun h9 => ht (by have h8 := (eq_nI (p := tg f E k.toNatClampNeg) (n := 5) (by omega) (by decide)).mp h9; omega))
  refine ps_st (S' := (51, [(2, .int (nI (tg f E k.toNatClampNeg))), (0, .ref m0), (1, .int k)], [.int (nI (tg f E k.toNatClampNeg))], M1)) rfl rfl rfl ?_
  refine ps_st (S' := (53, [(2, .int (nI (tg f E k.toNatClampNeg))), (0, .ref m0), (1, .int k)], [.int 6, .int (nI (tg f E k.toNatClampNeg))], M1)) rfl rfl rfl ?_
  refine ps_if2 (S1 := (85, [(2, .int (nI (tg f E k.toNatClampNeg))), (0, .ref m0), (1, .int k)], [], M1)) (S2 := (56, [(0, .ref m0), (1, .int k)], [], M1)) rfl rfl rfl (fun c_53 => ?_) (fun c_53 => ?_)
  rotate_left
  · exact absurd (show ¬ (nI (tg f E k.toNatClampNeg)) = 6 from fun h9 => ht (by have h8 := (eq_nI (p := tg f E k.toNatClampNeg) (n := 6) (by omega) (by decide)).mp h9; omega)) (of_decide_eq_false c_53)
  refine ps_st (S' := (86, [(2, .int (nI (tg f E k.toNatClampNeg))), (0, .ref m0), (1, .int k)], [.long 0], M1)) rfl rfl rfl ?_
  exact ps_ret rfl rfl (⟨I2, R, rfl, hR3, hEI13, hER, hi4⟩)
set_option maxHeartbeats 1000000 in
theorem rd_bits4 {g : xe_G} {m0 : Nat} {q : Nat → Nat} {z : Nat × Nat} {I : rI} {R : rR} {M : mi_H} {n : Nat} {f : Nat → Int32} {tx : List (List Nat)} {cN : Nat} {A : Nat → Nat} {N mj : Nat} {E : List (Nat × Nat)} {n2 : Nat} {j p : Nat} (hR : RS g m0 q z I R M) (hi18 : I 18 = some (nI n2)) (hi51 : I 51 = some 0) (hi52 : I 52 = some (nI N)) (hi53 : I 53 = some (nI mj)) (hF : FK n f I R) (hY : SYT tx cN A I R) (hP : RPV f n E tx N I R) (hEP : EP f n E) (hN : N < 65536) (hmj : mj < 65536) (hn2 : n2 ≤ 65540) (hj : j < 65536) (hk9 : lk E j = some p) (htt : tg f E j = 3 ∨ tg f E j = 4) (hin : p + 5 ≤ n) : pt (mT g) 183 [.ref m0, .int (nI j)] M (fun v M' => (∃  (I' : rI) (R' : rR), v = some (.long (bL4 f p)) ∧ RS g m0 q z I' R' M' ∧ eqI [0] I I' ∧ eqR [] R R' ∧ I' 0 = some 0)) := by
  refine pt_in (b := mb_183 g) rfl (fun kf => ?_)
  show pl (mT g) kf (mb_183 g).2 (0, [(0, .ref m0), (1, .int (nI j))], [], M) _
  have hEI : eqI [0] I I := eqI.rf
  have hER : eqR [] R R := eqR.rf
  have hn := hF.1
  have htl9 := tg_lt f E j
  refine ps_st (S' := (1, [(0, .ref m0), (1, .int (nI j))], [.ref m0], M)) rfl rfl rfl ?_
  refine ps_st (S' := (2, [(0, .ref m0), (1, .int (nI j))], [.int 0, .ref m0], M)) rfl rfl rfl ?_
  refine pr_put (j := 0) rfl hR rfl (fun M1 I2 hR3 hi4 hI5 => ?_)
  have hi6 := (hI5 18 (by decide)).trans hi18
  have hi7 := (hI5 51 (by decide)).trans hi51
  have hi8 := (hI5 52 (by decide)).trans hi52
  have hi9 := (hI5 53 (by decide)).trans hi53
  have hF_10 := hF.mono (pIx hI5 (by decide)) (fun _ _ => rfl)
  have hY_11 := hY.mono (pIx hI5 (by decide)) (fun _ _ => rfl)
  have hP_12 := hP.mono (pIx hI5 (by decide)) (fun _ _ => rfl)
  have hEI13 := hEI.put hI5 (by decide)
  show pl _ _ _ (5, [(0, .ref m0), (1, .int (nI j))], [], M1) _
  refine ps_st (S' := (6, [(0, .ref m0), (1, .int (nI j))], [.ref m0], M1)) rfl rfl rfl ?_
  refine pr_int (j := 18) (S' := (9, [(0, .ref m0), (1, .int (nI j))], [.int (nI n2)], M1)) rfl hR3 rfl hi6 rfl ?_
  refine ps_if (S1 := (14, [(0, .ref m0), (1, .int (nI j))], [], M1)) (S2 := (12, [(0, .ref m0), (1, .int (nI j))], [], M1)) rfl rfl rfl (fun c_9 => ?_) (fun c_9 => ?_)
  rotate_left
  · exact absurd ((le_nI (p := 0) (n := n2) (by decide) (by omega)).mpr (by omega)) (of_decide_eq_false c_9)
  refine ps_st (S' := (15, [(0, .ref m0), (1, .int (nI j))], [.ref m0], M1)) rfl rfl rfl ?_
  refine ps_st (S' := (16, [(0, .ref m0), (1, .int (nI j))], [.int (nI j), .ref m0], M1)) rfl rfl rfl ?_
  refine pl_call (a := [.ref m0, .int (nI j)]) (rest := []) rfl rfl rfl (rd_tag (n := n) (f := f) (tx := tx) (cN := cN) (A := A) (N := N) (mj := mj) (E := E) (k := j) hR3 hi7 hi8 hi9 hF_10 hY_11 hP_12 (hEP) (hN) (hmj) (by omega)) (fun v14 M15 q16 => ?_)
  obtain ⟨rfl, rfl⟩ := q16
  show pl _ _ _ (19, [(0, .ref m0), (1, .int (nI j))], [.int (nI (tg f E j))], M1) _
  have htg_16 := tg_lt f E j
  refine ps_st (S' := (20, [(2, .int (nI (tg f E j))), (0, .ref m0), (1, .int (nI j))], [], M1)) rfl rfl rfl ?_
  refine ps_st (S' := (21, [(2, .int (nI (tg f E j))), (0, .ref m0), (1, .int (nI j))], [.int (nI (tg f E j))], M1)) rfl rfl rfl ?_
  refine ps_st (S' := (22, [(2, .int (nI (tg f E j))), (0, .ref m0), (1, .int (nI j))], [.int 3, .int (nI (tg f E j))], M1)) rfl rfl rfl ?_
  refine ps_if2 (S1 := (30, [(0, .ref m0), (1, .int (nI j))], [], M1)) (S2 := (25, [(2, .int (nI (tg f E j))), (0, .ref m0), (1, .int (nI j))], [], M1)) rfl rfl rfl (fun c_22 => ?_) (fun c_22 => ?_)
  · have c_22 : (nI (tg f E j)) = 3 := of_decide_eq_true c_22
    have n_22 : tg f E j = 3 := (eq_nI (p := tg f E j) (n := 3) (Nat.lt_trans (tg_lt _ _ _) (by decide)) (by decide)).mp c_22
    refine ps_st (S' := (31, [(0, .ref m0), (1, .int (nI j))], [.ref m0], M1)) rfl rfl rfl ?_
    refine ps_st (S' := (32, [(0, .ref m0), (1, .int (nI j))], [.ref m0, .ref m0], M1)) rfl rfl rfl ?_
    refine pr_ref (j := 21) (S' := (35, [(0, .ref m0), (1, .int (nI j))], [.ref (q 21), .ref m0], M1)) rfl hR3 rfl rfl ?_
    refine ps_st (S' := (36, [(0, .ref m0), (1, .int (nI j))], [.int (nI j), .ref (q 21), .ref m0], M1)) rfl rfl rfl ?_
    refine pr_ld (a := 21) (j := j) (y := (nI p)) (S' := (37, [(0, .ref m0), (1, .int (nI j))], [.int (nI p), .ref m0], M1)) rfl hR3 rfl (by omega) (fun _ => (hP_12.at hk9).2.2) rfl (fun i1_36 => ?_)
    refine ps_st (S' := (38, [(0, .ref m0), (1, .int (nI j))], [.int 1, .int (nI p), .ref m0], M1)) rfl rfl rfl ?_
    refine ps_st (S' := (39, [(0, .ref m0), (1, .int (nI j))], [.int ((nI p) + 1), .ref m0], M1)) rfl rfl rfl ?_
    rw [nI_add1 (p := p) (k := 1) (x := 1) rfl (by omega)]
    show pl _ _ _ (_, [(0, .ref m0), (1, .int (nI j))], [.int (nI (p + 1)), .ref m0], M1) _
    refine pl_call (a := [.ref m0, .int (nI (p + 1))]) (rest := []) rfl rfl rfl (rd_u4 (n := n) (f := f) (p := (p + 1)) hR3 hF_10 (by omega)) (fun v17 M18 q19 => ?_)
    obtain ⟨rfl, rfl⟩ := q19
    show pl _ _ _ (42, [(0, .ref m0), (1, .int (nI j))], [.long (nL (by4 f (p + 1)))], M1) _
    have hu_39 := by4_lt f (p + 1)
    refine ps_st (S' := (43, [(0, .ref m0), (1, .int (nI j))], [.int (Int64.toInt32 (nL (by4 f (p + 1))))], M1)) rfl rfl rfl ?_
    refine ps_st (S' := (44, [(0, .ref m0), (1, .int (nI j))], [.long (Int32.toInt64 (Int64.toInt32 (nL (by4 f (p + 1)))))], M1)) rfl rfl rfl ?_
    exact ps_ret rfl rfl (⟨I2, R, by rw [l2i_all]; rfl, hR3, hEI13, hER, hi4⟩)
  · have c_22 : ¬ ((nI (tg f E j)) = 3) := of_decide_eq_false c_22
    have n_22 : ¬ (tg f E j = 3) := fun h9 => c_22 ((eq_nI (p := tg f E j) (n := 3) (Nat.lt_trans (tg_lt _ _ _) (by decide)) (by decide)).mpr h9)
    refine ps_st (S' := (26, [(2, .int (nI (tg f E j))), (0, .ref m0), (1, .int (nI j))], [.int (nI (tg f E j))], M1)) rfl rfl rfl ?_
    refine ps_st (S' := (27, [(2, .int (nI (tg f E j))), (0, .ref m0), (1, .int (nI j))], [.int 4, .int (nI (tg f E j))], M1)) rfl rfl rfl ?_
    refine ps_if2 (S1 := (45, [(2, .int (nI (tg f E j))), (0, .ref m0), (1, .int (nI j))], [], M1)) (S2 := (30, [(0, .ref m0), (1, .int (nI j))], [], M1)) rfl rfl rfl (fun c_27 => ?_) (fun c_27 => ?_)
    · exact absurd (of_decide_eq_true c_27) (fun h9 => h9 ((eq_nI (p := tg f E j) (n := 4) (Nat.lt_trans (tg_lt _ _ _) (by decide)) (by decide)).mpr (by omega)))
    refine ps_st (S' := (31, [(0, .ref m0), (1, .int (nI j))], [.ref m0], M1)) rfl rfl rfl ?_
    refine ps_st (S' := (32, [(0, .ref m0), (1, .int (nI j))], [.ref m0, .ref m0], M1)) rfl rfl rfl ?_
    refine pr_ref (j := 21) (S' := (35, [(0, .ref m0), (1, .int (nI j))], [.ref (q 21), .ref m0], M1)) rfl hR3 rfl rfl ?_
    refine ps_st (S' := (36, [(0, .ref m0), (1, .int (nI j))], [.int (nI j), .ref (q 21), .ref m0], M1)) rfl rfl rfl ?_
    refine pr_ld (a := 21) (j := j) (y := (nI p)) (S' := (37, [(0, .ref m0), (1, .int (nI j))], [.int (nI p), .ref m0], M1)) rfl hR3 rfl (by omega) (fun _ => (hP_12.at hk9).2.2) rfl (fun i1_36 => ?_)
    refine ps_st (S' := (38, [(0, .ref m0), (1, .int (nI j))], [.int 1, .int (nI p), .ref m0], M1)) rfl rfl rfl ?_
    refine ps_st (S' := (39, [(0, .ref m0), (1, .int (nI j))], [.int ((nI p) + 1), .ref m0], M1)) rfl rfl rfl ?_
    rw [nI_add1 (p := p) (k := 1) (x := 1) rfl (by omega)]
    show pl _ _ _ (_, [(0, .ref m0), (1, .int (nI j))], [.int (nI (p + 1)), .ref m0], M1) _
    refine pl_call (a := [.ref m0, .int (nI (p + 1))]) (rest := []) rfl rfl rfl (rd_u4 (n := n) (f := f) (p := (p + 1)) hR3 hF_10 (by omega)) (fun v20 M21 q22 => ?_)
    obtain ⟨rfl, rfl⟩ := q22
    show pl _ _ _ (42, [(0, .ref m0), (1, .int (nI j))], [.long (nL (by4 f (p + 1)))], M1) _
    have hu_39 := by4_lt f (p + 1)
    refine ps_st (S' := (43, [(0, .ref m0), (1, .int (nI j))], [.int (Int64.toInt32 (nL (by4 f (p + 1))))], M1)) rfl rfl rfl ?_
    refine ps_st (S' := (44, [(0, .ref m0), (1, .int (nI j))], [.long (Int32.toInt64 (Int64.toInt32 (nL (by4 f (p + 1)))))], M1)) rfl rfl rfl ?_
    exact ps_ret rfl rfl (⟨I2, R, by rw [l2i_all]; rfl, hR3, hEI13, hER, hi4⟩)
set_option maxHeartbeats 1000000 in
theorem rd_bits8 {g : xe_G} {m0 : Nat} {q : Nat → Nat} {z : Nat × Nat} {I : rI} {R : rR} {M : mi_H} {n : Nat} {f : Nat → Int32} {tx : List (List Nat)} {cN : Nat} {A : Nat → Nat} {N mj : Nat} {E : List (Nat × Nat)} {n2 : Nat} {j p : Nat} (hR : RS g m0 q z I R M) (hi18 : I 18 = some (nI n2)) (hi51 : I 51 = some 0) (hi52 : I 52 = some (nI N)) (hi53 : I 53 = some (nI mj)) (hF : FK n f I R) (hY : SYT tx cN A I R) (hP : RPV f n E tx N I R) (hEP : EP f n E) (hN : N < 65536) (hmj : mj < 65536) (hn2 : n2 ≤ 65540) (hj : j < 65536) (hk9 : lk E j = some p) (htt : tg f E j = 5 ∨ tg f E j = 6) (hin : p + 9 ≤ n) : pt (mT g) 183 [.ref m0, .int (nI j)] M (fun v M' => (∃  (I' : rI) (R' : rR), v = some (.long (bL8 f p)) ∧ RS g m0 q z I' R' M' ∧ eqI [0] I I' ∧ eqR [] R R' ∧ I' 0 = some 0)) := by
  refine pt_in (b := mb_183 g) rfl (fun kf => ?_)
  show pl (mT g) kf (mb_183 g).2 (0, [(0, .ref m0), (1, .int (nI j))], [], M) _
  have hEI : eqI [0] I I := eqI.rf
  have hER : eqR [] R R := eqR.rf
  have hn := hF.1
  have htl9 := tg_lt f E j
  refine ps_st (S' := (1, [(0, .ref m0), (1, .int (nI j))], [.ref m0], M)) rfl rfl rfl ?_
  refine ps_st (S' := (2, [(0, .ref m0), (1, .int (nI j))], [.int 0, .ref m0], M)) rfl rfl rfl ?_
  refine pr_put (j := 0) rfl hR rfl (fun M1 I2 hR3 hi4 hI5 => ?_)
  have hi6 := (hI5 18 (by decide)).trans hi18
  have hi7 := (hI5 51 (by decide)).trans hi51
  have hi8 := (hI5 52 (by decide)).trans hi52
  have hi9 := (hI5 53 (by decide)).trans hi53
  have hF_10 := hF.mono (pIx hI5 (by decide)) (fun _ _ => rfl)
  have hY_11 := hY.mono (pIx hI5 (by decide)) (fun _ _ => rfl)
  have hP_12 := hP.mono (pIx hI5 (by decide)) (fun _ _ => rfl)
  have hEI13 := hEI.put hI5 (by decide)
  show pl _ _ _ (5, [(0, .ref m0), (1, .int (nI j))], [], M1) _
  refine ps_st (S' := (6, [(0, .ref m0), (1, .int (nI j))], [.ref m0], M1)) rfl rfl rfl ?_
  refine pr_int (j := 18) (S' := (9, [(0, .ref m0), (1, .int (nI j))], [.int (nI n2)], M1)) rfl hR3 rfl hi6 rfl ?_
  refine ps_if (S1 := (14, [(0, .ref m0), (1, .int (nI j))], [], M1)) (S2 := (12, [(0, .ref m0), (1, .int (nI j))], [], M1)) rfl rfl rfl (fun c_9 => ?_) (fun c_9 => ?_)
  rotate_left
  · exact absurd ((le_nI (p := 0) (n := n2) (by decide) (by omega)).mpr (by omega)) (of_decide_eq_false c_9)
  refine ps_st (S' := (15, [(0, .ref m0), (1, .int (nI j))], [.ref m0], M1)) rfl rfl rfl ?_
  refine ps_st (S' := (16, [(0, .ref m0), (1, .int (nI j))], [.int (nI j), .ref m0], M1)) rfl rfl rfl ?_
  refine pl_call (a := [.ref m0, .int (nI j)]) (rest := []) rfl rfl rfl (rd_tag (n := n) (f := f) (tx := tx) (cN := cN) (A := A) (N := N) (mj := mj) (E := E) (k := j) hR3 hi7 hi8 hi9 hF_10 hY_11 hP_12 (hEP) (hN) (hmj) (by omega)) (fun v14 M15 q16 => ?_)
  obtain ⟨rfl, rfl⟩ := q16
  show pl _ _ _ (19, [(0, .ref m0), (1, .int (nI j))], [.int (nI (tg f E j))], M1) _
  have htg_16 := tg_lt f E j
  refine ps_st (S' := (20, [(2, .int (nI (tg f E j))), (0, .ref m0), (1, .int (nI j))], [], M1)) rfl rfl rfl ?_
  refine ps_st (S' := (21, [(2, .int (nI (tg f E j))), (0, .ref m0), (1, .int (nI j))], [.int (nI (tg f E j))], M1)) rfl rfl rfl ?_
  refine ps_st (S' := (22, [(2, .int (nI (tg f E j))), (0, .ref m0), (1, .int (nI j))], [.int 3, .int (nI (tg f E j))], M1)) rfl rfl rfl ?_
  refine ps_if2 (S1 := (30, [(0, .ref m0), (1, .int (nI j))], [], M1)) (S2 := (25, [(2, .int (nI (tg f E j))), (0, .ref m0), (1, .int (nI j))], [], M1)) rfl rfl rfl (fun c_22 => ?_) (fun c_22 => ?_)
  · exact absurd (of_decide_eq_true c_22) (show ¬ ((nI (tg f E j)) = 3) from fun h9 => absurd ((eq_nI (p := tg f E j) (n := 3) (Nat.lt_trans (tg_lt _ _ _) (by decide)) (by decide)).mp h9) (by omega))
  refine ps_st (S' := (26, [(2, .int (nI (tg f E j))), (0, .ref m0), (1, .int (nI j))], [.int (nI (tg f E j))], M1)) rfl rfl rfl ?_
  refine ps_st (S' := (27, [(2, .int (nI (tg f E j))), (0, .ref m0), (1, .int (nI j))], [.int 4, .int (nI (tg f E j))], M1)) rfl rfl rfl ?_
  refine ps_if2 (S1 := (45, [(2, .int (nI (tg f E j))), (0, .ref m0), (1, .int (nI j))], [], M1)) (S2 := (30, [(0, .ref m0), (1, .int (nI j))], [], M1)) rfl rfl rfl (fun c_27 => ?_) (fun c_27 => ?_)
  rotate_left
  · exact absurd (show ¬ ((nI (tg f E j)) = 4) from fun h9 => absurd ((eq_nI (p := tg f E j) (n := 4) (Nat.lt_trans (tg_lt _ _ _) (by decide)) (by decide)).mp h9) (by omega)) (of_decide_eq_false c_27)
  refine ps_st (S' := (46, [(2, .int (nI (tg f E j))), (0, .ref m0), (1, .int (nI j))], [.int (nI (tg f E j))], M1)) rfl rfl rfl ?_
  refine ps_st (S' := (47, [(2, .int (nI (tg f E j))), (0, .ref m0), (1, .int (nI j))], [.int 5, .int (nI (tg f E j))], M1)) rfl rfl rfl ?_
  refine ps_if2 (S1 := (56, [(0, .ref m0), (1, .int (nI j))], [], M1)) (S2 := (50, [(2, .int (nI (tg f E j))), (0, .ref m0), (1, .int (nI j))], [], M1)) rfl rfl rfl (fun c_47 => ?_) (fun c_47 => ?_)
  · have c_47 : (nI (tg f E j)) = 5 := of_decide_eq_true c_47
    have n_47 : tg f E j = 5 := (eq_nI (p := tg f E j) (n := 5) (Nat.lt_trans (tg_lt _ _ _) (by decide)) (by decide)).mp c_47
    refine ps_st (S' := (57, [(0, .ref m0), (1, .int (nI j))], [.ref m0], M1)) rfl rfl rfl ?_
    refine ps_st (S' := (58, [(0, .ref m0), (1, .int (nI j))], [.ref m0, .ref m0], M1)) rfl rfl rfl ?_
    refine pr_ref (j := 21) (S' := (61, [(0, .ref m0), (1, .int (nI j))], [.ref (q 21), .ref m0], M1)) rfl hR3 rfl rfl ?_
    refine ps_st (S' := (62, [(0, .ref m0), (1, .int (nI j))], [.int (nI j), .ref (q 21), .ref m0], M1)) rfl rfl rfl ?_
    refine pr_ld (a := 21) (j := j) (y := (nI p)) (S' := (63, [(0, .ref m0), (1, .int (nI j))], [.int (nI p), .ref m0], M1)) rfl hR3 rfl (by omega) (fun _ => (hP_12.at hk9).2.2) rfl (fun i1_62 => ?_)
    refine ps_st (S' := (64, [(0, .ref m0), (1, .int (nI j))], [.int 1, .int (nI p), .ref m0], M1)) rfl rfl rfl ?_
    refine ps_st (S' := (65, [(0, .ref m0), (1, .int (nI j))], [.int ((nI p) + 1), .ref m0], M1)) rfl rfl rfl ?_
    rw [nI_add1 (p := p) (k := 1) (x := 1) rfl (by omega)]
    show pl _ _ _ (_, [(0, .ref m0), (1, .int (nI j))], [.int (nI (p + 1)), .ref m0], M1) _
    refine pl_call (a := [.ref m0, .int (nI (p + 1))]) (rest := []) rfl rfl rfl (rd_u4 (n := n) (f := f) (p := (p + 1)) hR3 hF_10 (by omega)) (fun v17 M18 q19 => ?_)
    obtain ⟨rfl, rfl⟩ := q19
    show pl _ _ _ (68, [(0, .ref m0), (1, .int (nI j))], [.long (nL (by4 f (p + 1)))], M1) _
    have hu_65 := by4_lt f (p + 1)
    refine ps_st (S' := (70, [(0, .ref m0), (1, .int (nI j))], [.int 32, .long (nL (by4 f (p + 1)))], M1)) rfl rfl rfl ?_
    refine ps_st (S' := (71, [(0, .ref m0), (1, .int (nI j))], [.long ((nL (by4 f (p + 1))) <<< (Int32.toInt64 32 &&& 63))], M1)) rfl rfl rfl ?_
    refine ps_st (S' := (72, [(0, .ref m0), (1, .int (nI j))], [.ref m0, .long ((nL (by4 f (p + 1))) <<< (Int32.toInt64 32 &&& 63))], M1)) rfl rfl rfl ?_
    refine ps_st (S' := (73, [(0, .ref m0), (1, .int (nI j))], [.ref m0, .ref m0, .long ((nL (by4 f (p + 1))) <<< (Int32.toInt64 32 &&& 63))], M1)) rfl rfl rfl ?_
    refine pr_ref (j := 21) (S' := (76, [(0, .ref m0), (1, .int (nI j))], [.ref (q 21), .ref m0, .long ((nL (by4 f (p + 1))) <<< (Int32.toInt64 32 &&& 63))], M1)) rfl hR3 rfl rfl ?_
    refine ps_st (S' := (77, [(0, .ref m0), (1, .int (nI j))], [.int (nI j), .ref (q 21), .ref m0, .long ((nL (by4 f (p + 1))) <<< (Int32.toInt64 32 &&& 63))], M1)) rfl rfl rfl ?_
    refine pr_ld (a := 21) (j := j) (y := (nI p)) (S' := (78, [(0, .ref m0), (1, .int (nI j))], [.int (nI p), .ref m0, .long ((nL (by4 f (p + 1))) <<< (Int32.toInt64 32 &&& 63))], M1)) rfl hR3 rfl (by omega) (fun _ => (hP_12.at hk9).2.2) rfl (fun i1_77 => ?_)
    refine ps_st (S' := (79, [(0, .ref m0), (1, .int (nI j))], [.int 5, .int (nI p), .ref m0, .long ((nL (by4 f (p + 1))) <<< (Int32.toInt64 32 &&& 63))], M1)) rfl rfl rfl ?_
    refine ps_st (S' := (80, [(0, .ref m0), (1, .int (nI j))], [.int ((nI p) + 5), .ref m0, .long ((nL (by4 f (p + 1))) <<< (Int32.toInt64 32 &&& 63))], M1)) rfl rfl rfl ?_
    rw [nI_add1 (p := p) (k := 5) (x := 5) rfl (by omega)]
    show pl _ _ _ (_, [(0, .ref m0), (1, .int (nI j))], [.int (nI (p + 5)), .ref m0, .long ((nL (by4 f (p + 1))) <<< (Int32.toInt64 32 &&& 63))], M1) _
    refine pl_call (a := [.ref m0, .int (nI (p + 5))]) (rest := [.long ((nL (by4 f (p + 1))) <<< (Int32.toInt64 32 &&& 63))]) rfl rfl rfl (rd_u4 (n := n) (f := f) (p := (p + 5)) hR3 hF_10 (by omega)) (fun v20 M21 q22 => ?_)
    obtain ⟨rfl, rfl⟩ := q22
    show pl _ _ _ (83, [(0, .ref m0), (1, .int (nI j))], [.long (nL (by4 f (p + 5))), .long ((nL (by4 f (p + 1))) <<< (Int32.toInt64 32 &&& 63))], M1) _
    have hu_80 := by4_lt f (p + 5)
    refine ps_st (S' := (84, [(0, .ref m0), (1, .int (nI j))], [.long (((nL (by4 f (p + 1))) <<< (Int32.toInt64 32 &&& 63)) ||| (nL (by4 f (p + 5))))], M1)) rfl rfl rfl ?_
    exact ps_ret rfl rfl (⟨I2, R, rfl, hR3, hEI13, hER, hi4⟩)
  · have c_47 : ¬ ((nI (tg f E j)) = 5) := of_decide_eq_false c_47
    have n_47 : ¬ (tg f E j = 5) := fun h9 => c_47 ((eq_nI (p := tg f E j) (n := 5) (Nat.lt_trans (tg_lt _ _ _) (by decide)) (by decide)).mpr h9)
    refine ps_st (S' := (51, [(2, .int (nI (tg f E j))), (0, .ref m0), (1, .int (nI j))], [.int (nI (tg f E j))], M1)) rfl rfl rfl ?_
    refine ps_st (S' := (53, [(2, .int (nI (tg f E j))), (0, .ref m0), (1, .int (nI j))], [.int 6, .int (nI (tg f E j))], M1)) rfl rfl rfl ?_
    refine ps_if2 (S1 := (85, [(2, .int (nI (tg f E j))), (0, .ref m0), (1, .int (nI j))], [], M1)) (S2 := (56, [(0, .ref m0), (1, .int (nI j))], [], M1)) rfl rfl rfl (fun c_53 => ?_) (fun c_53 => ?_)
    · exact absurd (of_decide_eq_true c_53) (fun h9 => h9 ((eq_nI (p := tg f E j) (n := 6) (Nat.lt_trans (tg_lt _ _ _) (by decide)) (by decide)).mpr (by omega)))
    refine ps_st (S' := (57, [(0, .ref m0), (1, .int (nI j))], [.ref m0], M1)) rfl rfl rfl ?_
    refine ps_st (S' := (58, [(0, .ref m0), (1, .int (nI j))], [.ref m0, .ref m0], M1)) rfl rfl rfl ?_
    refine pr_ref (j := 21) (S' := (61, [(0, .ref m0), (1, .int (nI j))], [.ref (q 21), .ref m0], M1)) rfl hR3 rfl rfl ?_
    refine ps_st (S' := (62, [(0, .ref m0), (1, .int (nI j))], [.int (nI j), .ref (q 21), .ref m0], M1)) rfl rfl rfl ?_
    refine pr_ld (a := 21) (j := j) (y := (nI p)) (S' := (63, [(0, .ref m0), (1, .int (nI j))], [.int (nI p), .ref m0], M1)) rfl hR3 rfl (by omega) (fun _ => (hP_12.at hk9).2.2) rfl (fun i1_62 => ?_)
    refine ps_st (S' := (64, [(0, .ref m0), (1, .int (nI j))], [.int 1, .int (nI p), .ref m0], M1)) rfl rfl rfl ?_
    refine ps_st (S' := (65, [(0, .ref m0), (1, .int (nI j))], [.int ((nI p) + 1), .ref m0], M1)) rfl rfl rfl ?_
    rw [nI_add1 (p := p) (k := 1) (x := 1) rfl (by omega)]
    show pl _ _ _ (_, [(0, .ref m0), (1, .int (nI j))], [.int (nI (p + 1)), .ref m0], M1) _
    refine pl_call (a := [.ref m0, .int (nI (p + 1))]) (rest := []) rfl rfl rfl (rd_u4 (n := n) (f := f) (p := (p + 1)) hR3 hF_10 (by omega)) (fun v23 M24 q25 => ?_)
    obtain ⟨rfl, rfl⟩ := q25
    show pl _ _ _ (68, [(0, .ref m0), (1, .int (nI j))], [.long (nL (by4 f (p + 1)))], M1) _
    have hu_65 := by4_lt f (p + 1)
    refine ps_st (S' := (70, [(0, .ref m0), (1, .int (nI j))], [.int 32, .long (nL (by4 f (p + 1)))], M1)) rfl rfl rfl ?_
    refine ps_st (S' := (71, [(0, .ref m0), (1, .int (nI j))], [.long ((nL (by4 f (p + 1))) <<< (Int32.toInt64 32 &&& 63))], M1)) rfl rfl rfl ?_
    refine ps_st (S' := (72, [(0, .ref m0), (1, .int (nI j))], [.ref m0, .long ((nL (by4 f (p + 1))) <<< (Int32.toInt64 32 &&& 63))], M1)) rfl rfl rfl ?_
    refine ps_st (S' := (73, [(0, .ref m0), (1, .int (nI j))], [.ref m0, .ref m0, .long ((nL (by4 f (p + 1))) <<< (Int32.toInt64 32 &&& 63))], M1)) rfl rfl rfl ?_
    refine pr_ref (j := 21) (S' := (76, [(0, .ref m0), (1, .int (nI j))], [.ref (q 21), .ref m0, .long ((nL (by4 f (p + 1))) <<< (Int32.toInt64 32 &&& 63))], M1)) rfl hR3 rfl rfl ?_
    refine ps_st (S' := (77, [(0, .ref m0), (1, .int (nI j))], [.int (nI j), .ref (q 21), .ref m0, .long ((nL (by4 f (p + 1))) <<< (Int32.toInt64 32 &&& 63))], M1)) rfl rfl rfl ?_
    refine pr_ld (a := 21) (j := j) (y := (nI p)) (S' := (78, [(0, .ref m0), (1, .int (nI j))], [.int (nI p), .ref m0, .long ((nL (by4 f (p + 1))) <<< (Int32.toInt64 32 &&& 63))], M1)) rfl hR3 rfl (by omega) (fun _ => (hP_12.at hk9).2.2) rfl (fun i1_77 => ?_)
    refine ps_st (S' := (79, [(0, .ref m0), (1, .int (nI j))], [.int 5, .int (nI p), .ref m0, .long ((nL (by4 f (p + 1))) <<< (Int32.toInt64 32 &&& 63))], M1)) rfl rfl rfl ?_
    refine ps_st (S' := (80, [(0, .ref m0), (1, .int (nI j))], [.int ((nI p) + 5), .ref m0, .long ((nL (by4 f (p + 1))) <<< (Int32.toInt64 32 &&& 63))], M1)) rfl rfl rfl ?_
    rw [nI_add1 (p := p) (k := 5) (x := 5) rfl (by omega)]
    show pl _ _ _ (_, [(0, .ref m0), (1, .int (nI j))], [.int (nI (p + 5)), .ref m0, .long ((nL (by4 f (p + 1))) <<< (Int32.toInt64 32 &&& 63))], M1) _
    refine pl_call (a := [.ref m0, .int (nI (p + 5))]) (rest := [.long ((nL (by4 f (p + 1))) <<< (Int32.toInt64 32 &&& 63))]) rfl rfl rfl (rd_u4 (n := n) (f := f) (p := (p + 5)) hR3 hF_10 (by omega)) (fun v26 M27 q28 => ?_)
    obtain ⟨rfl, rfl⟩ := q28
    show pl _ _ _ (83, [(0, .ref m0), (1, .int (nI j))], [.long (nL (by4 f (p + 5))), .long ((nL (by4 f (p + 1))) <<< (Int32.toInt64 32 &&& 63))], M1) _
    have hu_80 := by4_lt f (p + 5)
    refine ps_st (S' := (84, [(0, .ref m0), (1, .int (nI j))], [.long (((nL (by4 f (p + 1))) <<< (Int32.toInt64 32 &&& 63)) ||| (nL (by4 f (p + 5))))], M1)) rfl rfl rfl ?_
    exact ps_ret rfl rfl (⟨I2, R, rfl, hR3, hEI13, hER, hi4⟩)
theorem rd_bits {g : xe_G} {m0 : Nat} {q : Nat → Nat} {z : Nat × Nat} {I : rI} {R : rR} {M : mi_H} {ko : Option (Nat × (Nat → Int32))} {k : Int32} (hR : RS g m0 q z I R M) (hK : KPR ko I R) : pt (mT g) 183 [.ref m0, .int k] M (fun v M' => ∃ (I' : rI) (R' : rR), v = some (.long (biK ko k)) ∧ RS g m0 q z I' R' M' ∧ eqI [0] I I' ∧ eqR [] R R' ∧ I' 0 = some 0) := by
  cases ko with
  | none =>
    obtain ⟨kn, h1, h2⟩ := hK
    exact rd_bits0 hR h1 h2
  | some r =>
    obtain ⟨h1, h2, -, -, tx, cN, A, E, N, mj, p1, pF, pM, pA, k1, k2, k3, k4, k5, k6, k7, rfl, rfl, -⟩ := hK
    rw [biK_is k7]
    have hN := by2_lt r.2 8
    have hpl := whole_in k7
    have hEP := (EP_of hpl).1
    have h0 := tg_0 hpl
    by_cases ht : 3 ≤ tg r.2 E k.toNatClampNeg ∧ tg r.2 E k.toNatClampNeg ≤ 6
    · have hk0 : ¬ k < 0 := fun h9 => by rw [i32_cl h9, h0] at ht; omega
      have e := i32_nn hk0
      unfold biI
      obtain ⟨j, ej⟩ : ∃ j, j = k.toNatClampNeg := ⟨_, rfl⟩
      rw [← ej] at e ht ⊢
      have hj : j < 65536 := Nat.not_le.mp (fun h9 => by
        unfold tg at ht
        rw [lk_hi k3.1 (Or.inr (by omega))] at ht
        dsimp only at ht
        omega)
      subst e
      obtain ⟨p, hk9, hb9⟩ := tg_lk (f := r.2) (E := E) (k := j) (by omega)
      obtain ⟨u1, u2⟩ := nums_of hpl hk9
      rw [plc_of hk9]
      by_cases h34 : tg r.2 E j = 3 ∨ tg r.2 E j = 4
      · rw [if_pos h34]
        exact rd_bits4 hR h1 k4 k5 k6 k1 k2 k3 hEP hN (by2_lt _ _) h2 hj hk9 h34 (u1 (by omega))
      · have h56 : tg r.2 E j = 5 ∨ tg r.2 E j = 6 := by omega
        rw [if_neg h34, if_pos h56]
        exact rd_bits8 hR h1 k4 k5 k6 k1 k2 k3 hEP hN (by2_lt _ _) h2 hj hk9 h56 (u2 (by omega))
    · have e : biI r.2 E k = 0 := by
        unfold biI
        rw [if_neg (by omega), if_neg (by omega)]
      rw [e]
      exact rd_bitsT hR h1 k4 k5 k6 k1 k2 k3 hEP hN (by2_lt _ _) h2 h0 ht
end
section
/-! places of a descriptor, as both sides tell them (my own text) -/
section PLA
variable {f : Nat → Int32} {n H m : Nat} {E : List (Nat × Nat)} {F : Nat → Nat → Int32} {l : List Nat}
def plT (l : List Nat) : Int32 := if shN l = 0 then -1 else nI (shN l % 4096)
def plX (f : Nat → Int32) (n : Nat) (E : List (Nat × Nat)) (k : Int32) : Int32 := if tg f E k.toNatClampNeg = 1 then plT (tX f n E k.toNatClampNeg) else -1
/-- what is kept tells it -/
def plK (ko : Option (Nat × (Nat → Int32))) (k : Int32) : Int32 := match ko with
  | none => -1
  | some r => match s_whole r.2 r.1 with
    | .inl _ => -1
    | .inr y => plX r.2 r.1 y.1 k
theorem plK_is {r : Nat × (Nat → Int32)} {k : Int32} {y : Nat × Nat × Nat × Nat} (h : s_whole r.2 r.1 = .inr (E, y)) : plK (some r) k = plX r.2 r.1 E k := by
  show (match s_whole r.2 r.1 with | .inl _ => -1 | .inr y => plX r.2 r.1 y.1 k) = _
  rw [h]
theorem VF.plaR (h : VF f n E H m F) (hs : VS f n E F) (hH : H ≤ 65536) (h0 : tg f E 0 = 0) (k : Int32) : sp_placesTold H m F k = plX f n E k := by
  unfold sp_placesTold plX
  rw [h.tagR hH h0 k]
  obtain ⟨j, hj⟩ : ∃ j, j = k.toNatClampNeg := ⟨_, rfl⟩
  rw [← hj]
  by_cases h1 : tg f E j = 1
  · rw [if_neg (by rw [h1]; exact fun q => q rfl), if_pos h1, hs j h1]
    have hl := shN_lt (tX f n E j)
    unfold plT shI
    by_cases h2 : shN (tX f n E j) = 0
    · rw [if_pos h2, if_pos h2, if_neg (fun q => q rfl)]
    · rw [if_neg h2, if_neg h2, if_pos (fun q => absurd (congrArg Int32.toInt q) (by rw [nI_val (by omega)]; show ¬ ((shN (tX f n E j) : Nat) : Int) = -1; omega)), nI_rem (a := shN (tX f n E j)) (x := 4096) (k := 4096) rfl rfl (by decide) (by omega)]
  · rw [if_pos (show ¬ nI (tg f E j) = 1 from fun q => h1 ((eq_nI (p := tg f E j) (n := 1) (Nat.lt_trans (tg_lt _ _ _) (by decide)) (by decide)).mp q)), if_neg h1]
def wdN (x : Nat) : Nat := if x = 74 ∨ x = 68 then 1 else 0
theorem le1_wd (x : Nat) : wdN x < 2 := by unfold wdN; split <;> omega
theorem pW_wd (x : Nat) : pW x = wdN x + 1 := by unfold pW wdN; split <;> rfl
theorem fld_sh (h : ¬ fldN l = 0) : shN l = pW (l.getD 0 0) ∧ 0 < l.length := by
  have h1 : 0 < shN l ∧ shN l < 4096 := Decidable.byContradiction (fun q => h (if_neg q))
  by_cases h0 : l.length = 0
  · unfold shN s_sh at h1
    rw [if_pos h0] at h1
    omega
  · refine ⟨?_, by omega⟩
    by_cases h2 : l.getD 0 0 = 40
    · have h3 := mth_sh (l := l) (by omega) h2
      unfold s_ms at h3
      repeat' split at h3
      all_goals omega
    · have h3 : shN l = if s_ty (fun i => l.getD i 0) l.length 0 = some l.length then pW (l.getD 0 0) else 0 := by
        unfold shN s_sh
        rw [if_neg h0, if_neg h2]
      by_cases h4 : s_ty (fun i => l.getD i 0) l.length 0 = some l.length
      · rw [if_pos h4] at h3
        exact h3
      · rw [if_neg h4] at h3
        omega
theorem plT_f {t : Nat} {x : Int32} (h : ¬ fldN l = 0) (ht : t = pW (l.getD 0 0)) (hx : x = nI t) : x = plT l := by
  have h1 := (fld_sh h).1
  have h2 := pW_le (l.getD 0 0)
  have h3 := pW_wd (l.getD 0 0)
  unfold plT
  rw [if_neg (by omega), h1, ← ht, hx, Nat.mod_eq_of_lt (by omega)]
theorem plT_n (h : fldN l = 0) (h2 : mthN l = 0) : plT l = -1 := by
  have e : shN l = 0 := by
    unfold fldN at h
    unfold mthN at h2
    by_cases a : 4096 ≤ shN l
    · rw [if_pos a] at h2
      cases h2
    · by_cases b : 0 < shN l ∧ shN l < 4096
      · rw [if_pos b] at h
        cases h
      · omega
  unfold plT
  rw [if_pos e]
theorem plT_v {k W t : Nat} {x : Int32} (hm : ¬ mthN l = 0) (h : s_pl (fun i => l.getD i 0) l.length (l.length - 1) 1 0 = some (k, W)) (ht : t = if l.getD (l.length - 1) 0 = 86 ∧ l.length - 1 = k + 1 then 0 else pW (l.getD (k + 1) 0)) (hx : x = nI (1024 * t)) : nI W + x = plT l := by
  obtain ⟨h1, h2, k', W', hp, a1, a2, a3, a4, -, -⟩ := mth_in hm
  rw [h] at hp
  cases hp
  have hlow : 4096 ≤ shN l := Decidable.byContradiction (fun q => hm (if_neg q))
  have e := mth_sh h1 h2
  rw [ms_pl h, if_neg (by omega)] at e
  by_cases b : l.getD (k + 1) 0 = 86 ∧ k + 2 = l.length
  · rw [if_pos b] at e
    have ht0 : t = 0 := by
      rw [ht, if_pos ⟨by rw [show l.length - 1 = k + 1 by omega]; exact b.1, by omega⟩]
    unfold plT
    rw [e, if_neg (by omega), hx, ht0, show (4096 + W) % 4096 = W + 1024 * 0 by omega]
    exact nI_add1 rfl (by omega)
  · rw [if_neg b] at e
    by_cases d : s_ty (fun i => l.getD i 0) l.length (k + 1) = some l.length
    · rw [if_pos d] at e
      have e : shN l = 4096 + 1024 * pW (l.getD (k + 1) 0) + W := e
      have ht1 : t = pW (l.getD (k + 1) 0) := by
        rw [ht, if_neg (fun q => b ⟨by rw [← q.2]; exact q.1, by omega⟩)]
      have hw := pW_le (l.getD (k + 1) 0)
      unfold plT
      rw [e, if_neg (by omega), hx, ht1, show (4096 + 1024 * pW (l.getD (k + 1) 0) + W) % 4096 = W + 1024 * pW (l.getD (k + 1) 0) by omega]
      exact nI_add1 rfl (by omega)
    · rw [if_neg d] at e
      omega
end PLA
theorem dz_placesTold {g : xe_G} {M : mi_H} {f : Nat → Int32} {n N q : Nat} {E : List (Nat × Nat)} {k : Int32}  (hV : PV g f n N E q M) (h0 : tg f E 0 = 0) : pt (mT g) 131 [.ref q, .int k] M (fun v M' => (v = some (.int (plX f n E k)) ∧ M = M')) := by
  obtain ⟨hL9, H, m, qq, F, cc, hP9, hT9, -, hb9, hVF, hVS⟩ := id hV
  exact (ct_placesTold hP9 (d := 3) (by decide)).pt.mono (fun v M' h => ⟨by rw [h.1, hVF.plaR hVS hb9.1 h0], h.2.symm⟩)
set_option maxHeartbeats 1000000 in
theorem dk_places0 {g : xe_G} {M : mi_H} {o ca fl : Nat} {cn wp k : Int32} (h_o : M.1 o = some (ob 11 [.ref ca, .int cn, .ref fl, .null, .int wp]))  : pt (mT g) 17 [.ref o, .int k] M (fun v M' => (v = some (.int (-1)) ∧ M = M')) := by
  refine pt_in (b := mb_17 g) rfl (fun kf => ?_)
  show pl (mT g) kf (mb_17 g).2 (0, [(0, .ref o), (1, .int k)], [], M) _
  refine ps_st (S' := (1, [(0, .ref o), (1, .int k)], [.ref o], M)) rfl rfl rfl ?_
  refine ps_get (S' := (4, [(0, .ref o), (1, .int k)], [.null], M)) rfl h_o rfl rfl ?_
  refine ps_st (S' := (7, [(0, .ref o), (1, .int k)], [], M)) rfl rfl rfl ?_
  refine ps_st (S' := (8, [(0, .ref o), (1, .int k)], [.int (-1)], M)) rfl rfl rfl ?_
  refine ps_st (S' := (22, [], [.int (-1)], M)) rfl rfl rfl ?_
  exact ps_ret rfl rfl (⟨rfl, rfl⟩)
set_option maxHeartbeats 1000000 in
theorem dk_placesK {g : xe_G} {M : mi_H} {f : Nat → Int32} {n N q : Nat} {E : List (Nat × Nat)} {o ca fl c b : Nat} {cn wp : Int32} {w : List Value} {k : Int32} (h_o : M.1 o = some (ob 11 [.ref ca, .int cn, .ref fl, .ref c, .int wp])) (h_c : M.1 c = some (ob 3 (.ref b :: .ref q :: w))) (hV : PV g f n N E q M) (h0 : tg f E 0 = 0) : pt (mT g) 17 [.ref o, .int k] M (fun v M' => (v = some (.int (plX f n E k)) ∧ M = M')) := by
  refine pt_in (b := mb_17 g) rfl (fun kf => ?_)
  show pl (mT g) kf (mb_17 g).2 (0, [(0, .ref o), (1, .int k)], [], M) _
  obtain ⟨hL9, H, m, qq, F, cc, hP9, -, -, hb9, -⟩ := id hV
  have h_q := hP9.1
  have hN9 := hb9.2.2.1
  refine ps_st (S' := (1, [(0, .ref o), (1, .int k)], [.ref o], M)) rfl rfl rfl ?_
  refine ps_get (S' := (4, [(0, .ref o), (1, .int k)], [.ref c], M)) rfl h_o rfl rfl ?_
  refine ps_st (S' := (11, [(0, .ref o), (1, .int k)], [], M)) rfl rfl rfl ?_
  refine ps_st (S' := (12, [(0, .ref o), (1, .int k)], [.ref o], M)) rfl rfl rfl ?_
  refine ps_get (S' := (15, [(0, .ref o), (1, .int k)], [.ref c], M)) rfl h_o rfl rfl ?_
  refine ps_get (S' := (18, [(0, .ref o), (1, .int k)], [.ref q], M)) rfl h_c rfl rfl ?_
  refine ps_st (S' := (19, [(0, .ref o), (1, .int k)], [.int k, .ref q], M)) rfl rfl rfl ?_
  refine pl_call (a := [.ref q, .int k]) (rest := []) rfl rfl rfl (dz_placesTold (f := f) (n := n) (N := N) (q := q) (E := E) (k := k) (hV) (h0)) (fun v1 M2 q3 => ?_)
  obtain ⟨rfl, rfl⟩ := q3
  show pl _ _ _ (22, [], [.int (plX f n E k)], M) _
  exact ps_reti rfl (⟨rfl, rfl⟩)
theorem dk_places {g : xe_G} {M : mi_H} {ko : Option (Nat × (Nat → Int32))} {kv : Value} {cm o fl : Nat} {cn wp k : Int32} (hx : M.1 o = some (ob 11 [.ref cm, .int cn, .ref fl, kv, .int wp])) (hK : KPC g ko kv cm M) : pt (mT g) 17 [.ref o, .int k] M (fun v M' => v = some (.int (plK ko k)) ∧ M = M') := by
  cases ko with
  | none =>
    have e : kv = .null := hK
    subst e
    exact dk_places0 hx
  | some r =>
    obtain ⟨c, da, rfl, ⟨b, q, N, E, p1, pF, pM, pA, w, h1, h2, h3, h4, h5, rfl, -⟩, -, -⟩ := hK
    rw [plK_is h5]
    exact dk_placesK hx h1 h4 (tg_0 (whole_in h5))
end
section
set_option maxHeartbeats 1000000 in
theorem rd_wide {g : xe_G} {m0 : Nat} {q : Nat → Nat} {z : Nat × Nat} {I : rI} {R : rR} {M : mi_H} {tx : List (List Nat)} {cN : Nat} {A : Nat → Nat} {s : Nat} {l : List Nat} {k : Nat} (hR : RS g m0 q z I R M)  (hY : SYT tx cN A I R) (hs : s < tx.length ∧ tx.getD s [] = l) (hk : k < l.length) : pt (mT g) 256 [.ref m0, .int (nI s), .int (nI k)] M (fun v M' => (v = some (.int (nI (wdN (l.getD k 0)))) ∧ M = M')) := by
  refine pt_in (b := mb_256 g) rfl (fun kf => ?_)
  show pl (mT g) kf (mb_256 g).2 (0, [(0, .ref m0), (1, .int (nI s)), (2, .int (nI k))], [], M) _
  have hln := hY.ln hs
  have hts := hY.1.2.2
  refine ps_st (S' := (1, [(0, .ref m0), (1, .int (nI s)), (2, .int (nI k))], [.ref m0], M)) rfl rfl rfl ?_
  refine ps_st (S' := (2, [(0, .ref m0), (1, .int (nI s)), (2, .int (nI k))], [.int (nI s), .ref m0], M)) rfl rfl rfl ?_
  refine ps_st (S' := (3, [(0, .ref m0), (1, .int (nI s)), (2, .int (nI k))], [.int (nI k), .int (nI s), .ref m0], M)) rfl rfl rfl ?_
  refine pl_call (a := [.ref m0, .int (nI s), .int (nI k)]) (rest := []) rfl rfl rfl (rd_at (tx := tx) (cN := cN) (A := A) (s := s) (l := l) (k := k) hR hY (hs) (by omega)) (fun v1 M2 q3 => ?_)
  obtain ⟨rfl, rfl⟩ := q3
  show pl _ _ _ (6, [(0, .ref m0), (1, .int (nI s)), (2, .int (nI k))], [.int (nI (l.getD k 0))], M) _
  have hc_3 := hY.ch hs (k := k) (by omega)
  refine ps_st (S' := (8, [(0, .ref m0), (1, .int (nI s)), (2, .int (nI k))], [.int 74, .int (nI (l.getD k 0))], M)) rfl rfl rfl ?_
  refine ps_if2 (S1 := (22, [], [], M)) (S2 := (11, [(0, .ref m0), (1, .int (nI s)), (2, .int (nI k))], [], M)) rfl rfl rfl (fun c_8 => ?_) (fun c_8 => ?_)
  · have c_8 : (nI (l.getD k 0)) = 74 := of_decide_eq_true c_8
    have n_8 : l.getD k 0 = 74 := (eq_nI (p := l.getD k 0) (n := 74) (by omega) (by decide)).mp c_8
    refine ps_st (S' := (23, [], [.int 1], M)) rfl rfl rfl ?_
    refine ps_st (S' := (27, [], [.int 1], M)) rfl rfl rfl ?_
    exact ps_ret rfl rfl (⟨congrArg (fun x => some (Value.int (nI x))) (show 1 = wdN (l.getD k 0) from by
        unfold wdN
        rw [if_pos (by omega)]), rfl⟩)
  · have c_8 : ¬ ((nI (l.getD k 0)) = 74) := of_decide_eq_false c_8
    have n_8 : ¬ (l.getD k 0 = 74) := fun h9 => c_8 ((eq_nI (p := l.getD k 0) (n := 74) (by omega) (by decide)).mpr h9)
    refine ps_st (S' := (12, [(0, .ref m0), (1, .int (nI s)), (2, .int (nI k))], [.ref m0], M)) rfl rfl rfl ?_
    refine ps_st (S' := (13, [(0, .ref m0), (1, .int (nI s)), (2, .int (nI k))], [.int (nI s), .ref m0], M)) rfl rfl rfl ?_
    refine ps_st (S' := (14, [(0, .ref m0), (1, .int (nI s)), (2, .int (nI k))], [.int (nI k), .int (nI s), .ref m0], M)) rfl rfl rfl ?_
    refine pl_call (a := [.ref m0, .int (nI s), .int (nI k)]) (rest := []) rfl rfl rfl (rd_at (tx := tx) (cN := cN) (A := A) (s := s) (l := l) (k := k) hR hY (hs) (by omega)) (fun v4 M5 q6 => ?_)
    obtain ⟨rfl, rfl⟩ := q6
    show pl _ _ _ (17, [(0, .ref m0), (1, .int (nI s)), (2, .int (nI k))], [.int (nI (l.getD k 0))], M) _
    have hc_14 := hY.ch hs (k := k) (by omega)
    refine ps_st (S' := (19, [(0, .ref m0), (1, .int (nI s)), (2, .int (nI k))], [.int 68, .int (nI (l.getD k 0))], M)) rfl rfl rfl ?_
    refine ps_if2 (S1 := (26, [(0, .ref m0), (1, .int (nI s)), (2, .int (nI k))], [], M)) (S2 := (22, [], [], M)) rfl rfl rfl (fun c_19 => ?_) (fun c_19 => ?_)
    · have c_19 : ¬ (nI (l.getD k 0)) = 68 := of_decide_eq_true c_19
      have n_19 : ¬ (l.getD k 0 = 68) := fun h9 => c_19 ((eq_nI (p := l.getD k 0) (n := 68) (by omega) (by decide)).mpr h9)
      refine ps_st (S' := (27, [], [.int 0], M)) rfl rfl rfl ?_
      exact ps_ret rfl rfl (⟨congrArg (fun x => some (Value.int (nI x))) (show 0 = wdN (l.getD k 0) from by
          unfold wdN
          rw [if_neg (by omega)]), rfl⟩)
    · have c_19 : ¬ (¬ (nI (l.getD k 0)) = 68) := of_decide_eq_false c_19
      have n_19 : l.getD k 0 = 68 := (eq_nI (p := l.getD k 0) (n := 68) (by omega) (by decide)).mp (Decidable.not_not.mp c_19)
      refine ps_st (S' := (23, [], [.int 1], M)) rfl rfl rfl ?_
      refine ps_st (S' := (27, [], [.int 1], M)) rfl rfl rfl ?_
      exact ps_ret rfl rfl (⟨congrArg (fun x => some (Value.int (nI x))) (show 1 = wdN (l.getD k 0) from by
          unfold wdN
          rw [if_pos (by omega)]), rfl⟩)
set_option maxHeartbeats 1000000 in
theorem rd_placesk {g : xe_G} {m0 : Nat} {q : Nat → Nat} {z : Nat × Nat} {I : rI} {R : rR} {M : mi_H} {kn k : Int32} (hR : RS g m0 q z I R M) (hi18 : I 18 = some kn)  (hk : kn < 0) : pt (mT g) 232 [.ref m0, .int k] M (fun v M' => (∃  (I' : rI) (R' : rR), v = some (.int (-1)) ∧ RS g m0 q z I' R' M' ∧ eqI [0] I I' ∧ eqR [] R R' ∧ I' 0 = some 0)) := by
  refine pt_in (b := mb_232 g) rfl (fun kf => ?_)
  show pl (mT g) kf (mb_232 g).2 (0, [(0, .ref m0), (1, .int k)], [], M) _
  have hEI : eqI [0] I I := eqI.rf
  have hER : eqR [] R R := eqR.rf
  refine ps_st (S' := (1, [(0, .ref m0), (1, .int k)], [.ref m0], M)) rfl rfl rfl ?_
  refine ps_st (S' := (2, [(0, .ref m0), (1, .int k)], [.int 0, .ref m0], M)) rfl rfl rfl ?_
  refine pr_put (j := 0) rfl hR rfl (fun M1 I2 hR3 hi4 hI5 => ?_)
  have hi6 := (hI5 18 (by decide)).trans hi18
  have hEI7 := hEI.put hI5 (by decide)
  show pl _ _ _ (5, [(0, .ref m0), (1, .int k)], [], M1) _
  refine ps_st (S' := (6, [(0, .ref m0), (1, .int k)], [.ref m0], M1)) rfl rfl rfl ?_
  refine pr_int (j := 18) (S' := (9, [(0, .ref m0), (1, .int k)], [.int kn], M1)) rfl hR3 rfl hi6 rfl ?_
  refine ps_if (S1 := (21, [], [], M1)) (S2 := (12, [(0, .ref m0), (1, .int k)], [], M1)) rfl rfl rfl (fun c_9 => ?_) (fun c_9 => ?_)
  rotate_left
  · exact absurd (hk) (of_decide_eq_false c_9)
  refine ps_st (S' := (22, [], [.int (-1)], M1)) rfl rfl rfl ?_
  exact ps_ret rfl rfl (⟨I2, R, rfl, hR3, hEI7, hER, hi4⟩)
set_option maxHeartbeats 1000000 in
theorem rd_placesT {g : xe_G} {m0 : Nat} {q : Nat → Nat} {z : Nat × Nat} {I : rI} {R : rR} {M : mi_H} {n : Nat} {f : Nat → Int32} {tx : List (List Nat)} {cN : Nat} {A : Nat → Nat} {N mj : Nat} {E : List (Nat × Nat)} {n2 : Nat} {k : Int32} (hR : RS g m0 q z I R M) (hi18 : I 18 = some (nI n2)) (hi51 : I 51 = some 0) (hi52 : I 52 = some (nI N)) (hi53 : I 53 = some (nI mj)) (hF : FK n f I R) (hY : SYT tx cN A I R) (hP : RPV f n E tx N I R) (hEP : EP f n E) (hN : N < 65536) (hmj : mj < 65536) (hn2 : n2 ≤ 65540) (h0 : tg f E 0 = 0) (ht : ¬ tg f E k.toNatClampNeg = 1) : pt (mT g) 232 [.ref m0, .int k] M (fun v M' => (∃  (I' : rI) (R' : rR), v = some (.int (-1)) ∧ RS g m0 q z I' R' M' ∧ eqI [0] I I' ∧ eqR [] R R' ∧ I' 0 = some 0)) := by
  refine pt_in (b := mb_232 g) rfl (fun kf => ?_)
  show pl (mT g) kf (mb_232 g).2 (0, [(0, .ref m0), (1, .int k)], [], M) _
  have hEI : eqI [0] I I := eqI.rf
  have hER : eqR [] R R := eqR.rf
  refine ps_st (S' := (1, [(0, .ref m0), (1, .int k)], [.ref m0], M)) rfl rfl rfl ?_
  refine ps_st (S' := (2, [(0, .ref m0), (1, .int k)], [.int 0, .ref m0], M)) rfl rfl rfl ?_
  refine pr_put (j := 0) rfl hR rfl (fun M1 I2 hR3 hi4 hI5 => ?_)
  have hi6 := (hI5 18 (by decide)).trans hi18
  have hi7 := (hI5 51 (by decide)).trans hi51
  have hi8 := (hI5 52 (by decide)).trans hi52
  have hi9 := (hI5 53 (by decide)).trans hi53
  have hF_10 := hF.mono (pIx hI5 (by decide)) (fun _ _ => rfl)
  have hY_11 := hY.mono (pIx hI5 (by decide)) (fun _ _ => rfl)
  have hP_12 := hP.mono (pIx hI5 (by decide)) (fun _ _ => rfl)
  have hEI13 := hEI.put hI5 (by decide)
  show pl _ _ _ (5, [(0, .ref m0), (1, .int k)], [], M1) _
  refine ps_st (S' := (6, [(0, .ref m0), (1, .int k)], [.ref m0], M1)) rfl rfl rfl ?_
  refine pr_int (j := 18) (S' := (9, [(0, .ref m0), (1, .int k)], [.int (nI n2)], M1)) rfl hR3 rfl hi6 rfl ?_
  refine ps_if (S1 := (21, [], [], M1)) (S2 := (12, [(0, .ref m0), (1, .int k)], [], M1)) rfl rfl rfl (fun c_9 => ?_) (fun c_9 => ?_)
  · exact absurd (of_decide_eq_true c_9) (show ¬ ((nI n2) < 0) from fun h9 => absurd ((lt_nI (p := n2) (n := 0) (by omega) (by decide)).mp h9) (by omega))
  refine ps_st (S' := (13, [(0, .ref m0), (1, .int k)], [.ref m0], M1)) rfl rfl rfl ?_
  refine ps_st (S' := (14, [(0, .ref m0), (1, .int k)], [.int k, .ref m0], M1)) rfl rfl rfl ?_
  refine pl_call (a := [.ref m0, .int k]) (rest := []) rfl rfl rfl (rd_tagR (n := n) (f := f) (tx := tx) (cN := cN) (A := A) (N := N) (mj := mj) (E := E) (k := k) hR3 hi7 hi8 hi9 hF_10 hY_11 hP_12 (hEP) (hN) (hmj) (h0)) (fun v14 M15 q16 => ?_)
  obtain ⟨rfl, rfl⟩ := q16
  show pl _ _ _ (17, [(0, .ref m0), (1, .int k)], [.int (nI (tg f E k.toNatClampNeg))], M1) _
  have htg9 := tg_lt f E k.toNatClampNeg
  refine ps_st (S' := (18, [(0, .ref m0), (1, .int k)], [.int 1, .int (nI (tg f E k.toNatClampNeg))], M1)) rfl rfl rfl ?_
  refine ps_if2 (S1 := (23, [(0, .ref m0), (1, .int k)], [], M1)) (S2 := (21, [], [], M1)) rfl rfl rfl (fun c_18 => ?_) (fun c_18 => ?_)
  · exact absurd (of_decide_eq_true c_18) (fun h9 => ht ((eq_nI (p := tg f E k.toNatClampNeg) (n := 1) (by omega) (by decide)).mp h9))
  refine ps_st (S' := (22, [], [.int (-1)], M1)) rfl rfl rfl ?_
  exact ps_ret rfl rfl (⟨I2, R, rfl, hR3, hEI13, hER, hi4⟩)
set_option maxHeartbeats 1000000 in
theorem rd_placesN {g : xe_G} {m0 : Nat} {q : Nat → Nat} {z : Nat × Nat} {I : rI} {R : rR} {M : mi_H} {n : Nat} {f : Nat → Int32} {tx : List (List Nat)} {cN : Nat} {A : Nat → Nat} {N mj : Nat} {E : List (Nat × Nat)} {n2 : Nat} {j : Nat} (hR : RS g m0 q z I R M) (hi18 : I 18 = some (nI n2)) (hi51 : I 51 = some 0) (hi52 : I 52 = some (nI N)) (hi53 : I 53 = some (nI mj)) (hF : FK n f I R) (hY : SYT tx cN A I R) (hP : RPV f n E tx N I R) (hEP : EP f n E) (hN : N < 65536) (hmj : mj < 65536) (hn2 : n2 ≤ 65540) (hj : j < 65536) (h1t : tg f E j = 1) (hfl : fldN (tX f n E j) = 0) (hm : mthN (tX f n E j) = 0) : pt (mT g) 232 [.ref m0, .int (nI j)] M (fun v M' => (∃  (I' : rI) (R' : rR), v = some (.int (plT (tX f n E j))) ∧ RS g m0 q z I' R' M' ∧ eqI [0] I I' ∧ eqR [] R R' ∧ I' 0 = some 0)) := by
  refine pt_in (b := mb_232 g) rfl (fun kf => ?_)
  show pl (mT g) kf (mb_232 g).2 (0, [(0, .ref m0), (1, .int (nI j))], [], M) _
  have hEI : eqI [0] I I := eqI.rf
  have hER : eqR [] R R := eqR.rf
  have hn := hF.1
  have hlx := tx_len f n E j
  refine ps_st (S' := (1, [(0, .ref m0), (1, .int (nI j))], [.ref m0], M)) rfl rfl rfl ?_
  refine ps_st (S' := (2, [(0, .ref m0), (1, .int (nI j))], [.int 0, .ref m0], M)) rfl rfl rfl ?_
  refine pr_put (j := 0) rfl hR rfl (fun M1 I2 hR3 hi4 hI5 => ?_)
  have hi6 := (hI5 18 (by decide)).trans hi18
  have hi7 := (hI5 51 (by decide)).trans hi51
  have hi8 := (hI5 52 (by decide)).trans hi52
  have hi9 := (hI5 53 (by decide)).trans hi53
  have hF_10 := hF.mono (pIx hI5 (by decide)) (fun _ _ => rfl)
  have hY_11 := hY.mono (pIx hI5 (by decide)) (fun _ _ => rfl)
  have hP_12 := hP.mono (pIx hI5 (by decide)) (fun _ _ => rfl)
  have hEI13 := hEI.put hI5 (by decide)
  show pl _ _ _ (5, [(0, .ref m0), (1, .int (nI j))], [], M1) _
  refine ps_st (S' := (6, [(0, .ref m0), (1, .int (nI j))], [.ref m0], M1)) rfl rfl rfl ?_
  refine pr_int (j := 18) (S' := (9, [(0, .ref m0), (1, .int (nI j))], [.int (nI n2)], M1)) rfl hR3 rfl hi6 rfl ?_
  refine ps_if (S1 := (21, [], [], M1)) (S2 := (12, [(0, .ref m0), (1, .int (nI j))], [], M1)) rfl rfl rfl (fun c_9 => ?_) (fun c_9 => ?_)
  · exact absurd (of_decide_eq_true c_9) (show ¬ ((nI n2) < 0) from fun h9 => absurd ((lt_nI (p := n2) (n := 0) (by omega) (by decide)).mp h9) (by omega))
  refine ps_st (S' := (13, [(0, .ref m0), (1, .int (nI j))], [.ref m0], M1)) rfl rfl rfl ?_
  refine ps_st (S' := (14, [(0, .ref m0), (1, .int (nI j))], [.int (nI j), .ref m0], M1)) rfl rfl rfl ?_
  refine pl_call (a := [.ref m0, .int (nI j)]) (rest := []) rfl rfl rfl (rd_tag (n := n) (f := f) (tx := tx) (cN := cN) (A := A) (N := N) (mj := mj) (E := E) (k := j) hR3 hi7 hi8 hi9 hF_10 hY_11 hP_12 (hEP) (hN) (hmj) (by omega)) (fun v14 M15 q16 => ?_)
  obtain ⟨rfl, rfl⟩ := q16
  show pl _ _ _ (17, [(0, .ref m0), (1, .int (nI j))], [.int (nI (tg f E j))], M1) _
  have htg_14 := tg_lt f E j
  refine ps_st (S' := (18, [(0, .ref m0), (1, .int (nI j))], [.int 1, .int (nI (tg f E j))], M1)) rfl rfl rfl ?_
  refine ps_if2 (S1 := (23, [(0, .ref m0), (1, .int (nI j))], [], M1)) (S2 := (21, [], [], M1)) rfl rfl rfl (fun c_18 => ?_) (fun c_18 => ?_)
  rotate_left
  · exact absurd (by rw [h1t]; rfl) (of_decide_eq_false c_18)
  refine ps_st (S' := (24, [(0, .ref m0), (1, .int (nI j))], [.ref m0], M1)) rfl rfl rfl ?_
  refine ps_st (S' := (25, [(0, .ref m0), (1, .int (nI j))], [.int (nI j), .ref m0], M1)) rfl rfl rfl ?_
  refine pl_call (a := [.ref m0, .int (nI j)]) (rest := []) rfl rfl rfl (rd_symOf (n := n) (f := f) (tx := tx) (cN := cN) (A := A) (N := N) (mj := mj) (E := E) (k := j) hR3 hi7 hi8 hi9 hF_10 hY_11 hP_12 (hEP) (hN) (hmj) (by omega)) (fun v17 M18 q19 => ?_)
  obtain ⟨s20, q25_s, rfl, rfl⟩ := q19
  show pl _ _ _ (28, [(0, .ref m0), (1, .int (nI j))], [.int (nI s20)], M1) _
  have hsl_25 := q25_s.1
  have htl_25 := hY_11.1.2.2.1
  refine ps_st (S' := (29, [(2, .int (nI s20)), (0, .ref m0), (1, .int (nI j))], [], M1)) rfl rfl rfl ?_
  refine ps_st (S' := (30, [(2, .int (nI s20)), (0, .ref m0), (1, .int (nI j))], [.ref m0], M1)) rfl rfl rfl ?_
  refine ps_st (S' := (31, [(2, .int (nI s20)), (0, .ref m0), (1, .int (nI j))], [.int (nI s20), .ref m0], M1)) rfl rfl rfl ?_
  refine pl_call (a := [.ref m0, .int (nI s20)]) (rest := []) rfl rfl rfl (rd_isField (tx := tx) (cN := cN) (A := A) (s := s20) (l := (tX f n E j)) hR3 hY_11 (q25_s)) (fun v21 M22 q23 => ?_)
  obtain ⟨rfl, rfl⟩ := q23
  show pl _ _ _ (34, [(2, .int (nI s20)), (0, .ref m0), (1, .int (nI j))], [.int (nI (fldN (tX f n E j)))], M1) _
  refine ps_if (S1 := (52, [(2, .int (nI s20)), (0, .ref m0), (1, .int (nI j))], [], M1)) (S2 := (37, [(2, .int (nI s20)), (0, .ref m0), (1, .int (nI j))], [], M1)) rfl rfl rfl (fun c_34 => ?_) (fun c_34 => ?_)
  rotate_left
  · exact absurd ((eq_nI (p := fldN (tX f n E j)) (n := 0) (Nat.lt_trans (le1_fld _) (by decide)) (by decide)).mpr (by omega)) (of_decide_eq_false c_34)
  refine ps_st (S' := (53, [(2, .int (nI s20)), (0, .ref m0), (1, .int (nI j))], [.ref m0], M1)) rfl rfl rfl ?_
  refine ps_st (S' := (54, [(2, .int (nI s20)), (0, .ref m0), (1, .int (nI j))], [.int (nI s20), .ref m0], M1)) rfl rfl rfl ?_
  refine pl_call (a := [.ref m0, .int (nI s20)]) (rest := []) rfl rfl rfl (rd_isMethod (tx := tx) (cN := cN) (A := A) (s := s20) (l := (tX f n E j)) hR3 hY_11 (q25_s)) (fun v24 M25 q26 => ?_)
  obtain ⟨rfl, rfl⟩ := q26
  show pl _ _ _ (57, [(2, .int (nI s20)), (0, .ref m0), (1, .int (nI j))], [.int (nI (mthN (tX f n E j)))], M1) _
  refine ps_if (S1 := (62, [(2, .int (nI s20)), (0, .ref m0), (1, .int (nI j))], [], M1)) (S2 := (60, [(2, .int (nI s20)), (0, .ref m0), (1, .int (nI j))], [], M1)) rfl rfl rfl (fun c_57 => ?_) (fun c_57 => ?_)
  · exact absurd (of_decide_eq_true c_57) (fun h9 => h9 ((eq_nI (p := mthN (tX f n E j)) (n := 0) (Nat.lt_trans (le1_mth _) (by decide)) (by decide)).mpr (by omega)))
  refine ps_st (S' := (61, [(2, .int (nI s20)), (0, .ref m0), (1, .int (nI j))], [.int (-1)], M1)) rfl rfl rfl ?_
  exact ps_ret rfl rfl (⟨I2, R, congrArg (fun x => some (Value.int x)) (plT_n hfl hm).symm, hR3, hEI13, hER, hi4⟩)
set_option maxHeartbeats 1000000 in
theorem rd_placesF {g : xe_G} {m0 : Nat} {q : Nat → Nat} {z : Nat × Nat} {I : rI} {R : rR} {M : mi_H} {n : Nat} {f : Nat → Int32} {tx : List (List Nat)} {cN : Nat} {A : Nat → Nat} {N mj : Nat} {E : List (Nat × Nat)} {n2 : Nat} {j : Nat} (hR : RS g m0 q z I R M) (hi18 : I 18 = some (nI n2)) (hi51 : I 51 = some 0) (hi52 : I 52 = some (nI N)) (hi53 : I 53 = some (nI mj)) (hF : FK n f I R) (hY : SYT tx cN A I R) (hP : RPV f n E tx N I R) (hEP : EP f n E) (hN : N < 65536) (hmj : mj < 65536) (hn2 : n2 ≤ 65540) (hj : j < 65536) (h1t : tg f E j = 1) (hfl : ¬ fldN (tX f n E j) = 0) : pt (mT g) 232 [.ref m0, .int (nI j)] M (fun v M' => (∃  (I' : rI) (R' : rR), v = some (.int (plT (tX f n E j))) ∧ RS g m0 q z I' R' M' ∧ eqI [0] I I' ∧ eqR [] R R' ∧ I' 0 = some 0)) := by
  refine pt_in (b := mb_232 g) rfl (fun kf => ?_)
  show pl (mT g) kf (mb_232 g).2 (0, [(0, .ref m0), (1, .int (nI j))], [], M) _
  have hEI : eqI [0] I I := eqI.rf
  have hER : eqR [] R R := eqR.rf
  have hn := hF.1
  have hlx := tx_len f n E j
  have hf9 := (fld_sh hfl).2
  refine ps_st (S' := (1, [(0, .ref m0), (1, .int (nI j))], [.ref m0], M)) rfl rfl rfl ?_
  refine ps_st (S' := (2, [(0, .ref m0), (1, .int (nI j))], [.int 0, .ref m0], M)) rfl rfl rfl ?_
  refine pr_put (j := 0) rfl hR rfl (fun M1 I2 hR3 hi4 hI5 => ?_)
  have hi6 := (hI5 18 (by decide)).trans hi18
  have hi7 := (hI5 51 (by decide)).trans hi51
  have hi8 := (hI5 52 (by decide)).trans hi52
  have hi9 := (hI5 53 (by decide)).trans hi53
  have hF_10 := hF.mono (pIx hI5 (by decide)) (fun _ _ => rfl)
  have hY_11 := hY.mono (pIx hI5 (by decide)) (fun _ _ => rfl)
  have hP_12 := hP.mono (pIx hI5 (by decide)) (fun _ _ => rfl)
  have hEI13 := hEI.put hI5 (by decide)
  show pl _ _ _ (5, [(0, .ref m0), (1, .int (nI j))], [], M1) _
  refine ps_st (S' := (6, [(0, .ref m0), (1, .int (nI j))], [.ref m0], M1)) rfl rfl rfl ?_
  refine pr_int (j := 18) (S' := (9, [(0, .ref m0), (1, .int (nI j))], [.int (nI n2)], M1)) rfl hR3 rfl hi6 rfl ?_
  refine ps_if (S1 := (21, [], [], M1)) (S2 := (12, [(0, .ref m0), (1, .int (nI j))], [], M1)) rfl rfl rfl (fun c_9 => ?_) (fun c_9 => ?_)
  · exact absurd (of_decide_eq_true c_9) (show ¬ ((nI n2) < 0) from fun h9 => absurd ((lt_nI (p := n2) (n := 0) (by omega) (by decide)).mp h9) (by omega))
  refine ps_st (S' := (13, [(0, .ref m0), (1, .int (nI j))], [.ref m0], M1)) rfl rfl rfl ?_
  refine ps_st (S' := (14, [(0, .ref m0), (1, .int (nI j))], [.int (nI j), .ref m0], M1)) rfl rfl rfl ?_
  refine pl_call (a := [.ref m0, .int (nI j)]) (rest := []) rfl rfl rfl (rd_tag (n := n) (f := f) (tx := tx) (cN := cN) (A := A) (N := N) (mj := mj) (E := E) (k := j) hR3 hi7 hi8 hi9 hF_10 hY_11 hP_12 (hEP) (hN) (hmj) (by omega)) (fun v14 M15 q16 => ?_)
  obtain ⟨rfl, rfl⟩ := q16
  show pl _ _ _ (17, [(0, .ref m0), (1, .int (nI j))], [.int (nI (tg f E j))], M1) _
  have htg_14 := tg_lt f E j
  refine ps_st (S' := (18, [(0, .ref m0), (1, .int (nI j))], [.int 1, .int (nI (tg f E j))], M1)) rfl rfl rfl ?_
  refine ps_if2 (S1 := (23, [(0, .ref m0), (1, .int (nI j))], [], M1)) (S2 := (21, [], [], M1)) rfl rfl rfl (fun c_18 => ?_) (fun c_18 => ?_)
  rotate_left
  · exact absurd (by rw [h1t]; rfl) (of_decide_eq_false c_18)
  refine ps_st (S' := (24, [(0, .ref m0), (1, .int (nI j))], [.ref m0], M1)) rfl rfl rfl ?_
  refine ps_st (S' := (25, [(0, .ref m0), (1, .int (nI j))], [.int (nI j), .ref m0], M1)) rfl rfl rfl ?_
  refine pl_call (a := [.ref m0, .int (nI j)]) (rest := []) rfl rfl rfl (rd_symOf (n := n) (f := f) (tx := tx) (cN := cN) (A := A) (N := N) (mj := mj) (E := E) (k := j) hR3 hi7 hi8 hi9 hF_10 hY_11 hP_12 (hEP) (hN) (hmj) (by omega)) (fun v17 M18 q19 => ?_)
  obtain ⟨s20, q25_s, rfl, rfl⟩ := q19
  show pl _ _ _ (28, [(0, .ref m0), (1, .int (nI j))], [.int (nI s20)], M1) _
  have hsl_25 := q25_s.1
  have htl_25 := hY_11.1.2.2.1
  refine ps_st (S' := (29, [(2, .int (nI s20)), (0, .ref m0), (1, .int (nI j))], [], M1)) rfl rfl rfl ?_
  refine ps_st (S' := (30, [(2, .int (nI s20)), (0, .ref m0), (1, .int (nI j))], [.ref m0], M1)) rfl rfl rfl ?_
  refine ps_st (S' := (31, [(2, .int (nI s20)), (0, .ref m0), (1, .int (nI j))], [.int (nI s20), .ref m0], M1)) rfl rfl rfl ?_
  refine pl_call (a := [.ref m0, .int (nI s20)]) (rest := []) rfl rfl rfl (rd_isField (tx := tx) (cN := cN) (A := A) (s := s20) (l := (tX f n E j)) hR3 hY_11 (q25_s)) (fun v21 M22 q23 => ?_)
  obtain ⟨rfl, rfl⟩ := q23
  show pl _ _ _ (34, [(2, .int (nI s20)), (0, .ref m0), (1, .int (nI j))], [.int (nI (fldN (tX f n E j)))], M1) _
  refine ps_if (S1 := (52, [(2, .int (nI s20)), (0, .ref m0), (1, .int (nI j))], [], M1)) (S2 := (37, [(2, .int (nI s20)), (0, .ref m0), (1, .int (nI j))], [], M1)) rfl rfl rfl (fun c_34 => ?_) (fun c_34 => ?_)
  · exact absurd (of_decide_eq_true c_34) (show ¬ ((nI (fldN (tX f n E j))) = 0) from fun h9 => absurd ((eq_nI (p := fldN (tX f n E j)) (n := 0) (Nat.lt_trans (le1_fld _) (by decide)) (by decide)).mp h9) (by omega))
  refine ps_st (S' := (38, [(2, .int (nI s20)), (0, .ref m0), (1, .int (nI j))], [.ref m0], M1)) rfl rfl rfl ?_
  refine ps_st (S' := (39, [(2, .int (nI s20)), (0, .ref m0), (1, .int (nI j))], [.int (nI s20), .ref m0], M1)) rfl rfl rfl ?_
  refine ps_st (S' := (40, [(2, .int (nI s20)), (0, .ref m0), (1, .int (nI j))], [.int 0, .int (nI s20), .ref m0], M1)) rfl rfl rfl ?_
  refine pl_call (a := [.ref m0, .int (nI s20), .int 0]) (rest := []) rfl rfl rfl (rd_wide (tx := tx) (cN := cN) (A := A) (s := s20) (l := (tX f n E j)) (k := 0) hR3 hY_11 (q25_s) (by omega)) (fun v24 M25 q26 => ?_)
  obtain ⟨rfl, rfl⟩ := q26
  show pl _ _ _ (43, [(2, .int (nI s20)), (0, .ref m0), (1, .int (nI j))], [.int (nI (wdN ((tX f n E j).getD 0 0)))], M1) _
  have hw_40 := le1_wd ((tX f n E j).getD 0 0)
  refine ps_if (S1 := (50, [(2, .int (nI s20)), (0, .ref m0), (1, .int (nI j))], [], M1)) (S2 := (46, [(2, .int (nI s20)), (0, .ref m0), (1, .int (nI j))], [], M1)) rfl rfl rfl (fun c_43 => ?_) (fun c_43 => ?_)
  · have c_43 : (nI (wdN ((tX f n E j).getD 0 0))) = 0 := of_decide_eq_true c_43
    have n_43 : wdN ((tX f n E j).getD 0 0) = 0 := (eq_nI (p := wdN ((tX f n E j).getD 0 0)) (n := 0) (Nat.lt_trans (le1_wd _) (by decide)) (by decide)).mp c_43
    refine ps_st (S' := (51, [], [.int 1], M1)) rfl rfl rfl ?_
    exact ps_ret rfl rfl (⟨I2, R, congrArg (fun x => some (Value.int x)) (plT_f (t := 1) hfl (by rw [pW_wd]; omega) rfl), hR3, hEI13, hER, hi4⟩)
  · have c_43 : ¬ ((nI (wdN ((tX f n E j).getD 0 0))) = 0) := of_decide_eq_false c_43
    have n_43 : ¬ (wdN ((tX f n E j).getD 0 0) = 0) := fun h9 => c_43 ((eq_nI (p := wdN ((tX f n E j).getD 0 0)) (n := 0) (Nat.lt_trans (le1_wd _) (by decide)) (by decide)).mpr h9)
    refine ps_st (S' := (47, [(2, .int (nI s20)), (0, .ref m0), (1, .int (nI j))], [.int 2], M1)) rfl rfl rfl ?_
    refine ps_st (S' := (51, [], [.int 2], M1)) rfl rfl rfl ?_
    exact ps_ret rfl rfl (⟨I2, R, congrArg (fun x => some (Value.int x)) (plT_f (t := 2) hfl (by rw [pW_wd]; omega) rfl), hR3, hEI13, hER, hi4⟩)
set_option maxHeartbeats 1000000 in
theorem rd_placesM {g : xe_G} {m0 : Nat} {q : Nat → Nat} {z : Nat × Nat} {I : rI} {R : rR} {M : mi_H} {n : Nat} {f : Nat → Int32} {tx : List (List Nat)} {cN : Nat} {A : Nat → Nat} {N mj : Nat} {E : List (Nat × Nat)} {n2 : Nat} {j k0 W : Nat} (hR : RS g m0 q z I R M) (hi18 : I 18 = some (nI n2)) (hi51 : I 51 = some 0) (hi52 : I 52 = some (nI N)) (hi53 : I 53 = some (nI mj)) (hF : FK n f I R) (hY : SYT tx cN A I R) (hP : RPV f n E tx N I R) (hEP : EP f n E) (hN : N < 65536) (hmj : mj < 65536) (hn2 : n2 ≤ 65540) (hj : j < 65536) (h1t : tg f E j = 1) (hfl : fldN (tX f n E j) = 0) (hm : ¬ mthN (tX f n E j) = 0) (hpl : s_pl (fun i => (tX f n E j).getD i 0) (tX f n E j).length ((tX f n E j).length - 1) 1 0 = some (k0, W)) (hk0 : k0 + 1 < (tX f n E j).length ∧ 1 ≤ k0 ∧ (tX f n E j).getD k0 0 = 41) (hW : W ≤ 255) : pt (mT g) 232 [.ref m0, .int (nI j)] M (fun v M' => (∃  (I' : rI) (R' : rR), v = some (.int (plT (tX f n E j))) ∧ RS g m0 q z I' R' M' ∧ eqI [0] I I' ∧ eqR [] R R' ∧ I' 0 = some 0)) := by
  refine pt_in (b := mb_232 g) rfl (fun kf => ?_)
  show pl (mT g) kf (mb_232 g).2 (0, [(0, .ref m0), (1, .int (nI j))], [], M) _
  have hEI : eqI [0] I I := eqI.rf
  have hER : eqR [] R R := eqR.rf
  have hn := hF.1
  have hlx := tx_len f n E j
  have LL : ∀ (kf : Nat), (∀ (s r w : Nat) (M1 : mi_H) (I1 : rI) (R1 : rR), (RS g m0 q z I1 R1 M1) → (eqI [0] I I1) → (eqR [] R R1) → (I1 0 = some 0) → (SYT tx cN A I1 R1) → (s < tx.length ∧ tx.getD s [] = tX f n E j) → (1 ≤ r ∧ r ≤ (tX f n E j).length) → (s_pl (fun i => (tX f n E j).getD i 0) (tX f n E j).length ((tX f n E j).length - r) r w = some (k0, W)) →  pl (mT g) kf (mb_232 g).2 (73, [(0, .ref m0), (2, .int (nI s)), (3, .int (nI ((tX f n E j).length - 1))), (4, .int (nI r))], [], M1) (fun v M' => (∃  (I' : rI) (R' : rR), v = some (.int (plT (tX f n E j))) ∧ RS g m0 q z I' R' M' ∧ eqI [0] I I' ∧ eqR [] R R' ∧ I' 0 = some 0))) := by
    intro kf
    induction kf with
    | zero => exact (by intros; exact pl_0)
    | succ kf ih =>
      intro s r w M1 I1 R1 hR1 hEI1 hER1 hl0 hY1 hs hr hp
      have hlt : r < (tX f n E j).length := Nat.not_le.mp (fun h9 => by rw [s_pl_0 (by omega)] at hp; cases hp; omega)
      have hts := hY1.1.2.2
      refine ps_st1 (S' := (74, [(0, .ref m0), (2, .int (nI s)), (3, .int (nI ((tX f n E j).length - 1))), (4, .int (nI r))], [.ref m0], M1)) rfl rfl rfl ?_
      refine ps_st (S' := (75, [(0, .ref m0), (2, .int (nI s)), (3, .int (nI ((tX f n E j).length - 1))), (4, .int (nI r))], [.int (nI s), .ref m0], M1)) rfl rfl rfl ?_
      refine ps_st (S' := (77, [(0, .ref m0), (2, .int (nI s)), (3, .int (nI ((tX f n E j).length - 1))), (4, .int (nI r))], [.int (nI r), .int (nI s), .ref m0], M1)) rfl rfl rfl ?_
      refine pl_call (a := [.ref m0, .int (nI s), .int (nI r)]) (rest := []) rfl rfl rfl (rd_at (tx := tx) (cN := cN) (A := A) (s := s) (l := (tX f n E j)) (k := r) hR1 hY1 (hs) (by omega)) (fun v1 M2 q3 => ?_)
      obtain ⟨rfl, rfl⟩ := q3
      show pl _ _ _ (80, [(0, .ref m0), (2, .int (nI s)), (3, .int (nI ((tX f n E j).length - 1))), (4, .int (nI r))], [.int (nI ((tX f n E j).getD r 0))], M1) _
      have hc_77 := hY1.ch hs (k := r) (by omega)
      refine ps_st (S' := (82, [(0, .ref m0), (2, .int (nI s)), (3, .int (nI ((tX f n E j).length - 1))), (4, .int (nI r))], [.int 41, .int (nI ((tX f n E j).getD r 0))], M1)) rfl rfl rfl ?_
      refine ps_if2 (S1 := (97, [(0, .ref m0), (2, .int (nI s)), (3, .int (nI ((tX f n E j).length - 1))), (4, .int (nI r))], [], M1)) (S2 := (85, [(0, .ref m0), (2, .int (nI s)), (3, .int (nI ((tX f n E j).length - 1))), (4, .int (nI r))], [], M1)) rfl rfl rfl (fun c_82 => ?_) (fun c_82 => ?_)
      · have c_82 : (nI ((tX f n E j).getD r 0)) = 41 := of_decide_eq_true c_82
        have n_82 : (tX f n E j).getD r 0 = 41 := (eq_nI (p := (tX f n E j).getD r 0) (n := 41) (Nat.lt_trans (tx_ch _ _ _ _ _) (by decide)) (by decide)).mp c_82
        have er9 : r = k0 ∧ w = W := by rw [s_pl_0 (by omega)] at hp; cases hp; exact ⟨rfl, rfl⟩
        refine ps_st (S' := (98, [(0, .ref m0), (2, .int (nI s)), (3, .int (nI ((tX f n E j).length - 1))), (4, .int (nI r))], [.ref m0], M1)) rfl rfl rfl ?_
        refine ps_st (S' := (99, [(0, .ref m0), (2, .int (nI s)), (3, .int (nI ((tX f n E j).length - 1))), (4, .int (nI r))], [.int (nI s), .ref m0], M1)) rfl rfl rfl ?_
        refine pl_call (a := [.ref m0, .int (nI s)]) (rest := []) rfl rfl rfl (rd_places0 (tx := tx) (cN := cN) (A := A) (s := s) (l := (tX f n E j)) (k0 := k0) (W := W) hR1 hY1 (hs) (hpl) (⟨by omega, hk0.2.2⟩)) (fun v4 M5 q6 => ?_)
        obtain ⟨rfl, rfl⟩ := q6
        show pl _ _ _ (102, [(0, .ref m0), (2, .int (nI s)), (3, .int (nI ((tX f n E j).length - 1))), (4, .int (nI r))], [.int (nI (W))], M1) _
        refine ps_st (S' := (105, [(0, .ref m0), (2, .int (nI s)), (3, .int (nI ((tX f n E j).length - 1))), (4, .int (nI r))], [.int 1024, .int (nI (W))], M1)) rfl rfl rfl ?_
        refine ps_st (S' := (106, [(0, .ref m0), (2, .int (nI s)), (3, .int (nI ((tX f n E j).length - 1))), (4, .int (nI r))], [.ref m0, .int 1024, .int (nI (W))], M1)) rfl rfl rfl ?_
        refine ps_st (S' := (107, [(0, .ref m0), (2, .int (nI s)), (3, .int (nI ((tX f n E j).length - 1))), (4, .int (nI r))], [.int (nI s), .ref m0, .int 1024, .int (nI (W))], M1)) rfl rfl rfl ?_
        refine ps_st (S' := (108, [(0, .ref m0), (2, .int (nI s)), (3, .int (nI ((tX f n E j).length - 1))), (4, .int (nI r))], [.int (nI ((tX f n E j).length - 1)), .int (nI s), .ref m0, .int 1024, .int (nI (W))], M1)) rfl rfl rfl ?_
        refine pl_call (a := [.ref m0, .int (nI s), .int (nI ((tX f n E j).length - 1))]) (rest := [.int 1024, .int (nI (W))]) rfl rfl rfl (rd_at (tx := tx) (cN := cN) (A := A) (s := s) (l := (tX f n E j)) (k := ((tX f n E j).length - 1)) hR1 hY1 (hs) (by omega)) (fun v7 M8 q9 => ?_)
        obtain ⟨rfl, rfl⟩ := q9
        show pl _ _ _ (111, [(0, .ref m0), (2, .int (nI s)), (3, .int (nI ((tX f n E j).length - 1))), (4, .int (nI r))], [.int (nI ((tX f n E j).getD ((tX f n E j).length - 1) 0)), .int 1024, .int (nI (W))], M1) _
        have hc_108 := hY1.ch hs (k := (tX f n E j).length - 1) (by omega)
        refine ps_st (S' := (113, [(0, .ref m0), (2, .int (nI s)), (3, .int (nI ((tX f n E j).length - 1))), (4, .int (nI r))], [.int 86, .int (nI ((tX f n E j).getD ((tX f n E j).length - 1) 0)), .int 1024, .int (nI (W))], M1)) rfl rfl rfl ?_
        refine ps_if2 (S1 := (128, [(0, .ref m0), (2, .int (nI s)), (4, .int (nI r))], [.int 1024, .int (nI (W))], M1)) (S2 := (116, [(0, .ref m0), (2, .int (nI s)), (3, .int (nI ((tX f n E j).length - 1))), (4, .int (nI r))], [.int 1024, .int (nI (W))], M1)) rfl rfl rfl (fun c_113 => ?_) (fun c_113 => ?_)
        · have c_113 : ¬ (nI ((tX f n E j).getD ((tX f n E j).length - 1) 0)) = 86 := of_decide_eq_true c_113
          have n_113 : ¬ ((tX f n E j).getD ((tX f n E j).length - 1) 0 = 86) := fun h9 => c_113 ((eq_nI (p := (tX f n E j).getD ((tX f n E j).length - 1) 0) (n := 86) (by omega) (by decide)).mpr h9)
          refine ps_st (S' := (129, [(0, .ref m0), (2, .int (nI s)), (4, .int (nI r))], [.ref m0, .int 1024, .int (nI (W))], M1)) rfl rfl rfl ?_
          refine ps_st (S' := (130, [(0, .ref m0), (2, .int (nI s)), (4, .int (nI r))], [.int (nI s), .ref m0, .int 1024, .int (nI (W))], M1)) rfl rfl rfl ?_
          refine ps_st (S' := (132, [(0, .ref m0), (2, .int (nI s)), (4, .int (nI r))], [.int (nI r), .int (nI s), .ref m0, .int 1024, .int (nI (W))], M1)) rfl rfl rfl ?_
          refine ps_st (S' := (133, [(0, .ref m0), (2, .int (nI s)), (4, .int (nI r))], [.int 1, .int (nI r), .int (nI s), .ref m0, .int 1024, .int (nI (W))], M1)) rfl rfl rfl ?_
          refine ps_st (S' := (134, [(0, .ref m0), (2, .int (nI s)), (4, .int (nI r))], [.int ((nI r) + 1), .int (nI s), .ref m0, .int 1024, .int (nI (W))], M1)) rfl rfl rfl ?_
          rw [nI_add1 (p := r) (k := 1) (x := 1) rfl (by omega)]
          show pl _ _ _ (_, [(0, .ref m0), (2, .int (nI s)), (4, .int (nI r))], [.int (nI (r + 1)), .int (nI s), .ref m0, .int 1024, .int (nI (W))], M1) _
          refine pl_call (a := [.ref m0, .int (nI s), .int (nI (r + 1))]) (rest := [.int 1024, .int (nI (W))]) rfl rfl rfl (rd_wide (tx := tx) (cN := cN) (A := A) (s := s) (l := (tX f n E j)) (k := (r + 1)) hR1 hY1 (hs) (by omega)) (fun v10 M11 q12 => ?_)
          obtain ⟨rfl, rfl⟩ := q12
          show pl _ _ _ (137, [(0, .ref m0), (2, .int (nI s)), (4, .int (nI r))], [.int (nI (wdN ((tX f n E j).getD (r + 1) 0))), .int 1024, .int (nI (W))], M1) _
          have hw_134 := le1_wd ((tX f n E j).getD (r + 1) 0)
          refine ps_if (S1 := (144, [(0, .ref m0), (2, .int (nI s)), (4, .int (nI r))], [.int 1024, .int (nI (W))], M1)) (S2 := (140, [(0, .ref m0), (2, .int (nI s)), (4, .int (nI r))], [.int 1024, .int (nI (W))], M1)) rfl rfl rfl (fun c_137 => ?_) (fun c_137 => ?_)
          · have c_137 : (nI (wdN ((tX f n E j).getD (r + 1) 0))) = 0 := of_decide_eq_true c_137
            have n_137 : wdN ((tX f n E j).getD (r + 1) 0) = 0 := (eq_nI (p := wdN ((tX f n E j).getD (r + 1) 0)) (n := 0) (Nat.lt_trans (le1_wd _) (by decide)) (by decide)).mp c_137
            refine ps_st (S' := (145, [], [.int 1, .int 1024, .int (nI (W))], M1)) rfl rfl rfl ?_
            refine ps_st (S' := (146, [], [.int (1024 * 1), .int (nI (W))], M1)) rfl rfl rfl ?_
            refine ps_st (S' := (147, [], [.int ((nI (W)) + (1024 * 1))], M1)) rfl rfl rfl ?_
            exact ps_reti rfl (⟨I1, R1, congrArg (fun x => some (Value.int x)) (plT_v (t := 1) hm (show s_pl (fun i => (tX f n E j).getD i 0) (tX f n E j).length ((tX f n E j).length - 1) 1 0 = some (r, W) from by rw [hpl, er9.1]) (by rw [if_neg (by omega), pW_wd]; omega) rfl), hR1, hEI1, hER1, hl0⟩)
          · have c_137 : ¬ ((nI (wdN ((tX f n E j).getD (r + 1) 0))) = 0) := of_decide_eq_false c_137
            have n_137 : ¬ (wdN ((tX f n E j).getD (r + 1) 0) = 0) := fun h9 => c_137 ((eq_nI (p := wdN ((tX f n E j).getD (r + 1) 0)) (n := 0) (Nat.lt_trans (le1_wd _) (by decide)) (by decide)).mpr h9)
            refine ps_st (S' := (141, [(0, .ref m0), (2, .int (nI s)), (4, .int (nI r))], [.int 2, .int 1024, .int (nI (W))], M1)) rfl rfl rfl ?_
            refine ps_st (S' := (145, [], [.int 2, .int 1024, .int (nI (W))], M1)) rfl rfl rfl ?_
            refine ps_st (S' := (146, [], [.int (1024 * 2), .int (nI (W))], M1)) rfl rfl rfl ?_
            refine ps_st (S' := (147, [], [.int ((nI (W)) + (1024 * 2))], M1)) rfl rfl rfl ?_
            exact ps_reti rfl (⟨I1, R1, congrArg (fun x => some (Value.int x)) (plT_v (t := 2) hm (show s_pl (fun i => (tX f n E j).getD i 0) (tX f n E j).length ((tX f n E j).length - 1) 1 0 = some (r, W) from by rw [hpl, er9.1]) (by rw [if_neg (by omega), pW_wd]; omega) rfl), hR1, hEI1, hER1, hl0⟩)
        · have c_113 : ¬ (¬ (nI ((tX f n E j).getD ((tX f n E j).length - 1) 0)) = 86) := of_decide_eq_false c_113
          have n_113 : (tX f n E j).getD ((tX f n E j).length - 1) 0 = 86 := (eq_nI (p := (tX f n E j).getD ((tX f n E j).length - 1) 0) (n := 86) (by omega) (by decide)).mp (Decidable.not_not.mp c_113)
          refine ps_st (S' := (117, [(0, .ref m0), (2, .int (nI s)), (3, .int (nI ((tX f n E j).length - 1))), (4, .int (nI r))], [.int (nI ((tX f n E j).length - 1)), .int 1024, .int (nI (W))], M1)) rfl rfl rfl ?_
          refine ps_st (S' := (119, [(0, .ref m0), (2, .int (nI s)), (3, .int (nI ((tX f n E j).length - 1))), (4, .int (nI r))], [.int (nI r), .int (nI ((tX f n E j).length - 1)), .int 1024, .int (nI (W))], M1)) rfl rfl rfl ?_
          refine ps_st (S' := (120, [(0, .ref m0), (2, .int (nI s)), (3, .int (nI ((tX f n E j).length - 1))), (4, .int (nI r))], [.int 1, .int (nI r), .int (nI ((tX f n E j).length - 1)), .int 1024, .int (nI (W))], M1)) rfl rfl rfl ?_
          refine ps_st (S' := (121, [(0, .ref m0), (2, .int (nI s)), (3, .int (nI ((tX f n E j).length - 1))), (4, .int (nI r))], [.int ((nI r) + 1), .int (nI ((tX f n E j).length - 1)), .int 1024, .int (nI (W))], M1)) rfl rfl rfl ?_
          rw [nI_add1 (p := r) (k := 1) (x := 1) rfl (by omega)]
          show pl _ _ _ (_, [(0, .ref m0), (2, .int (nI s)), (3, .int (nI ((tX f n E j).length - 1))), (4, .int (nI r))], [.int (nI (r + 1)), .int (nI ((tX f n E j).length - 1)), .int 1024, .int (nI (W))], M1) _
          refine ps_if2 (S1 := (128, [(0, .ref m0), (2, .int (nI s)), (4, .int (nI r))], [.int 1024, .int (nI (W))], M1)) (S2 := (124, [(0, .ref m0), (2, .int (nI s)), (3, .int (nI ((tX f n E j).length - 1))), (4, .int (nI r))], [.int 1024, .int (nI (W))], M1)) rfl rfl rfl (fun c_121 => ?_) (fun c_121 => ?_)
          · have c_121 : ¬ (nI ((tX f n E j).length - 1)) = (nI (r + 1)) := of_decide_eq_true c_121
            have n_121 : ¬ ((tX f n E j).length - 1 = r + 1) := fun h9 => c_121 ((eq_nI (p := (tX f n E j).length - 1) (n := r + 1) (by omega) (by omega)).mpr h9)
            refine ps_st (S' := (129, [(0, .ref m0), (2, .int (nI s)), (4, .int (nI r))], [.ref m0, .int 1024, .int (nI (W))], M1)) rfl rfl rfl ?_
            refine ps_st (S' := (130, [(0, .ref m0), (2, .int (nI s)), (4, .int (nI r))], [.int (nI s), .ref m0, .int 1024, .int (nI (W))], M1)) rfl rfl rfl ?_
            refine ps_st (S' := (132, [(0, .ref m0), (2, .int (nI s)), (4, .int (nI r))], [.int (nI r), .int (nI s), .ref m0, .int 1024, .int (nI (W))], M1)) rfl rfl rfl ?_
            refine ps_st (S' := (133, [(0, .ref m0), (2, .int (nI s)), (4, .int (nI r))], [.int 1, .int (nI r), .int (nI s), .ref m0, .int 1024, .int (nI (W))], M1)) rfl rfl rfl ?_
            refine ps_st (S' := (134, [(0, .ref m0), (2, .int (nI s)), (4, .int (nI r))], [.int ((nI r) + 1), .int (nI s), .ref m0, .int 1024, .int (nI (W))], M1)) rfl rfl rfl ?_
            rw [nI_add1 (p := r) (k := 1) (x := 1) rfl (by omega)]
            show pl _ _ _ (_, [(0, .ref m0), (2, .int (nI s)), (4, .int (nI r))], [.int (nI (r + 1)), .int (nI s), .ref m0, .int 1024, .int (nI (W))], M1) _
            refine pl_call (a := [.ref m0, .int (nI s), .int (nI (r + 1))]) (rest := [.int 1024, .int (nI (W))]) rfl rfl rfl (rd_wide (tx := tx) (cN := cN) (A := A) (s := s) (l := (tX f n E j)) (k := (r + 1)) hR1 hY1 (hs) (by omega)) (fun v13 M14 q15 => ?_)
            obtain ⟨rfl, rfl⟩ := q15
            show pl _ _ _ (137, [(0, .ref m0), (2, .int (nI s)), (4, .int (nI r))], [.int (nI (wdN ((tX f n E j).getD (r + 1) 0))), .int 1024, .int (nI (W))], M1) _
            have hw_134 := le1_wd ((tX f n E j).getD (r + 1) 0)
            refine ps_if (S1 := (144, [(0, .ref m0), (2, .int (nI s)), (4, .int (nI r))], [.int 1024, .int (nI (W))], M1)) (S2 := (140, [(0, .ref m0), (2, .int (nI s)), (4, .int (nI r))], [.int 1024, .int (nI (W))], M1)) rfl rfl rfl (fun c_137 => ?_) (fun c_137 => ?_)
            · have c_137 : (nI (wdN ((tX f n E j).getD (r + 1) 0))) = 0 := of_decide_eq_true c_137
              have n_137 : wdN ((tX f n E j).getD (r + 1) 0) = 0 := (eq_nI (p := wdN ((tX f n E j).getD (r + 1) 0)) (n := 0) (Nat.lt_trans (le1_wd _) (by decide)) (by decide)).mp c_137
              refine ps_st (S' := (145, [], [.int 1, .int 1024, .int (nI (W))], M1)) rfl rfl rfl ?_
              refine ps_st (S' := (146, [], [.int (1024 * 1), .int (nI (W))], M1)) rfl rfl rfl ?_
              refine ps_st (S' := (147, [], [.int ((nI (W)) + (1024 * 1))], M1)) rfl rfl rfl ?_
              exact ps_reti rfl (⟨I1, R1, congrArg (fun x => some (Value.int x)) (plT_v (t := 1) hm (show s_pl (fun i => (tX f n E j).getD i 0) (tX f n E j).length ((tX f n E j).length - 1) 1 0 = some (r, W) from by rw [hpl, er9.1]) (by rw [if_neg (by omega), pW_wd]; omega) rfl), hR1, hEI1, hER1, hl0⟩)
            · have c_137 : ¬ ((nI (wdN ((tX f n E j).getD (r + 1) 0))) = 0) := of_decide_eq_false c_137
              have n_137 : ¬ (wdN ((tX f n E j).getD (r + 1) 0) = 0) := fun h9 => c_137 ((eq_nI (p := wdN ((tX f n E j).getD (r + 1) 0)) (n := 0) (Nat.lt_trans (le1_wd _) (by decide)) (by decide)).mpr h9)
              refine ps_st (S' := (141, [(0, .ref m0), (2, .int (nI s)), (4, .int (nI r))], [.int 2, .int 1024, .int (nI (W))], M1)) rfl rfl rfl ?_
              refine ps_st (S' := (145, [], [.int 2, .int 1024, .int (nI (W))], M1)) rfl rfl rfl ?_
              refine ps_st (S' := (146, [], [.int (1024 * 2), .int (nI (W))], M1)) rfl rfl rfl ?_
              refine ps_st (S' := (147, [], [.int ((nI (W)) + (1024 * 2))], M1)) rfl rfl rfl ?_
              exact ps_reti rfl (⟨I1, R1, congrArg (fun x => some (Value.int x)) (plT_v (t := 2) hm (show s_pl (fun i => (tX f n E j).getD i 0) (tX f n E j).length ((tX f n E j).length - 1) 1 0 = some (r, W) from by rw [hpl, er9.1]) (by rw [if_neg (by omega), pW_wd]; omega) rfl), hR1, hEI1, hER1, hl0⟩)
          · have c_121 : ¬ (¬ (nI ((tX f n E j).length - 1)) = (nI (r + 1))) := of_decide_eq_false c_121
            have n_121 : (tX f n E j).length - 1 = r + 1 := (eq_nI (p := (tX f n E j).length - 1) (n := r + 1) (by omega) (by omega)).mp (Decidable.not_not.mp c_121)
            refine ps_st (S' := (125, [(0, .ref m0), (2, .int (nI s)), (3, .int (nI ((tX f n E j).length - 1))), (4, .int (nI r))], [.int 0, .int 1024, .int (nI (W))], M1)) rfl rfl rfl ?_
            refine ps_st (S' := (145, [], [.int 0, .int 1024, .int (nI (W))], M1)) rfl rfl rfl ?_
            refine ps_st (S' := (146, [], [.int (1024 * 0), .int (nI (W))], M1)) rfl rfl rfl ?_
            refine ps_st (S' := (147, [], [.int ((nI (W)) + (1024 * 0))], M1)) rfl rfl rfl ?_
            exact ps_reti rfl (⟨I1, R1, congrArg (fun x => some (Value.int x)) (plT_v (t := 0) hm (show s_pl (fun i => (tX f n E j).getD i 0) (tX f n E j).length ((tX f n E j).length - 1) 1 0 = some (r, W) from by rw [hpl, er9.1]) ((if_pos ⟨by omega, by omega⟩).symm) rfl), hR1, hEI1, hER1, hl0⟩)
      · have c_82 : ¬ ((nI ((tX f n E j).getD r 0)) = 41) := of_decide_eq_false c_82
        have n_82 : ¬ ((tX f n E j).getD r 0 = 41) := fun h9 => c_82 ((eq_nI (p := (tX f n E j).getD r 0) (n := 41) (Nat.lt_trans (tx_ch _ _ _ _ _) (by decide)) (by decide)).mpr h9)
        refine ps_st (S' := (86, [(0, .ref m0), (2, .int (nI s)), (3, .int (nI ((tX f n E j).length - 1))), (4, .int (nI r))], [.ref m0], M1)) rfl rfl rfl ?_
        refine ps_st (S' := (87, [(0, .ref m0), (2, .int (nI s)), (3, .int (nI ((tX f n E j).length - 1))), (4, .int (nI r))], [.int (nI s), .ref m0], M1)) rfl rfl rfl ?_
        refine ps_st (S' := (89, [(0, .ref m0), (2, .int (nI s)), (3, .int (nI ((tX f n E j).length - 1))), (4, .int (nI r))], [.int (nI r), .int (nI s), .ref m0], M1)) rfl rfl rfl ?_
        refine pl_call (a := [.ref m0, .int (nI s), .int (nI r)]) (rest := []) rfl rfl rfl (rd_fieldText (tx := tx) (cN := cN) (A := A) (s := s) (l := (tX f n E j)) (a := r) hR1 hY1 (hs) (by omega)) (fun v16 M17 q18 => ?_)
        rcases q18 with q18 | q18
        · skip
          obtain ⟨q89_s, rfl, rfl⟩ := q18
          show pl _ _ _ (92, [(0, .ref m0), (2, .int (nI s)), (3, .int (nI ((tX f n E j).length - 1))), (4, .int (nI r))], [.int (-1)], M1) _
          rw [s_pl_bad (by omega) q89_s] at hp
          cases hp
        · skip
          obtain ⟨x19, q89_s, q89_l, rfl, rfl⟩ := q18
          show pl _ _ _ (92, [(0, .ref m0), (2, .int (nI s)), (3, .int (nI ((tX f n E j).length - 1))), (4, .int (nI r))], [.int (nI x19)], M1) _
          refine ps_st (S' := (94, [(4, .int (nI x19)), (0, .ref m0), (2, .int (nI s)), (3, .int (nI ((tX f n E j).length - 1)))], [], M1)) rfl rfl rfl ?_
          refine ps_st (S' := (73, [(0, .ref m0), (2, .int (nI s)), (3, .int (nI ((tX f n E j).length - 1))), (4, .int (nI x19))], [], M1)) rfl rfl rfl ?_
          exact ih (s) (x19) (w + pW ((tX f n E j).getD r 0)) M1 I1 R1 hR1 hEI1 hER1 hl0 hY1 (hs) (by omega) (by
              rw [← hp, s_pl_step (by omega) q89_s])
  refine ps_st (S' := (1, [(0, .ref m0), (1, .int (nI j))], [.ref m0], M)) rfl rfl rfl ?_
  refine ps_st (S' := (2, [(0, .ref m0), (1, .int (nI j))], [.int 0, .ref m0], M)) rfl rfl rfl ?_
  refine pr_put (j := 0) rfl hR rfl (fun M20 I21 hR22 hi23 hI24 => ?_)
  have hi25 := (hI24 18 (by decide)).trans hi18
  have hi26 := (hI24 51 (by decide)).trans hi51
  have hi27 := (hI24 52 (by decide)).trans hi52
  have hi28 := (hI24 53 (by decide)).trans hi53
  have hF_29 := hF.mono (pIx hI24 (by decide)) (fun _ _ => rfl)
  have hY_30 := hY.mono (pIx hI24 (by decide)) (fun _ _ => rfl)
  have hP_31 := hP.mono (pIx hI24 (by decide)) (fun _ _ => rfl)
  have hEI32 := hEI.put hI24 (by decide)
  show pl _ _ _ (5, [(0, .ref m0), (1, .int (nI j))], [], M20) _
  refine ps_st (S' := (6, [(0, .ref m0), (1, .int (nI j))], [.ref m0], M20)) rfl rfl rfl ?_
  refine pr_int (j := 18) (S' := (9, [(0, .ref m0), (1, .int (nI j))], [.int (nI n2)], M20)) rfl hR22 rfl hi25 rfl ?_
  refine ps_if (S1 := (21, [], [], M20)) (S2 := (12, [(0, .ref m0), (1, .int (nI j))], [], M20)) rfl rfl rfl (fun c_9 => ?_) (fun c_9 => ?_)
  · exact absurd (of_decide_eq_true c_9) (show ¬ ((nI n2) < 0) from fun h9 => absurd ((lt_nI (p := n2) (n := 0) (by omega) (by decide)).mp h9) (by omega))
  refine ps_st (S' := (13, [(0, .ref m0), (1, .int (nI j))], [.ref m0], M20)) rfl rfl rfl ?_
  refine ps_st (S' := (14, [(0, .ref m0), (1, .int (nI j))], [.int (nI j), .ref m0], M20)) rfl rfl rfl ?_
  refine pl_call (a := [.ref m0, .int (nI j)]) (rest := []) rfl rfl rfl (rd_tag (n := n) (f := f) (tx := tx) (cN := cN) (A := A) (N := N) (mj := mj) (E := E) (k := j) hR22 hi26 hi27 hi28 hF_29 hY_30 hP_31 (hEP) (hN) (hmj) (by omega)) (fun v33 M34 q35 => ?_)
  obtain ⟨rfl, rfl⟩ := q35
  show pl _ _ _ (17, [(0, .ref m0), (1, .int (nI j))], [.int (nI (tg f E j))], M20) _
  have htg_14 := tg_lt f E j
  refine ps_st (S' := (18, [(0, .ref m0), (1, .int (nI j))], [.int 1, .int (nI (tg f E j))], M20)) rfl rfl rfl ?_
  refine ps_if2 (S1 := (23, [(0, .ref m0), (1, .int (nI j))], [], M20)) (S2 := (21, [], [], M20)) rfl rfl rfl (fun c_18 => ?_) (fun c_18 => ?_)
  rotate_left
  · exact absurd (by rw [h1t]; rfl) (of_decide_eq_false c_18)
  refine ps_st (S' := (24, [(0, .ref m0), (1, .int (nI j))], [.ref m0], M20)) rfl rfl rfl ?_
  refine ps_st (S' := (25, [(0, .ref m0), (1, .int (nI j))], [.int (nI j), .ref m0], M20)) rfl rfl rfl ?_
  refine pl_call (a := [.ref m0, .int (nI j)]) (rest := []) rfl rfl rfl (rd_symOf (n := n) (f := f) (tx := tx) (cN := cN) (A := A) (N := N) (mj := mj) (E := E) (k := j) hR22 hi26 hi27 hi28 hF_29 hY_30 hP_31 (hEP) (hN) (hmj) (by omega)) (fun v36 M37 q38 => ?_)
  obtain ⟨s39, q25_s, rfl, rfl⟩ := q38
  show pl _ _ _ (28, [(0, .ref m0), (1, .int (nI j))], [.int (nI s39)], M20) _
  have hsl_25 := q25_s.1
  have htl_25 := hY_30.1.2.2.1
  refine ps_st (S' := (29, [(2, .int (nI s39)), (0, .ref m0), (1, .int (nI j))], [], M20)) rfl rfl rfl ?_
  refine ps_st (S' := (30, [(2, .int (nI s39)), (0, .ref m0), (1, .int (nI j))], [.ref m0], M20)) rfl rfl rfl ?_
  refine ps_st (S' := (31, [(2, .int (nI s39)), (0, .ref m0), (1, .int (nI j))], [.int (nI s39), .ref m0], M20)) rfl rfl rfl ?_
  refine pl_call (a := [.ref m0, .int (nI s39)]) (rest := []) rfl rfl rfl (rd_isField (tx := tx) (cN := cN) (A := A) (s := s39) (l := (tX f n E j)) hR22 hY_30 (q25_s)) (fun v40 M41 q42 => ?_)
  obtain ⟨rfl, rfl⟩ := q42
  show pl _ _ _ (34, [(2, .int (nI s39)), (0, .ref m0), (1, .int (nI j))], [.int (nI (fldN (tX f n E j)))], M20) _
  refine ps_if (S1 := (52, [(2, .int (nI s39)), (0, .ref m0), (1, .int (nI j))], [], M20)) (S2 := (37, [(2, .int (nI s39)), (0, .ref m0), (1, .int (nI j))], [], M20)) rfl rfl rfl (fun c_34 => ?_) (fun c_34 => ?_)
  rotate_left
  · exact absurd ((eq_nI (p := fldN (tX f n E j)) (n := 0) (Nat.lt_trans (le1_fld _) (by decide)) (by decide)).mpr (by omega)) (of_decide_eq_false c_34)
  refine ps_st (S' := (53, [(2, .int (nI s39)), (0, .ref m0), (1, .int (nI j))], [.ref m0], M20)) rfl rfl rfl ?_
  refine ps_st (S' := (54, [(2, .int (nI s39)), (0, .ref m0), (1, .int (nI j))], [.int (nI s39), .ref m0], M20)) rfl rfl rfl ?_
  refine pl_call (a := [.ref m0, .int (nI s39)]) (rest := []) rfl rfl rfl (rd_isMethod (tx := tx) (cN := cN) (A := A) (s := s39) (l := (tX f n E j)) hR22 hY_30 (q25_s)) (fun v43 M44 q45 => ?_)
  obtain ⟨rfl, rfl⟩ := q45
  show pl _ _ _ (57, [(2, .int (nI s39)), (0, .ref m0), (1, .int (nI j))], [.int (nI (mthN (tX f n E j)))], M20) _
  refine ps_if (S1 := (62, [(2, .int (nI s39)), (0, .ref m0), (1, .int (nI j))], [], M20)) (S2 := (60, [(2, .int (nI s39)), (0, .ref m0), (1, .int (nI j))], [], M20)) rfl rfl rfl (fun c_57 => ?_) (fun c_57 => ?_)
  rotate_left
  · exact absurd (show ¬ ((nI (mthN (tX f n E j))) = 0) from fun h9 => absurd ((eq_nI (p := mthN (tX f n E j)) (n := 0) (Nat.lt_trans (le1_mth _) (by decide)) (by decide)).mp h9) (by omega)) (of_decide_eq_false c_57)
  refine ps_st (S' := (63, [(2, .int (nI s39)), (0, .ref m0), (1, .int (nI j))], [.ref m0], M20)) rfl rfl rfl ?_
  refine ps_st (S' := (64, [(2, .int (nI s39)), (0, .ref m0), (1, .int (nI j))], [.int (nI s39), .ref m0], M20)) rfl rfl rfl ?_
  refine pl_call (a := [.ref m0, .int (nI s39)]) (rest := []) rfl rfl rfl (rd_length (tx := tx) (cN := cN) (A := A) (s := s39) (l := (tX f n E j)) hR22 hY_30 (q25_s)) (fun v46 M47 q48 => ?_)
  obtain ⟨rfl, rfl⟩ := q48
  show pl _ _ _ (67, [(2, .int (nI s39)), (0, .ref m0), (1, .int (nI j))], [.int (nI ((tX f n E j).length))], M20) _
  refine ps_st (S' := (68, [(2, .int (nI s39)), (0, .ref m0), (1, .int (nI j))], [.int 1, .int (nI ((tX f n E j).length))], M20)) rfl rfl rfl ?_
  refine ps_st (S' := (69, [(2, .int (nI s39)), (0, .ref m0), (1, .int (nI j))], [.int ((nI ((tX f n E j).length)) - 1)], M20)) rfl rfl rfl ?_
  rw [nI_sub1 (p := (tX f n E j).length) (k := 1) (x := 1) rfl (by omega) (by omega)]
  show pl _ _ _ (_, [(2, .int (nI s39)), (0, .ref m0), (1, .int (nI j))], [.int (nI (((tX f n E j).length) - 1))], M20) _
  refine ps_st (S' := (70, [(3, .int (nI (((tX f n E j).length) - 1))), (2, .int (nI s39)), (0, .ref m0), (1, .int (nI j))], [], M20)) rfl rfl rfl ?_
  refine ps_st (S' := (71, [(3, .int (nI (((tX f n E j).length) - 1))), (2, .int (nI s39)), (0, .ref m0), (1, .int (nI j))], [.int 1], M20)) rfl rfl rfl ?_
  refine ps_st (S' := (73, [(0, .ref m0), (2, .int (nI s39)), (3, .int (nI (((tX f n E j).length) - 1))), (4, .int 1)], [], M20)) rfl rfl rfl ?_
  exact (LL kf) (s39) (1) (0) M20 I21 R hR22 hEI32 hER hi23 hY_30 (q25_s) (by omega) (hpl)
theorem rd_places {g : xe_G} {m0 : Nat} {q : Nat → Nat} {z : Nat × Nat} {I : rI} {R : rR} {M : mi_H} {ko : Option (Nat × (Nat → Int32))} {k : Int32} (hR : RS g m0 q z I R M) (hK : KPR ko I R) : pt (mT g) 232 [.ref m0, .int k] M (fun v M' => ∃ (I' : rI) (R' : rR), v = some (.int (plK ko k)) ∧ RS g m0 q z I' R' M' ∧ eqI [0] I I' ∧ eqR [] R R' ∧ I' 0 = some 0) := by
  cases ko with
  | none =>
    obtain ⟨kn, h1, h2⟩ := hK
    exact rd_placesk hR h1 h2
  | some r =>
    obtain ⟨h1, h2, -, -, tx, cN, A, E, N, mj, p1, pF, pM, pA, k1, k2, k3, k4, k5, k6, k7, rfl, rfl, -⟩ := hK
    rw [plK_is k7]
    have hN := by2_lt r.2 8
    have hpl := whole_in k7
    have hEP := (EP_of hpl).1
    have h0 := tg_0 hpl
    unfold plX
    by_cases ht : tg r.2 E k.toNatClampNeg = 1
    · have hk0 : ¬ k < 0 := fun h9 => by rw [i32_cl h9, h0] at ht; cases ht
      have e := i32_nn hk0
      obtain ⟨j, ej⟩ : ∃ j, j = k.toNatClampNeg := ⟨_, rfl⟩
      rw [← ej] at e ht ⊢
      have hj : j < 65536 := Nat.not_le.mp (fun h9 => by
        unfold tg at ht
        rw [lk_hi k3.1 (Or.inr (by omega))] at ht
        cases ht)
      subst e
      rw [if_pos ht]
      by_cases hf : fldN (tX r.2 r.1 E j) = 0
      · by_cases hm : mthN (tX r.2 r.1 E j) = 0
        · exact rd_placesN hR h1 k4 k5 k6 k1 k2 k3 hEP hN (by2_lt _ _) h2 hj ht hf hm
        · obtain ⟨a1, a2, k0, W, a3, a4, a5, a6, a7, -⟩ := mth_in hm
          exact rd_placesM hR h1 k4 k5 k6 k1 k2 k3 hEP hN (by2_lt _ _) h2 hj ht hf hm a3 ⟨a4, a6, a7⟩ a5
      · exact rd_placesF hR h1 k4 k5 k6 k1 k2 k3 hEP hN (by2_lt _ _) h2 hj ht hf
    · rw [if_neg ht]
      exact rd_placesT hR h1 k4 k5 k6 k1 k2 k3 hEP hN (by2_lt _ _) h2 h0 ht
end
