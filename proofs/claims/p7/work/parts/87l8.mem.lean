/-! methods' heads, as the reference checks them (my own text) -/
section MMA
variable {f : Nat → Int32} {n : Nat} {E : List (Nat × Nat)} {mj wa c k p x y d w : Nat} {B : List Nat} {l : List Nat}
theorem ic_no : eqN l (ltx 12) = 0 ∨ eqN l (ltx 13) = 0 := by
  by_cases h : l = ltx 12
  · refine Or.inr ?_
    unfold eqN
    rw [if_neg]
    rw [h]
    decide +kernel
  · refine Or.inl ?_
    unfold eqN
    rw [if_neg h]
theorem ic_nil : eqN [] (ltx 12) = 0 ∧ eqN [] (ltx 13) = 0 := by decide +kernel
theorem mnm_0 : mnmN f n E c x = 0 ↔ (¬ eqN (tX f n E x) (ltx 12) = 0 ∧ ¬ aN c 512 = 0) ∨ (eqN (tX f n E x) (ltx 12) = 0 ∧ eqN (tX f n E x) (ltx 13) = 0 ∧ ¬ (¬ unqN (tX f n E x) = 0 ∧ angN (tX f n E x) = 0)) := by
  have h1 := has_0 c 512
  unfold mnmN
  split
  · split <;> omega
  · split <;> omega
theorem mnm_no (h : ¬ tg f E x = 1) : mnmN f n E c x = 0 := by
  rw [mnm_0, tx_no h]
  exact Or.inr ⟨ic_nil.1, ic_nil.2, fun h9 => h9.1 (by decide)⟩
theorem mfl_c (h : ¬ eqN (tX f n E y) (ltx 13) = 0) : mflN f n E c mj x y = 1 := by
  unfold mflN
  rw [if_pos h]
theorem mfl_i (h : eqN (tX f n E y) (ltx 13) = 0) (h1 : ¬ eqN (tX f n E y) (ltx 12) = 0) : mflN f n E c mj x y = fitN mj c x 1 := by
  unfold mflN fitN
  rw [if_neg (by omega), if_pos h1, if_pos (show ¬ (1 : Nat) = 0 by decide)]
theorem mfl_n (h : eqN (tX f n E y) (ltx 13) = 0) (h1 : eqN (tX f n E y) (ltx 12) = 0) : mflN f n E c mj x y = fitN mj c x 0 := by
  unfold mflN fitN
  rw [if_neg (by omega), if_neg (by omega), if_neg (show ¬ ¬ (0 : Nat) = 0 by decide)]
theorem mds_0 : mdsN f n E x d w = 0 ↔ (mthN (tX f n E d) = 0 ∨ 255 < w ∨ (¬ eqN (tX f n E x) (ltx 12) = 0 ∧ nresN (tX f n E d) = 0)) := by
  unfold mdsN
  split
  · omega
  · split <;> omega
theorem ap_9 : (aN (by2 f p) 8 = 0 → apN f n E p = argN (tX f n E (by2 f (p + 4))) + 1) ∧ (¬ aN (by2 f p) 8 = 0 → apN f n E p = argN (tX f n E (by2 f (p + 4))) + 0) := by
  have h1 := has_0 (by2 f p) 8
  unfold apN
  split <;> omega
theorem mh_24 (h : mnmN f n E c (by2 f (p + 2)) = 0) : mhS f n E c mj B k p = some (24, p + 2) := by
  unfold mhS
  rw [if_pos h]
theorem mh_23 (h : ¬ mnmN f n E c (by2 f (p + 2)) = 0) (h1 : mflN f n E c mj (by2 f p) (by2 f (p + 2)) = 0) : mhS f n E c mj B k p = some (23, p) := by
  unfold mhS
  rw [if_neg h, if_pos h1]
theorem mh_25 (h : ¬ mnmN f n E c (by2 f (p + 2)) = 0) (h1 : ¬ mflN f n E c mj (by2 f p) (by2 f (p + 2)) = 0) (h2 : mdsN f n E (by2 f (p + 2)) (by2 f (p + 4)) (apN f n E p) = 0) : mhS f n E c mj B k p = some (25, p + 4) := by
  unfold mhS
  rw [if_neg h, if_neg h1, if_pos h2]
theorem mh_26 (h : ¬ mnmN f n E c (by2 f (p + 2)) = 0) (h1 : ¬ mflN f n E c mj (by2 f p) (by2 f (p + 2)) = 0) (h2 : ¬ mdsN f n E (by2 f (p + 2)) (by2 f (p + 4)) (apN f n E p) = 0) (h3 : ¬ smeS f n E B (by2 f (p + 2)) (by2 f (p + 4)) k 0 = none) : mhS f n E c mj B k p = some (26, p) := by
  unfold mhS
  rw [if_neg h, if_neg h1, if_neg h2, if_neg h3]
theorem mh_n (h : ¬ mnmN f n E c (by2 f (p + 2)) = 0) (h1 : ¬ mflN f n E c mj (by2 f p) (by2 f (p + 2)) = 0) (h2 : ¬ mdsN f n E (by2 f (p + 2)) (by2 f (p + 4)) (apN f n E p) = 0) (h3 : smeS f n E B (by2 f (p + 2)) (by2 f (p + 4)) k 0 = none) : mhS f n E c mj B k p = none := by
  unfold mhS
  rw [if_neg h, if_neg h1, if_neg h2, if_pos h3]
theorem maS_h : ∀ {r p s h h' : Nat}, h ≤ 1 → maS f n E mj wa r p s h = .inr h' → h' ≤ 1 := by
  intro r
  induction r with
  | zero => intro p s h h' h1 h2; cases h2; exact h1
  | succ r ih =>
    intro p s h h' h1 h2
    unfold maS at h2
    split at h2
    · cases h2
    · split at h2
      · cases h2
      · split at h2
        · split at h2
          · cases h2
          · exact ih (by decide) h2
        · split at h2
          · cases h2
          · exact ih h1 h2
theorem CX.val {h x : Nat} {I : rI} {R : rR} (hc : CX h x I R) : ∃ v : Int32, R 37 x = some v ∧ ((h = 0 ∧ v < 0) ∨ (¬ h = 0 ∧ ¬ v < 0)) := by
  unfold CX at hc
  split at hc
  · rename_i h9
    exact ⟨-1, hc, Or.inl ⟨h9, by decide⟩⟩
  · rename_i h9
    obtain ⟨c, h1, h2⟩ := hc
    refine ⟨nI c, h2, Or.inr ⟨h9, fun h8 => ?_⟩⟩
    have h3 := (lt_nI (p := c) (n := 0) (by omega) (by decide)).mp h8
    omega
theorem cdu_0 : cduS f n E p k = if ¬ eqN (tX f n E (by2 f (p + 2))) (ltx 13) = 0 ∨ aN (by2 f p) 1280 = 0 then (if k = 1 then none else some (27, p)) else (if k = 0 then none else some (27, p)) := by
  have h1 := has_0 (by2 f p) 1280
  unfold cduS
  by_cases hz : ¬ eqN (tX f n E (by2 f (p + 2))) (ltx 13) = 0 ∨ hasN (by2 f p) 1280 = 0
  · rw [if_pos hz, if_pos (show ¬ eqN (tX f n E (by2 f (p + 2))) (ltx 13) = 0 ∨ aN (by2 f p) 1280 = 0 by omega)]
  · rw [if_neg hz, if_neg (show ¬ (¬ eqN (tX f n E (by2 f (p + 2))) (ltx 13) = 0 ∨ aN (by2 f p) 1280 = 0) by omega)]
end MMA

theorem uq0 {l : List Nat} : unq0 l = 0 ↔ ¬ (¬ unqN l = 0 ∧ angN l = 0) := by
  unfold unq0
  split <;> omega
theorem ic_unq {l : List Nat} : eqN l (ltx 12) = 0 ∨ unq0 l = 0 := by
  by_cases h : l = ltx 12
  · refine Or.inr ?_
    rw [h]
    decide +kernel
  · refine Or.inl ?_
    unfold eqN
    rw [if_neg h]
theorem rd_fitX {g : xe_G} {m0 : Nat} {q : Nat → Nat} {z : Nat × Nat} {I : rI} {R : rR} {M : mi_H} {mj x c i ib : Nat} (hR : RS g m0 q z I R M) (hi53 : I 53 = some (nI mj))  (hmj : mj < 65536) (hx : x < 65536) (hi : i = 0 ∨ i = 1) (hc : (ib = 0 ∧ aN c 512 = 0) ∨ (ib = 1 ∧ ¬ aN c 512 = 0)) : pt (mT g) 209 [.ref m0, .int (nI x), .int (nI i), .int (nI ib)] M (fun v M' => (v = some (.int (nI (fitN mj c x i))) ∧ M = M')) := by
  rcases hi with rfl | rfl
  · rcases hc with ⟨rfl, hc⟩ | ⟨rfl, hc⟩
    · exact rd_fit00 hR hi53 hmj hx hc
    · exact rd_fit01 hR hi53 hmj hx hc
  · rcases hc with ⟨rfl, hc⟩ | ⟨rfl, hc⟩
    · exact rd_fit10 hR hi53 hmj hx hc
    · exact rd_fit11 hR hi53 hmj hx hc
set_option maxHeartbeats 8000000 in
theorem rd_checkMethods {g : xe_G} {m0 : Nat} {q : Nat → Nat} {z : Nat × Nat} {I : rI} {R : rR} {M : mi_H} {n : Nat} {f : Nat → Int32} {tx : List (List Nat)} {cN : Nat} {A : Nat → Nat} {N mj : Nat} {E : List (Nat × Nat)} {pM f0 cf si sc : Nat} {B : List Nat} {E1 : Nat → Nat} (hR : RS g m0 q z I R M) (hi51 : I 51 = some 0) (hi52 : I 52 = some (nI N)) (hi53 : I 53 = some (nI mj)) (hi58 : I 58 = some (nI cf)) (hi56 : I 56 = some (nI pM)) (hi26 : I 26 = some (nI f0)) (hi9 : I 9 = some (nI si)) (hi10 : I 10 = some (nI sc)) (hF : FK n f I R) (hY : SYT tx cN A I R) (hP : RPV f n E tx N I R) (hK : KX I R) (hEP : EP f n E) (hN : N < 65536) (hmj : mj < 65536) (hMB : MBS f n B pM E1) (hf0 : f0 ≤ 8300) (hcf : cf < 65536) (hsi : si < tx.length ∧ tx.getD si [] = ltx 12) (hsc : sc < tx.length ∧ tx.getD sc [] = ltx 13) : pt (mT g) 191 [.ref m0] M (fun v M' => (∃  (I' : rI) (R' : rR), (mtS f n E cf mj B B.length 0 = none) ∧ v = some (.int 1) ∧ RS g m0 q z I' R' M' ∧ eqI [26, 47, 48] I I' ∧ eqR [34, 35, 36, 37, 38, 39, 40, 41, 42, 43, 44, 45, 46] R R' ∧ I' 26 = some (nI (f0 + B.length))) ∨ (∃ (e9 : Nat × Nat) (I' : rI) (R' : rR), (mtS f n E cf mj B B.length 0 = some e9) ∧ v = some (.int 0) ∧ RS g m0 q z I' R' M' ∧ eqI [26, 47, 48] I I' ∧ eqR [34, 35, 36, 37, 38, 39, 40, 41, 42, 43, 44, 45, 46] R R' ∧ I' 47 = some (nI e9.1) ∧ I' 48 = some (nI e9.2))) := by
  refine pt_in (b := mb_191 g) rfl (fun kf => ?_)
  show pl (mT g) kf (mb_191 g).2 (0, [(0, .ref m0)], [], M) _
  have hEI : eqI [26, 47, 48] I I := eqI.rf
  have hER : eqR [34, 35, 36, 37, 38, 39, 40, 41, 42, 43, 44, 45, 46] R R := eqR.rf
  have hn := hF.1
  have hBl := hMB.1
  have hp2 := hMB.2.1
  have hFN0 : FN 35 36 f n E tx B f0 0 I R := fun j hj => absurd hj (Nat.not_lt_zero _)
  have LL : ∀ (kf : Nat), (∀ (k p ib : Nat) (M1 : mi_H) (I1 : rI) (R1 : rR), (RS g m0 q z I1 R1 M1) → (eqI [26, 47, 48] I I1) → (eqR [34, 35, 36, 37, 38, 39, 40, 41, 42, 43, 44, 45, 46] R R1) → (I1 51 = some 0) → (I1 52 = some (nI N)) → (I1 53 = some (nI mj)) → (I1 58 = some (nI cf)) → (I1 56 = some (nI pM)) → (I1 26 = some (nI (f0 + k))) → (I1 9 = some (nI si)) → (I1 10 = some (nI sc)) → (FK n f I1 R1) → (SYT tx cN A I1 R1) → (RPV f n E tx N I1 R1) → (KX I1 R1) → (FN 35 36 f n E tx B f0 k I1 R1) → (k ≤ by2 f pM) → (k < by2 f pM → p = B.getD k 0) → (p ≤ n) → (mtS f n E cf mj B (B.length - k) k = mtS f n E cf mj B B.length 0) → ((ib = 0 ∧ aN cf 512 = 0) ∨ (ib = 1 ∧ ¬ aN cf 512 = 0)) →  pl (mT g) kf (mb_191 g).2 (40, [(0, .ref m0), (1, .int (nI p)), (2, .int (nI (by2 f pM))), (3, .int (nI f0)), (4, .int (nI ib)), (5, .int (nI k))], [], M1) (fun v M' => (∃  (I' : rI) (R' : rR), (mtS f n E cf mj B B.length 0 = none) ∧ v = some (.int 1) ∧ RS g m0 q z I' R' M' ∧ eqI [26, 47, 48] I I' ∧ eqR [34, 35, 36, 37, 38, 39, 40, 41, 42, 43, 44, 45, 46] R R' ∧ I' 26 = some (nI (f0 + B.length))) ∨ (∃ (e9 : Nat × Nat) (I' : rI) (R' : rR), (mtS f n E cf mj B B.length 0 = some e9) ∧ v = some (.int 0) ∧ RS g m0 q z I' R' M' ∧ eqI [26, 47, 48] I I' ∧ eqR [34, 35, 36, 37, 38, 39, 40, 41, 42, 43, 44, 45, 46] R R' ∧ I' 47 = some (nI e9.1) ∧ I' 48 = some (nI e9.2)))) ∧ (∀ (k p ib a i9 i8 : Nat) (M1 : mi_H) (I1 : rI) (R1 : rR), (RS g m0 q z I1 R1 M1) → (eqI [26, 47, 48] I I1) → (eqR [34, 35, 36, 37, 38, 39, 40, 41, 42, 43, 44, 45, 46] R R1) → (I1 51 = some 0) → (I1 52 = some (nI N)) → (I1 53 = some (nI mj)) → (I1 58 = some (nI cf)) → (I1 56 = some (nI pM)) → (I1 26 = some (nI (f0 + k))) → (I1 9 = some (nI si)) → (I1 10 = some (nI sc)) → (FK n f I1 R1) → (SYT tx cN A I1 R1) → (RPV f n E tx N I1 R1) → (KX I1 R1) → (FN 35 36 f n E tx B f0 k I1 R1) → (k < by2 f pM) → (p = B.getD k 0) → (p + 8 ≤ n) → (mtS f n E cf mj B (B.length - k) k = mtS f n E cf mj B B.length 0) → ((ib = 0 ∧ aN cf 512 = 0) ∨ (ib = 1 ∧ ¬ aN cf 512 = 0)) → (a < tx.length ∧ tx.getD a [] = tX f n E (by2 f (p + 2))) → (tg f E (by2 f (p + 2)) = 1) → (¬ mnmN f n E cf (by2 f (p + 2)) = 0) → (¬ mflN f n E cf mj (by2 f p) (by2 f (p + 2)) = 0) → ((i9 = 1 ∧ ¬ eqN (tX f n E (by2 f (p + 2))) (ltx 13) = 0) ∨ (i9 = 0 ∧ eqN (tX f n E (by2 f (p + 2))) (ltx 13) = 0)) → ((i8 = 1 ∧ ¬ eqN (tX f n E (by2 f (p + 2))) (ltx 12) = 0) ∨ (i8 = 0 ∧ eqN (tX f n E (by2 f (p + 2))) (ltx 12) = 0)) →  pl (mT g) kf (mb_191 g).2 (183, [(0, .ref m0), (1, .int (nI p)), (2, .int (nI (by2 f pM))), (3, .int (nI f0)), (4, .int (nI ib)), (5, .int (nI k)), (6, .int (nI (by2 f p))), (7, .int (nI a)), (8, .int (nI i8)), (9, .int (nI i9))], [], M1) (fun v M' => (∃  (I' : rI) (R' : rR), (mtS f n E cf mj B B.length 0 = none) ∧ v = some (.int 1) ∧ RS g m0 q z I' R' M' ∧ eqI [26, 47, 48] I I' ∧ eqR [34, 35, 36, 37, 38, 39, 40, 41, 42, 43, 44, 45, 46] R R' ∧ I' 26 = some (nI (f0 + B.length))) ∨ (∃ (e9 : Nat × Nat) (I' : rI) (R' : rR), (mtS f n E cf mj B B.length 0 = some e9) ∧ v = some (.int 0) ∧ RS g m0 q z I' R' M' ∧ eqI [26, 47, 48] I I' ∧ eqR [34, 35, 36, 37, 38, 39, 40, 41, 42, 43, 44, 45, 46] R R' ∧ I' 47 = some (nI e9.1) ∧ I' 48 = some (nI e9.2)))) ∧ (∀ (k p ib a i9 d : Nat) (M1 : mi_H) (I1 : rI) (R1 : rR), (RS g m0 q z I1 R1 M1) → (eqI [26, 47, 48] I I1) → (eqR [34, 35, 36, 37, 38, 39, 40, 41, 42, 43, 44, 45, 46] R R1) → (I1 51 = some 0) → (I1 52 = some (nI N)) → (I1 53 = some (nI mj)) → (I1 58 = some (nI cf)) → (I1 56 = some (nI pM)) → (I1 26 = some (nI (f0 + k))) → (I1 9 = some (nI si)) → (I1 10 = some (nI sc)) → (FK n f I1 R1) → (SYT tx cN A I1 R1) → (RPV f n E tx N I1 R1) → (KX I1 R1) → (FN 35 36 f n E tx B f0 k I1 R1) → (k < by2 f pM) → (p = B.getD k 0) → (p + 8 ≤ n) → (mtS f n E cf mj B (B.length - k) k = mtS f n E cf mj B B.length 0) → ((ib = 0 ∧ aN cf 512 = 0) ∨ (ib = 1 ∧ ¬ aN cf 512 = 0)) → (a < tx.length ∧ tx.getD a [] = tX f n E (by2 f (p + 2))) → (tg f E (by2 f (p + 2)) = 1) → (¬ mnmN f n E cf (by2 f (p + 2)) = 0) → (¬ mflN f n E cf mj (by2 f p) (by2 f (p + 2)) = 0) → ((i9 = 1 ∧ ¬ eqN (tX f n E (by2 f (p + 2))) (ltx 13) = 0) ∨ (i9 = 0 ∧ eqN (tX f n E (by2 f (p + 2))) (ltx 13) = 0)) → (d < tx.length ∧ tx.getD d [] = tX f n E (by2 f (p + 4))) → (tg f E (by2 f (p + 4)) = 1) → (¬ mthN (tX f n E (by2 f (p + 4))) = 0) → (¬ mdsN f n E (by2 f (p + 2)) (by2 f (p + 4)) (apN f n E p) = 0) →  pl (mT g) kf (mb_191 g).2 (279, [(0, .ref m0), (1, .int (nI p)), (2, .int (nI (by2 f pM))), (3, .int (nI f0)), (4, .int (nI ib)), (5, .int (nI k)), (6, .int (nI (by2 f p))), (7, .int (nI a)), (9, .int (nI i9)), (10, .int (nI d))], [], M1) (fun v M' => (∃  (I' : rI) (R' : rR), (mtS f n E cf mj B B.length 0 = none) ∧ v = some (.int 1) ∧ RS g m0 q z I' R' M' ∧ eqI [26, 47, 48] I I' ∧ eqR [34, 35, 36, 37, 38, 39, 40, 41, 42, 43, 44, 45, 46] R R' ∧ I' 26 = some (nI (f0 + B.length))) ∨ (∃ (e9 : Nat × Nat) (I' : rI) (R' : rR), (mtS f n E cf mj B B.length 0 = some e9) ∧ v = some (.int 0) ∧ RS g m0 q z I' R' M' ∧ eqI [26, 47, 48] I I' ∧ eqR [34, 35, 36, 37, 38, 39, 40, 41, 42, 43, 44, 45, 46] R R' ∧ I' 47 = some (nI e9.1) ∧ I' 48 = some (nI e9.2)))) ∧ (∀ (k p ib a i9 d j : Nat) (M1 : mi_H) (I1 : rI) (R1 : rR), (RS g m0 q z I1 R1 M1) → (eqI [26, 47, 48] I I1) → (eqR [34, 35, 36, 37, 38, 39, 40, 41, 42, 43, 44, 45, 46] R R1) → (I1 51 = some 0) → (I1 52 = some (nI N)) → (I1 53 = some (nI mj)) → (I1 58 = some (nI cf)) → (I1 56 = some (nI pM)) → (I1 26 = some (nI (f0 + k))) → (I1 9 = some (nI si)) → (I1 10 = some (nI sc)) → (FK n f I1 R1) → (SYT tx cN A I1 R1) → (RPV f n E tx N I1 R1) → (KX I1 R1) → (FN 35 36 f n E tx B f0 k I1 R1) → (CE 34 (f0 + k) (nI (by2 f p)) I1 R1) → (CE 35 (f0 + k) (nI a) I1 R1) → (CE 36 (f0 + k) (nI d) I1 R1) → (CX 0 (f0 + k) I1 R1) → (k < by2 f pM) → (p = B.getD k 0) → (p + 8 ≤ n) → (mtS f n E cf mj B (B.length - k) k = mtS f n E cf mj B B.length 0) → ((ib = 0 ∧ aN cf 512 = 0) ∨ (ib = 1 ∧ ¬ aN cf 512 = 0)) → (a < tx.length ∧ tx.getD a [] = tX f n E (by2 f (p + 2))) → (tg f E (by2 f (p + 2)) = 1) → (¬ mnmN f n E cf (by2 f (p + 2)) = 0) → (¬ mflN f n E cf mj (by2 f p) (by2 f (p + 2)) = 0) → ((i9 = 1 ∧ ¬ eqN (tX f n E (by2 f (p + 2))) (ltx 13) = 0) ∨ (i9 = 0 ∧ eqN (tX f n E (by2 f (p + 2))) (ltx 13) = 0)) → (d < tx.length ∧ tx.getD d [] = tX f n E (by2 f (p + 4))) → (tg f E (by2 f (p + 4)) = 1) → (¬ mthN (tX f n E (by2 f (p + 4))) = 0) → (¬ mdsN f n E (by2 f (p + 2)) (by2 f (p + 4)) (apN f n E p) = 0) → (j ≤ k) → (f0 + k < 8300) → (smeS f n E B (by2 f (p + 2)) (by2 f (p + 4)) (k - j) j = smeS f n E B (by2 f (p + 2)) (by2 f (p + 4)) k 0) →  pl (mT g) kf (mb_191 g).2 (399, [(0, .ref m0), (1, .int (nI p)), (2, .int (nI (by2 f pM))), (3, .int (nI f0)), (4, .int (nI ib)), (5, .int (nI k)), (6, .int (nI (by2 f p))), (7, .int (nI a)), (9, .int (nI i9)), (10, .int (nI d)), (11, .int (nI (f0 + k))), (12, .int (nI (f0 + j)))], [], M1) (fun v M' => (∃  (I' : rI) (R' : rR), (mtS f n E cf mj B B.length 0 = none) ∧ v = some (.int 1) ∧ RS g m0 q z I' R' M' ∧ eqI [26, 47, 48] I I' ∧ eqR [34, 35, 36, 37, 38, 39, 40, 41, 42, 43, 44, 45, 46] R R' ∧ I' 26 = some (nI (f0 + B.length))) ∨ (∃ (e9 : Nat × Nat) (I' : rI) (R' : rR), (mtS f n E cf mj B B.length 0 = some e9) ∧ v = some (.int 0) ∧ RS g m0 q z I' R' M' ∧ eqI [26, 47, 48] I I' ∧ eqR [34, 35, 36, 37, 38, 39, 40, 41, 42, 43, 44, 45, 46] R R' ∧ I' 47 = some (nI e9.1) ∧ I' 48 = some (nI e9.2)))) := by
    intro kf
    induction kf with
    | zero => exact ⟨by intros; exact pl_0, by intros; exact pl_0, by intros; exact pl_0, by intros; exact pl_0⟩
    | succ kf ih =>
      refine ⟨?_, ?_, ?_, ?_⟩
      · skip
        intro k p ib M1 I1 R1 hR1 hEI1 hER1 hl51 hl52 hl53 hl58 hl56 hl26 hl9 hl10 hF1 hY1 hP1 hK1 hN91 hk hp hpn hs hib
        have hn := hF1.1
        have hu9 := by2_lt f pM
        have htl := hY1.1.2.2.1
        have hBl := hMB.1
        have hi7 := hsi.1
        have hc7 := hsc.1
        refine ps_st1 (S' := (42, [(0, .ref m0), (1, .int (nI p)), (2, .int (nI (by2 f pM))), (3, .int (nI f0)), (4, .int (nI ib)), (5, .int (nI k))], [.int (nI k)], M1)) rfl rfl rfl ?_
        refine ps_st (S' := (43, [(0, .ref m0), (1, .int (nI p)), (2, .int (nI (by2 f pM))), (3, .int (nI f0)), (4, .int (nI ib)), (5, .int (nI k))], [.int (nI (by2 f pM)), .int (nI k)], M1)) rfl rfl rfl ?_
        refine ps_if2 (S1 := (532, [(0, .ref m0), (1, .int (nI p)), (2, .int (nI (by2 f pM))), (3, .int (nI f0)), (4, .int (nI ib)), (5, .int (nI k))], [], M1)) (S2 := (46, [(0, .ref m0), (1, .int (nI p)), (2, .int (nI (by2 f pM))), (3, .int (nI f0)), (4, .int (nI ib)), (5, .int (nI k))], [], M1)) rfl rfl rfl (fun c_43 => ?_) (fun c_43 => ?_)
        · have c_43 : (nI (by2 f pM)) ≤ (nI k) := of_decide_eq_true c_43
          have n_43 : by2 f pM ≤ k := (le_nI (p := by2 f pM) (n := k) (Nat.lt_trans (by2_lt _ _) (by decide)) (by omega)).mp c_43
          refine ps_st (S' := (533, [(0, .ref m0), (1, .int (nI p)), (2, .int (nI (by2 f pM))), (3, .int (nI f0)), (4, .int (nI ib)), (5, .int (nI k))], [.int 1], M1)) rfl rfl rfl ?_
          exact ps_ret rfl rfl (Or.inl ⟨I1, R1, by
              rw [← hs, show B.length - k = 0 by omega]
              rfl, rfl, hR1, hEI1, hER1, by rw [show B.length = k by omega]; exact hl26⟩)
        · have c_43 : ¬ ((nI (by2 f pM)) ≤ (nI k)) := of_decide_eq_false c_43
          have n_43 : ¬ (by2 f pM ≤ k) := fun h9 => c_43 ((le_nI (p := by2 f pM) (n := k) (Nat.lt_trans (by2_lt _ _) (by decide)) (by omega)).mpr h9)
          have hpk := hp (by omega)
          have hm8 := (hMB.2.2.2 k (by omega)).1
          have hm7 := (hMB.2.2.2 k (by omega)).2.1
          rw [← hpk] at hm8
          have hpe : p + 8 ≤ n := by omega
          have hu8 := by2_lt f p
          refine ps_st (S' := (47, [(0, .ref m0), (1, .int (nI p)), (2, .int (nI (by2 f pM))), (3, .int (nI f0)), (4, .int (nI ib)), (5, .int (nI k))], [.ref m0], M1)) rfl rfl rfl ?_
          refine ps_st (S' := (48, [(0, .ref m0), (1, .int (nI p)), (2, .int (nI (by2 f pM))), (3, .int (nI f0)), (4, .int (nI ib)), (5, .int (nI k))], [.int (nI p), .ref m0], M1)) rfl rfl rfl ?_
          refine pl_call (a := [.ref m0, .int (nI p)]) (rest := []) rfl rfl rfl (rd_u2 (n := n) (f := f) (p := p) hR1 hF1 (by omega)) (fun v1 M2 q3 => ?_)
          obtain ⟨rfl, rfl⟩ := q3
          show pl _ _ _ (51, [(0, .ref m0), (1, .int (nI p)), (2, .int (nI (by2 f pM))), (3, .int (nI f0)), (4, .int (nI ib)), (5, .int (nI k))], [.int (nI (by2 f p))], M1) _
          have hu_48 := by2_lt f p
          refine ps_st (S' := (53, [(6, .int (nI (by2 f p))), (0, .ref m0), (1, .int (nI p)), (2, .int (nI (by2 f pM))), (3, .int (nI f0)), (4, .int (nI ib)), (5, .int (nI k))], [], M1)) rfl rfl rfl ?_
          refine ps_st (S' := (54, [(6, .int (nI (by2 f p))), (0, .ref m0), (1, .int (nI p)), (2, .int (nI (by2 f pM))), (3, .int (nI f0)), (4, .int (nI ib)), (5, .int (nI k))], [.ref m0], M1)) rfl rfl rfl ?_
          refine ps_st (S' := (55, [(6, .int (nI (by2 f p))), (0, .ref m0), (1, .int (nI p)), (2, .int (nI (by2 f pM))), (3, .int (nI f0)), (4, .int (nI ib)), (5, .int (nI k))], [.ref m0, .ref m0], M1)) rfl rfl rfl ?_
          refine ps_st (S' := (56, [(6, .int (nI (by2 f p))), (0, .ref m0), (1, .int (nI p)), (2, .int (nI (by2 f pM))), (3, .int (nI f0)), (4, .int (nI ib)), (5, .int (nI k))], [.int (nI p), .ref m0, .ref m0], M1)) rfl rfl rfl ?_
          refine ps_st (S' := (57, [(6, .int (nI (by2 f p))), (0, .ref m0), (1, .int (nI p)), (2, .int (nI (by2 f pM))), (3, .int (nI f0)), (4, .int (nI ib)), (5, .int (nI k))], [.int 2, .int (nI p), .ref m0, .ref m0], M1)) rfl rfl rfl ?_
          refine ps_st (S' := (58, [(6, .int (nI (by2 f p))), (0, .ref m0), (1, .int (nI p)), (2, .int (nI (by2 f pM))), (3, .int (nI f0)), (4, .int (nI ib)), (5, .int (nI k))], [.int ((nI p) + 2), .ref m0, .ref m0], M1)) rfl rfl rfl ?_
          rw [nI_add1 (p := p) (k := 2) (x := 2) rfl (by omega)]
          show pl _ _ _ (_, [(6, .int (nI (by2 f p))), (0, .ref m0), (1, .int (nI p)), (2, .int (nI (by2 f pM))), (3, .int (nI f0)), (4, .int (nI ib)), (5, .int (nI k))], [.int (nI (p + 2)), .ref m0, .ref m0], M1) _
          refine pl_call (a := [.ref m0, .int (nI (p + 2))]) (rest := [.ref m0]) rfl rfl rfl (rd_u2 (n := n) (f := f) (p := (p + 2)) hR1 hF1 (by omega)) (fun v4 M5 q6 => ?_)
          obtain ⟨rfl, rfl⟩ := q6
          show pl _ _ _ (61, [(6, .int (nI (by2 f p))), (0, .ref m0), (1, .int (nI p)), (2, .int (nI (by2 f pM))), (3, .int (nI f0)), (4, .int (nI ib)), (5, .int (nI k))], [.int (nI (by2 f (p + 2))), .ref m0], M1) _
          have hu_58 := by2_lt f (p + 2)
          refine pl_call (a := [.ref m0, .int (nI (by2 f (p + 2)))]) (rest := []) rfl rfl rfl (rd_tag (n := n) (f := f) (tx := tx) (cN := cN) (A := A) (N := N) (mj := mj) (E := E) (k := (by2 f (p + 2))) hR1 hl51 hl52 hl53 hF1 hY1 hP1 (hEP) (hN) (hmj) (by2_lt _ _)) (fun v7 M8 q9 => ?_)
          obtain ⟨rfl, rfl⟩ := q9
          show pl _ _ _ (64, [(6, .int (nI (by2 f p))), (0, .ref m0), (1, .int (nI p)), (2, .int (nI (by2 f pM))), (3, .int (nI f0)), (4, .int (nI ib)), (5, .int (nI k))], [.int (nI (tg f E (by2 f (p + 2))))], M1) _
          have htg_61 := tg_lt f E (by2 f (p + 2))
          refine ps_st (S' := (65, [(6, .int (nI (by2 f p))), (0, .ref m0), (1, .int (nI p)), (2, .int (nI (by2 f pM))), (3, .int (nI f0)), (4, .int (nI ib)), (5, .int (nI k))], [.int 1, .int (nI (tg f E (by2 f (p + 2))))], M1)) rfl rfl rfl ?_
          refine ps_if2 (S1 := (82, [(6, .int (nI (by2 f p))), (0, .ref m0), (1, .int (nI p)), (2, .int (nI (by2 f pM))), (3, .int (nI f0)), (4, .int (nI ib)), (5, .int (nI k))], [], M1)) (S2 := (68, [(6, .int (nI (by2 f p))), (0, .ref m0), (1, .int (nI p)), (2, .int (nI (by2 f pM))), (3, .int (nI f0)), (4, .int (nI ib)), (5, .int (nI k))], [], M1)) rfl rfl rfl (fun c_65 => ?_) (fun c_65 => ?_)
          · have c_65 : ¬ (nI (tg f E (by2 f (p + 2)))) = 1 := of_decide_eq_true c_65
            have n_65 : ¬ (tg f E (by2 f (p + 2)) = 1) := fun h9 => c_65 ((eq_nI (p := tg f E (by2 f (p + 2))) (n := 1) (Nat.lt_trans (tg_lt _ _ _) (by decide)) (by decide)).mpr h9)
            refine ps_st (S' := (83, [(0, .ref m0), (1, .int (nI p)), (2, .int (nI (by2 f pM))), (3, .int (nI f0)), (4, .int (nI ib)), (5, .int (nI k)), (6, .int (nI (by2 f p)))], [.int (-1)], M1)) rfl rfl rfl ?_
            refine ps_st (S' := (85, [(7, .int (-1)), (0, .ref m0), (1, .int (nI p)), (2, .int (nI (by2 f pM))), (3, .int (nI f0)), (4, .int (nI ib)), (5, .int (nI k)), (6, .int (nI (by2 f p)))], [], M1)) rfl rfl rfl ?_
            refine ps_st (S' := (87, [(7, .int (-1)), (0, .ref m0), (1, .int (nI p)), (2, .int (nI (by2 f pM))), (3, .int (nI f0)), (4, .int (nI ib)), (5, .int (nI k)), (6, .int (nI (by2 f p)))], [.int (-1)], M1)) rfl rfl rfl ?_
            refine ps_st (S' := (88, [(7, .int (-1)), (0, .ref m0), (1, .int (nI p)), (2, .int (nI (by2 f pM))), (3, .int (nI f0)), (4, .int (nI ib)), (5, .int (nI k)), (6, .int (nI (by2 f p)))], [.ref m0, .int (-1)], M1)) rfl rfl rfl ?_
            refine pr_int (j := 9) (S' := (91, [(7, .int (-1)), (0, .ref m0), (1, .int (nI p)), (2, .int (nI (by2 f pM))), (3, .int (nI f0)), (4, .int (nI ib)), (5, .int (nI k)), (6, .int (nI (by2 f p)))], [.int (nI si), .int (-1)], M1)) rfl hR1 rfl hl9 rfl ?_
            refine ps_if2 (S1 := (98, [(7, .int (-1)), (0, .ref m0), (1, .int (nI p)), (2, .int (nI (by2 f pM))), (3, .int (nI f0)), (4, .int (nI ib)), (5, .int (nI k)), (6, .int (nI (by2 f p)))], [], M1)) (S2 := (94, [(7, .int (-1)), (0, .ref m0), (1, .int (nI p)), (2, .int (nI (by2 f pM))), (3, .int (nI f0)), (4, .int (nI ib)), (5, .int (nI k)), (6, .int (nI (by2 f p)))], [], M1)) rfl rfl rfl (fun c_91 => ?_) (fun c_91 => ?_)
            rotate_left
            · exact absurd (m1_ne (by omega)) (of_decide_eq_false c_91)
            refine ps_st (S' := (99, [(0, .ref m0), (1, .int (nI p)), (2, .int (nI (by2 f pM))), (3, .int (nI f0)), (4, .int (nI ib)), (5, .int (nI k)), (6, .int (nI (by2 f p))), (7, .int (-1))], [.int 0], M1)) rfl rfl rfl ?_
            refine ps_st (S' := (101, [(8, .int 0), (0, .ref m0), (1, .int (nI p)), (2, .int (nI (by2 f pM))), (3, .int (nI f0)), (4, .int (nI ib)), (5, .int (nI k)), (6, .int (nI (by2 f p))), (7, .int (-1))], [], M1)) rfl rfl rfl ?_
            refine ps_st (S' := (103, [(8, .int 0), (0, .ref m0), (1, .int (nI p)), (2, .int (nI (by2 f pM))), (3, .int (nI f0)), (4, .int (nI ib)), (5, .int (nI k)), (6, .int (nI (by2 f p))), (7, .int (-1))], [.int (-1)], M1)) rfl rfl rfl ?_
            refine ps_st (S' := (104, [(8, .int 0), (0, .ref m0), (1, .int (nI p)), (2, .int (nI (by2 f pM))), (3, .int (nI f0)), (4, .int (nI ib)), (5, .int (nI k)), (6, .int (nI (by2 f p))), (7, .int (-1))], [.ref m0, .int (-1)], M1)) rfl rfl rfl ?_
            refine pr_int (j := 10) (S' := (107, [(8, .int 0), (0, .ref m0), (1, .int (nI p)), (2, .int (nI (by2 f pM))), (3, .int (nI f0)), (4, .int (nI ib)), (5, .int (nI k)), (6, .int (nI (by2 f p))), (7, .int (-1))], [.int (nI sc), .int (-1)], M1)) rfl hR1 rfl hl10 rfl ?_
            refine ps_if2 (S1 := (114, [(8, .int 0), (0, .ref m0), (1, .int (nI p)), (2, .int (nI (by2 f pM))), (3, .int (nI f0)), (4, .int (nI ib)), (5, .int (nI k)), (6, .int (nI (by2 f p))), (7, .int (-1))], [], M1)) (S2 := (110, [(8, .int 0), (0, .ref m0), (1, .int (nI p)), (2, .int (nI (by2 f pM))), (3, .int (nI f0)), (4, .int (nI ib)), (5, .int (nI k)), (6, .int (nI (by2 f p))), (7, .int (-1))], [], M1)) rfl rfl rfl (fun c_107 => ?_) (fun c_107 => ?_)
            rotate_left
            · exact absurd (m1_ne (by omega)) (of_decide_eq_false c_107)
            refine ps_st (S' := (115, [(0, .ref m0), (1, .int (nI p)), (2, .int (nI (by2 f pM))), (3, .int (nI f0)), (4, .int (nI ib)), (5, .int (nI k)), (6, .int (nI (by2 f p))), (7, .int (-1)), (8, .int 0)], [.int 0], M1)) rfl rfl rfl ?_
            refine ps_st (S' := (117, [(9, .int 0), (0, .ref m0), (1, .int (nI p)), (2, .int (nI (by2 f pM))), (3, .int (nI f0)), (4, .int (nI ib)), (5, .int (nI k)), (6, .int (nI (by2 f p))), (7, .int (-1)), (8, .int 0)], [], M1)) rfl rfl rfl ?_
            refine ps_st (S' := (119, [(9, .int 0), (0, .ref m0), (1, .int (nI p)), (2, .int (nI (by2 f pM))), (3, .int (nI f0)), (4, .int (nI ib)), (5, .int (nI k)), (6, .int (nI (by2 f p))), (7, .int (-1)), (8, .int 0)], [.int (-1)], M1)) rfl rfl rfl ?_
            refine ps_if (S1 := (147, [(0, .ref m0), (1, .int (nI p))], [], M1)) (S2 := (122, [(9, .int 0), (0, .ref m0), (1, .int (nI p)), (2, .int (nI (by2 f pM))), (3, .int (nI f0)), (4, .int (nI ib)), (5, .int (nI k)), (6, .int (nI (by2 f p))), (7, .int (-1)), (8, .int 0)], [], M1)) rfl rfl rfl (fun c_119 => ?_) (fun c_119 => ?_)
            rotate_left
            · exact absurd (by decide) (of_decide_eq_false c_119)
            refine ps_st (S' := (148, [(0, .ref m0), (1, .int (nI p))], [.ref m0], M1)) rfl rfl rfl ?_
            refine ps_st (S' := (150, [(0, .ref m0), (1, .int (nI p))], [.int 24, .ref m0], M1)) rfl rfl rfl ?_
            refine ps_st (S' := (151, [(0, .ref m0), (1, .int (nI p))], [.int (nI p), .int 24, .ref m0], M1)) rfl rfl rfl ?_
            refine ps_st (S' := (152, [(0, .ref m0), (1, .int (nI p))], [.int 2, .int (nI p), .int 24, .ref m0], M1)) rfl rfl rfl ?_
            refine ps_st (S' := (153, [(0, .ref m0), (1, .int (nI p))], [.int ((nI p) + 2), .int 24, .ref m0], M1)) rfl rfl rfl ?_
            rw [nI_add1 (p := p) (k := 2) (x := 2) rfl (by omega)]
            show pl _ _ _ (_, [(0, .ref m0), (1, .int (nI p))], [.int (nI (p + 2)), .int 24, .ref m0], M1) _
            refine pl_call (a := [.ref m0, .int 24, .int (nI (p + 2))]) (rest := []) rfl rfl rfl (rd_wrong (x1 := 24) (x2 := (nI (p + 2))) hR1) (fun v10 M11 q12 => ?_)
            obtain ⟨I13, R14, rfl, hR15, hI16, hX17, hi18, hi19⟩ := q12
            have hi20 := (hI16 51 (by decide)).trans hl51
            have hi21 := (hI16 52 (by decide)).trans hl52
            have hi22 := (hI16 53 (by decide)).trans hl53
            have hi23 := (hI16 58 (by decide)).trans hl58
            have hi24 := (hI16 56 (by decide)).trans hl56
            have hi25 := (hI16 26 (by decide)).trans hl26
            have hi26 := (hI16 9 (by decide)).trans hl9
            have hi27 := (hI16 10 (by decide)).trans hl10
            have hF_28 := hF1.mono (cIx hI16 (by decide)) (cRx hX17 (by decide))
            have hY_29 := hY1.mono (cIx hI16 (by decide)) (cRx hX17 (by decide))
            have hP_30 := hP1.mono (cIx hI16 (by decide)) (cRx hX17 (by decide))
            have hK_31 := hK1.mono (cIx hI16 (by decide)) (cRx hX17 (by decide))
            have hN9_32 := hN91.mono (cIx hI16 (by decide)) (cRx hX17 (by decide))
            have hEI33 := hEI1.tr hI16 (by decide)
            have hER34 := hER1.tr hX17 (by decide)
            show pl _ _ _ (156, [(0, .ref m0), (1, .int (nI p))], [.int 0], M11) _
            exact ps_ret rfl rfl (Or.inr ⟨(24, p + 2), I13, R14, by
                rw [← hs, mtS_st (i := k) (by omega), ← hpk, mh_24 (mnm_no (by omega))], rfl, hR15, hEI33, hER34, hi18, hi19⟩)
          · have c_65 : ¬ (¬ (nI (tg f E (by2 f (p + 2)))) = 1) := of_decide_eq_false c_65
            have n_65 : tg f E (by2 f (p + 2)) = 1 := (eq_nI (p := tg f E (by2 f (p + 2))) (n := 1) (Nat.lt_trans (tg_lt _ _ _) (by decide)) (by decide)).mp (Decidable.not_not.mp c_65)
            refine ps_st (S' := (69, [(6, .int (nI (by2 f p))), (0, .ref m0), (1, .int (nI p)), (2, .int (nI (by2 f pM))), (3, .int (nI f0)), (4, .int (nI ib)), (5, .int (nI k))], [.ref m0], M1)) rfl rfl rfl ?_
            refine ps_st (S' := (70, [(6, .int (nI (by2 f p))), (0, .ref m0), (1, .int (nI p)), (2, .int (nI (by2 f pM))), (3, .int (nI f0)), (4, .int (nI ib)), (5, .int (nI k))], [.ref m0, .ref m0], M1)) rfl rfl rfl ?_
            refine ps_st (S' := (71, [(6, .int (nI (by2 f p))), (0, .ref m0), (1, .int (nI p)), (2, .int (nI (by2 f pM))), (3, .int (nI f0)), (4, .int (nI ib)), (5, .int (nI k))], [.int (nI p), .ref m0, .ref m0], M1)) rfl rfl rfl ?_
            refine ps_st (S' := (72, [(6, .int (nI (by2 f p))), (0, .ref m0), (1, .int (nI p)), (2, .int (nI (by2 f pM))), (3, .int (nI f0)), (4, .int (nI ib)), (5, .int (nI k))], [.int 2, .int (nI p), .ref m0, .ref m0], M1)) rfl rfl rfl ?_
            refine ps_st (S' := (73, [(6, .int (nI (by2 f p))), (0, .ref m0), (1, .int (nI p)), (2, .int (nI (by2 f pM))), (3, .int (nI f0)), (4, .int (nI ib)), (5, .int (nI k))], [.int ((nI p) + 2), .ref m0, .ref m0], M1)) rfl rfl rfl ?_
            rw [nI_add1 (p := p) (k := 2) (x := 2) rfl (by omega)]
            show pl _ _ _ (_, [(6, .int (nI (by2 f p))), (0, .ref m0), (1, .int (nI p)), (2, .int (nI (by2 f pM))), (3, .int (nI f0)), (4, .int (nI ib)), (5, .int (nI k))], [.int (nI (p + 2)), .ref m0, .ref m0], M1) _
            refine pl_call (a := [.ref m0, .int (nI (p + 2))]) (rest := [.ref m0]) rfl rfl rfl (rd_u2 (n := n) (f := f) (p := (p + 2)) hR1 hF1 (by omega)) (fun v35 M36 q37 => ?_)
            obtain ⟨rfl, rfl⟩ := q37
            show pl _ _ _ (76, [(6, .int (nI (by2 f p))), (0, .ref m0), (1, .int (nI p)), (2, .int (nI (by2 f pM))), (3, .int (nI f0)), (4, .int (nI ib)), (5, .int (nI k))], [.int (nI (by2 f (p + 2))), .ref m0], M1) _
            have hu_73 := by2_lt f (p + 2)
            refine pl_call (a := [.ref m0, .int (nI (by2 f (p + 2)))]) (rest := []) rfl rfl rfl (rd_symOf (n := n) (f := f) (tx := tx) (cN := cN) (A := A) (N := N) (mj := mj) (E := E) (k := (by2 f (p + 2))) hR1 hl51 hl52 hl53 hF1 hY1 hP1 (hEP) (hN) (hmj) (by omega)) (fun v38 M39 q40 => ?_)
            obtain ⟨s41, q76_s, rfl, rfl⟩ := q40
            show pl _ _ _ (79, [(6, .int (nI (by2 f p))), (0, .ref m0), (1, .int (nI p)), (2, .int (nI (by2 f pM))), (3, .int (nI f0)), (4, .int (nI ib)), (5, .int (nI k))], [.int (nI s41)], M1) _
            have hsl_76 := q76_s.1
            have htl_76 := hY1.1.2.2.1
            refine ps_st (S' := (83, [(0, .ref m0), (1, .int (nI p)), (2, .int (nI (by2 f pM))), (3, .int (nI f0)), (4, .int (nI ib)), (5, .int (nI k)), (6, .int (nI (by2 f p)))], [.int (nI s41)], M1)) rfl rfl rfl ?_
            refine ps_st (S' := (85, [(7, .int (nI s41)), (0, .ref m0), (1, .int (nI p)), (2, .int (nI (by2 f pM))), (3, .int (nI f0)), (4, .int (nI ib)), (5, .int (nI k)), (6, .int (nI (by2 f p)))], [], M1)) rfl rfl rfl ?_
            have he1 := sym_eq hY1 q76_s hsi
            have he2 := sym_eq hY1 q76_s hsc
            have hic := ic_no (l := tX f n E (by2 f (p + 2)))
            have hiu := ic_unq (l := tX f n E (by2 f (p + 2)))
            refine ps_st (S' := (87, [(7, .int (nI s41)), (0, .ref m0), (1, .int (nI p)), (2, .int (nI (by2 f pM))), (3, .int (nI f0)), (4, .int (nI ib)), (5, .int (nI k)), (6, .int (nI (by2 f p)))], [.int (nI s41)], M1)) rfl rfl rfl ?_
            refine ps_st (S' := (88, [(7, .int (nI s41)), (0, .ref m0), (1, .int (nI p)), (2, .int (nI (by2 f pM))), (3, .int (nI f0)), (4, .int (nI ib)), (5, .int (nI k)), (6, .int (nI (by2 f p)))], [.ref m0, .int (nI s41)], M1)) rfl rfl rfl ?_
            refine pr_int (j := 9) (S' := (91, [(7, .int (nI s41)), (0, .ref m0), (1, .int (nI p)), (2, .int (nI (by2 f pM))), (3, .int (nI f0)), (4, .int (nI ib)), (5, .int (nI k)), (6, .int (nI (by2 f p)))], [.int (nI si), .int (nI s41)], M1)) rfl hR1 rfl hl9 rfl ?_
            refine ps_if2 (S1 := (98, [(7, .int (nI s41)), (0, .ref m0), (1, .int (nI p)), (2, .int (nI (by2 f pM))), (3, .int (nI f0)), (4, .int (nI ib)), (5, .int (nI k)), (6, .int (nI (by2 f p)))], [], M1)) (S2 := (94, [(7, .int (nI s41)), (0, .ref m0), (1, .int (nI p)), (2, .int (nI (by2 f pM))), (3, .int (nI f0)), (4, .int (nI ib)), (5, .int (nI k)), (6, .int (nI (by2 f p)))], [], M1)) rfl rfl rfl (fun c_91 => ?_) (fun c_91 => ?_)
            · have c_91 : ¬ (nI s41) = (nI si) := of_decide_eq_true c_91
              have n_91 : ¬ (s41 = si) := fun h9 => c_91 ((eq_nI (p := s41) (n := si) (by omega) (by omega)).mpr h9)
              refine ps_st (S' := (99, [(0, .ref m0), (1, .int (nI p)), (2, .int (nI (by2 f pM))), (3, .int (nI f0)), (4, .int (nI ib)), (5, .int (nI k)), (6, .int (nI (by2 f p))), (7, .int (nI s41))], [.int 0], M1)) rfl rfl rfl ?_
              refine ps_st (S' := (101, [(8, .int 0), (0, .ref m0), (1, .int (nI p)), (2, .int (nI (by2 f pM))), (3, .int (nI f0)), (4, .int (nI ib)), (5, .int (nI k)), (6, .int (nI (by2 f p))), (7, .int (nI s41))], [], M1)) rfl rfl rfl ?_
              refine ps_st (S' := (103, [(8, .int 0), (0, .ref m0), (1, .int (nI p)), (2, .int (nI (by2 f pM))), (3, .int (nI f0)), (4, .int (nI ib)), (5, .int (nI k)), (6, .int (nI (by2 f p))), (7, .int (nI s41))], [.int (nI s41)], M1)) rfl rfl rfl ?_
              refine ps_st (S' := (104, [(8, .int 0), (0, .ref m0), (1, .int (nI p)), (2, .int (nI (by2 f pM))), (3, .int (nI f0)), (4, .int (nI ib)), (5, .int (nI k)), (6, .int (nI (by2 f p))), (7, .int (nI s41))], [.ref m0, .int (nI s41)], M1)) rfl rfl rfl ?_
              refine pr_int (j := 10) (S' := (107, [(8, .int 0), (0, .ref m0), (1, .int (nI p)), (2, .int (nI (by2 f pM))), (3, .int (nI f0)), (4, .int (nI ib)), (5, .int (nI k)), (6, .int (nI (by2 f p))), (7, .int (nI s41))], [.int (nI sc), .int (nI s41)], M1)) rfl hR1 rfl hl10 rfl ?_
              refine ps_if2 (S1 := (114, [(8, .int 0), (0, .ref m0), (1, .int (nI p)), (2, .int (nI (by2 f pM))), (3, .int (nI f0)), (4, .int (nI ib)), (5, .int (nI k)), (6, .int (nI (by2 f p))), (7, .int (nI s41))], [], M1)) (S2 := (110, [(8, .int 0), (0, .ref m0), (1, .int (nI p)), (2, .int (nI (by2 f pM))), (3, .int (nI f0)), (4, .int (nI ib)), (5, .int (nI k)), (6, .int (nI (by2 f p))), (7, .int (nI s41))], [], M1)) rfl rfl rfl (fun c_107 => ?_) (fun c_107 => ?_)
              · have c_107 : ¬ (nI s41) = (nI sc) := of_decide_eq_true c_107
                have n_107 : ¬ (s41 = sc) := fun h9 => c_107 ((eq_nI (p := s41) (n := sc) (by omega) (by omega)).mpr h9)
                refine ps_st (S' := (115, [(0, .ref m0), (1, .int (nI p)), (2, .int (nI (by2 f pM))), (3, .int (nI f0)), (4, .int (nI ib)), (5, .int (nI k)), (6, .int (nI (by2 f p))), (7, .int (nI s41)), (8, .int 0)], [.int 0], M1)) rfl rfl rfl ?_
                refine ps_st (S' := (117, [(9, .int 0), (0, .ref m0), (1, .int (nI p)), (2, .int (nI (by2 f pM))), (3, .int (nI f0)), (4, .int (nI ib)), (5, .int (nI k)), (6, .int (nI (by2 f p))), (7, .int (nI s41)), (8, .int 0)], [], M1)) rfl rfl rfl ?_
                refine ps_st (S' := (119, [(9, .int 0), (0, .ref m0), (1, .int (nI p)), (2, .int (nI (by2 f pM))), (3, .int (nI f0)), (4, .int (nI ib)), (5, .int (nI k)), (6, .int (nI (by2 f p))), (7, .int (nI s41)), (8, .int 0)], [.int (nI s41)], M1)) rfl rfl rfl ?_
                refine ps_if (S1 := (147, [(0, .ref m0), (1, .int (nI p))], [], M1)) (S2 := (122, [(9, .int 0), (0, .ref m0), (1, .int (nI p)), (2, .int (nI (by2 f pM))), (3, .int (nI f0)), (4, .int (nI ib)), (5, .int (nI k)), (6, .int (nI (by2 f p))), (7, .int (nI s41)), (8, .int 0)], [], M1)) rfl rfl rfl (fun c_119 => ?_) (fun c_119 => ?_)
                · exact absurd (of_decide_eq_true c_119) (show ¬ ((nI s41) < 0) from fun h9 => absurd ((lt_nI (p := s41) (n := 0) (by omega) (by decide)).mp h9) (by omega))
                refine ps_st (S' := (124, [(9, .int 0), (0, .ref m0), (1, .int (nI p)), (2, .int (nI (by2 f pM))), (3, .int (nI f0)), (4, .int (nI ib)), (5, .int (nI k)), (6, .int (nI (by2 f p))), (7, .int (nI s41)), (8, .int 0)], [.int 0], M1)) rfl rfl rfl ?_
                refine ps_if (S1 := (157, [(0, .ref m0), (1, .int (nI p)), (2, .int (nI (by2 f pM))), (3, .int (nI f0)), (4, .int (nI ib)), (5, .int (nI k)), (6, .int (nI (by2 f p))), (7, .int (nI s41)), (8, .int 0), (9, .int 0)], [], M1)) (S2 := (127, [(9, .int 0), (0, .ref m0), (1, .int (nI p)), (2, .int (nI (by2 f pM))), (3, .int (nI f0)), (4, .int (nI ib)), (5, .int (nI k)), (6, .int (nI (by2 f p))), (7, .int (nI s41)), (8, .int 0)], [], M1)) rfl rfl rfl (fun c_124 => ?_) (fun c_124 => ?_)
                · exact absurd (of_decide_eq_true c_124) (by decide)
                refine ps_st (S' := (129, [(9, .int 0), (0, .ref m0), (1, .int (nI p)), (2, .int (nI (by2 f pM))), (3, .int (nI f0)), (4, .int (nI ib)), (5, .int (nI k)), (6, .int (nI (by2 f p))), (7, .int (nI s41)), (8, .int 0)], [.int 0], M1)) rfl rfl rfl ?_
                refine ps_if (S1 := (137, [(0, .ref m0), (1, .int (nI p)), (2, .int (nI (by2 f pM))), (3, .int (nI f0)), (4, .int (nI ib)), (5, .int (nI k)), (6, .int (nI (by2 f p))), (7, .int (nI s41)), (8, .int 0), (9, .int 0)], [], M1)) (S2 := (132, [(9, .int 0), (0, .ref m0), (1, .int (nI p)), (2, .int (nI (by2 f pM))), (3, .int (nI f0)), (4, .int (nI ib)), (5, .int (nI k)), (6, .int (nI (by2 f p))), (7, .int (nI s41)), (8, .int 0)], [], M1)) rfl rfl rfl (fun c_129 => ?_) (fun c_129 => ?_)
                rotate_left
                · exact absurd (by decide) (of_decide_eq_false c_129)
                refine ps_st (S' := (138, [(0, .ref m0), (1, .int (nI p)), (2, .int (nI (by2 f pM))), (3, .int (nI f0)), (4, .int (nI ib)), (5, .int (nI k)), (6, .int (nI (by2 f p))), (7, .int (nI s41)), (8, .int 0), (9, .int 0)], [.ref m0], M1)) rfl rfl rfl ?_
                refine ps_st (S' := (140, [(0, .ref m0), (1, .int (nI p)), (2, .int (nI (by2 f pM))), (3, .int (nI f0)), (4, .int (nI ib)), (5, .int (nI k)), (6, .int (nI (by2 f p))), (7, .int (nI s41)), (8, .int 0), (9, .int 0)], [.int (nI s41), .ref m0], M1)) rfl rfl rfl ?_
                refine ps_st (S' := (141, [(0, .ref m0), (1, .int (nI p)), (2, .int (nI (by2 f pM))), (3, .int (nI f0)), (4, .int (nI ib)), (5, .int (nI k)), (6, .int (nI (by2 f p))), (7, .int (nI s41)), (8, .int 0), (9, .int 0)], [.int 0, .int (nI s41), .ref m0], M1)) rfl rfl rfl ?_
                refine pl_call (a := [.ref m0, .int (nI s41), .int 0]) (rest := []) rfl rfl rfl (rd_unq0 (tx := tx) (cN := cN) (A := A) (s := s41) (l := (tX f n E (by2 f (p + 2)))) hR1 hY1 (q76_s)) (fun v42 M43 q44 => ?_)
                obtain ⟨rfl, rfl⟩ := q44
                show pl _ _ _ (144, [(0, .ref m0), (1, .int (nI p)), (2, .int (nI (by2 f pM))), (3, .int (nI f0)), (4, .int (nI ib)), (5, .int (nI k)), (6, .int (nI (by2 f p))), (7, .int (nI s41)), (8, .int 0), (9, .int 0)], [.int (nI (unq0 (tX f n E (by2 f (p + 2)))))], M1) _
                refine ps_if (S1 := (157, [(0, .ref m0), (1, .int (nI p)), (2, .int (nI (by2 f pM))), (3, .int (nI f0)), (4, .int (nI ib)), (5, .int (nI k)), (6, .int (nI (by2 f p))), (7, .int (nI s41)), (8, .int 0), (9, .int 0)], [], M1)) (S2 := (147, [(0, .ref m0), (1, .int (nI p))], [], M1)) rfl rfl rfl (fun c_144 => ?_) (fun c_144 => ?_)
                · have c_144 : ¬ (nI (unq0 (tX f n E (by2 f (p + 2))))) = 0 := of_decide_eq_true c_144
                  have n_144 : ¬ (unq0 (tX f n E (by2 f (p + 2))) = 0) := fun h9 => c_144 ((eq_nI (p := unq0 (tX f n E (by2 f (p + 2)))) (n := 0) (Nat.lt_trans (le1_unq0 _) (by decide)) (by decide)).mpr h9)
                  refine ps_st (S' := (159, [(0, .ref m0), (1, .int (nI p)), (2, .int (nI (by2 f pM))), (3, .int (nI f0)), (4, .int (nI ib)), (5, .int (nI k)), (6, .int (nI (by2 f p))), (7, .int (nI s41)), (8, .int 0), (9, .int 0)], [.int 0], M1)) rfl rfl rfl ?_
                  refine ps_if (S1 := (183, [(0, .ref m0), (1, .int (nI p)), (2, .int (nI (by2 f pM))), (3, .int (nI f0)), (4, .int (nI ib)), (5, .int (nI k)), (6, .int (nI (by2 f p))), (7, .int (nI s41)), (8, .int 0), (9, .int 0)], [], M1)) (S2 := (162, [(0, .ref m0), (1, .int (nI p)), (2, .int (nI (by2 f pM))), (3, .int (nI f0)), (4, .int (nI ib)), (5, .int (nI k)), (6, .int (nI (by2 f p))), (7, .int (nI s41)), (8, .int 0), (9, .int 0)], [], M1)) rfl rfl rfl (fun c_159 => ?_) (fun c_159 => ?_)
                  · exact absurd (of_decide_eq_true c_159) (by decide)
                  refine ps_st (S' := (163, [(0, .ref m0), (1, .int (nI p)), (2, .int (nI (by2 f pM))), (3, .int (nI f0)), (4, .int (nI ib)), (5, .int (nI k)), (6, .int (nI (by2 f p))), (7, .int (nI s41)), (8, .int 0), (9, .int 0)], [.ref m0], M1)) rfl rfl rfl ?_
                  refine ps_st (S' := (165, [(0, .ref m0), (1, .int (nI p)), (2, .int (nI (by2 f pM))), (3, .int (nI f0)), (4, .int (nI ib)), (5, .int (nI k)), (6, .int (nI (by2 f p))), (7, .int (nI s41)), (8, .int 0), (9, .int 0)], [.int (nI (by2 f p)), .ref m0], M1)) rfl rfl rfl ?_
                  refine ps_st (S' := (167, [(0, .ref m0), (1, .int (nI p)), (2, .int (nI (by2 f pM))), (3, .int (nI f0)), (4, .int (nI ib)), (5, .int (nI k)), (6, .int (nI (by2 f p))), (7, .int (nI s41)), (8, .int 0), (9, .int 0)], [.int 0, .int (nI (by2 f p)), .ref m0], M1)) rfl rfl rfl ?_
                  refine ps_st (S' := (169, [(0, .ref m0), (1, .int (nI p)), (2, .int (nI (by2 f pM))), (3, .int (nI f0)), (4, .int (nI ib)), (5, .int (nI k)), (6, .int (nI (by2 f p))), (7, .int (nI s41)), (8, .int 0), (9, .int 0)], [.int (nI ib), .int 0, .int (nI (by2 f p)), .ref m0], M1)) rfl rfl rfl ?_
                  refine pl_call (a := [.ref m0, .int (nI (by2 f p)), .int 0, .int (nI ib)]) (rest := []) rfl rfl rfl (rd_fitX (mj := mj) (x := (by2 f p)) (c := cf) (i := 0) (ib := ib) hR1 hl53 (hmj) (hu8) (by decide) (hib)) (fun v45 M46 q47 => ?_)
                  obtain ⟨rfl, rfl⟩ := q47
                  show pl _ _ _ (172, [(0, .ref m0), (1, .int (nI p)), (2, .int (nI (by2 f pM))), (3, .int (nI f0)), (4, .int (nI ib)), (5, .int (nI k)), (6, .int (nI (by2 f p))), (7, .int (nI s41)), (8, .int 0), (9, .int 0)], [.int (nI (fitN mj cf (by2 f p) 0))], M1) _
                  have hft := le1_fit mj cf (by2 f p) 0
                  refine ps_if (S1 := (183, [(0, .ref m0), (1, .int (nI p)), (2, .int (nI (by2 f pM))), (3, .int (nI f0)), (4, .int (nI ib)), (5, .int (nI k)), (6, .int (nI (by2 f p))), (7, .int (nI s41)), (8, .int 0), (9, .int 0)], [], M1)) (S2 := (175, [(0, .ref m0), (1, .int (nI p)), (2, .int (nI (by2 f pM))), (3, .int (nI f0)), (4, .int (nI ib)), (5, .int (nI k)), (6, .int (nI (by2 f p))), (7, .int (nI s41)), (8, .int 0), (9, .int 0)], [], M1)) rfl rfl rfl (fun c_172 => ?_) (fun c_172 => ?_)
                  · have c_172 : ¬ (nI (fitN mj cf (by2 f p) 0)) = 0 := of_decide_eq_true c_172
                    have n_172 : ¬ (fitN mj cf (by2 f p) 0 = 0) := fun h9 => c_172 ((eq_nI (p := fitN mj cf (by2 f p) 0) (n := 0) (Nat.lt_trans (le1_fit _ _ _ _) (by decide)) (by decide)).mpr h9)
                    have hnm : ¬ mnmN f n E cf (by2 f (p + 2)) = 0 := by
                      have m0_ := mnm_0 (f := f) (n := n) (E := E) (c := cf) (x := by2 f (p + 2))
                      have u0_ := uq0 (l := tX f n E (by2 f (p + 2)))
                      omega
                    have hfl : ¬ mflN f n E cf mj (by2 f p) (by2 f (p + 2)) = 0 := by
                      rw [mfl_n (by omega) (by omega)]
                      omega
                    exact ih.2.1 (k) (p) (ib) (s41) (0) (0) M1 I1 R1 hR1 hEI1 hER1 hl51 hl52 hl53 hl58 hl56 hl26 hl9 hl10 hF1 hY1 hP1 hK1 hN91 (by omega) (hpk) (hpe) (hs) (hib) (q76_s) (by omega) (hnm) (hfl) (by omega) (by omega)
                  · have c_172 : ¬ (¬ (nI (fitN mj cf (by2 f p) 0)) = 0) := of_decide_eq_false c_172
                    have n_172 : fitN mj cf (by2 f p) 0 = 0 := (eq_nI (p := fitN mj cf (by2 f p) 0) (n := 0) (Nat.lt_trans (le1_fit _ _ _ _) (by decide)) (by decide)).mp (Decidable.not_not.mp c_172)
                    refine ps_st (S' := (176, [(0, .ref m0), (1, .int (nI p)), (2, .int (nI (by2 f pM))), (3, .int (nI f0)), (4, .int (nI ib)), (5, .int (nI k)), (6, .int (nI (by2 f p))), (7, .int (nI s41)), (8, .int 0), (9, .int 0)], [.ref m0], M1)) rfl rfl rfl ?_
                    refine ps_st (S' := (178, [(0, .ref m0), (1, .int (nI p)), (2, .int (nI (by2 f pM))), (3, .int (nI f0)), (4, .int (nI ib)), (5, .int (nI k)), (6, .int (nI (by2 f p))), (7, .int (nI s41)), (8, .int 0), (9, .int 0)], [.int 23, .ref m0], M1)) rfl rfl rfl ?_
                    refine ps_st (S' := (179, [(0, .ref m0), (1, .int (nI p)), (2, .int (nI (by2 f pM))), (3, .int (nI f0)), (4, .int (nI ib)), (5, .int (nI k)), (6, .int (nI (by2 f p))), (7, .int (nI s41)), (8, .int 0), (9, .int 0)], [.int (nI p), .int 23, .ref m0], M1)) rfl rfl rfl ?_
                    refine pl_call (a := [.ref m0, .int 23, .int (nI p)]) (rest := []) rfl rfl rfl (rd_wrong (x1 := 23) (x2 := (nI p)) hR1) (fun v48 M49 q50 => ?_)
                    obtain ⟨I51, R52, rfl, hR53, hI54, hX55, hi56, hi57⟩ := q50
                    have hi58 := (hI54 51 (by decide)).trans hl51
                    have hi59 := (hI54 52 (by decide)).trans hl52
                    have hi60 := (hI54 53 (by decide)).trans hl53
                    have hi61 := (hI54 58 (by decide)).trans hl58
                    have hi62 := (hI54 56 (by decide)).trans hl56
                    have hi63 := (hI54 26 (by decide)).trans hl26
                    have hi64 := (hI54 9 (by decide)).trans hl9
                    have hi65 := (hI54 10 (by decide)).trans hl10
                    have hF_66 := hF1.mono (cIx hI54 (by decide)) (cRx hX55 (by decide))
                    have hY_67 := hY1.mono (cIx hI54 (by decide)) (cRx hX55 (by decide))
                    have hP_68 := hP1.mono (cIx hI54 (by decide)) (cRx hX55 (by decide))
                    have hK_69 := hK1.mono (cIx hI54 (by decide)) (cRx hX55 (by decide))
                    have hN9_70 := hN91.mono (cIx hI54 (by decide)) (cRx hX55 (by decide))
                    have hEI71 := hEI1.tr hI54 (by decide)
                    have hER72 := hER1.tr hX55 (by decide)
                    show pl _ _ _ (182, [(0, .ref m0), (1, .int (nI p)), (2, .int (nI (by2 f pM))), (3, .int (nI f0)), (4, .int (nI ib)), (5, .int (nI k)), (6, .int (nI (by2 f p))), (7, .int (nI s41)), (8, .int 0), (9, .int 0)], [.int 0], M49) _
                    exact ps_ret rfl rfl (Or.inr ⟨(23, p), I51, R52, by
                        have m0_ := mnm_0 (f := f) (n := n) (E := E) (c := cf) (x := by2 f (p + 2))
                        have u0_ := uq0 (l := tX f n E (by2 f (p + 2)))
                        rw [← hs, mtS_st (i := k) (by omega), ← hpk, mh_23 (by omega) (by rw [mfl_n (by omega) (by omega)]; omega)], rfl, hR53, hEI71, hER72, hi56, hi57⟩)
                · have c_144 : ¬ (¬ (nI (unq0 (tX f n E (by2 f (p + 2))))) = 0) := of_decide_eq_false c_144
                  have n_144 : unq0 (tX f n E (by2 f (p + 2))) = 0 := (eq_nI (p := unq0 (tX f n E (by2 f (p + 2)))) (n := 0) (Nat.lt_trans (le1_unq0 _) (by decide)) (by decide)).mp (Decidable.not_not.mp c_144)
                  refine ps_st (S' := (148, [(0, .ref m0), (1, .int (nI p))], [.ref m0], M1)) rfl rfl rfl ?_
                  refine ps_st (S' := (150, [(0, .ref m0), (1, .int (nI p))], [.int 24, .ref m0], M1)) rfl rfl rfl ?_
                  refine ps_st (S' := (151, [(0, .ref m0), (1, .int (nI p))], [.int (nI p), .int 24, .ref m0], M1)) rfl rfl rfl ?_
                  refine ps_st (S' := (152, [(0, .ref m0), (1, .int (nI p))], [.int 2, .int (nI p), .int 24, .ref m0], M1)) rfl rfl rfl ?_
                  refine ps_st (S' := (153, [(0, .ref m0), (1, .int (nI p))], [.int ((nI p) + 2), .int 24, .ref m0], M1)) rfl rfl rfl ?_
                  rw [nI_add1 (p := p) (k := 2) (x := 2) rfl (by omega)]
                  show pl _ _ _ (_, [(0, .ref m0), (1, .int (nI p))], [.int (nI (p + 2)), .int 24, .ref m0], M1) _
                  refine pl_call (a := [.ref m0, .int 24, .int (nI (p + 2))]) (rest := []) rfl rfl rfl (rd_wrong (x1 := 24) (x2 := (nI (p + 2))) hR1) (fun v73 M74 q75 => ?_)
                  obtain ⟨I76, R77, rfl, hR78, hI79, hX80, hi81, hi82⟩ := q75
                  have hi83 := (hI79 51 (by decide)).trans hl51
                  have hi84 := (hI79 52 (by decide)).trans hl52
                  have hi85 := (hI79 53 (by decide)).trans hl53
                  have hi86 := (hI79 58 (by decide)).trans hl58
                  have hi87 := (hI79 56 (by decide)).trans hl56
                  have hi88 := (hI79 26 (by decide)).trans hl26
                  have hi89 := (hI79 9 (by decide)).trans hl9
                  have hi90 := (hI79 10 (by decide)).trans hl10
                  have hF_91 := hF1.mono (cIx hI79 (by decide)) (cRx hX80 (by decide))
                  have hY_92 := hY1.mono (cIx hI79 (by decide)) (cRx hX80 (by decide))
                  have hP_93 := hP1.mono (cIx hI79 (by decide)) (cRx hX80 (by decide))
                  have hK_94 := hK1.mono (cIx hI79 (by decide)) (cRx hX80 (by decide))
                  have hN9_95 := hN91.mono (cIx hI79 (by decide)) (cRx hX80 (by decide))
                  have hEI96 := hEI1.tr hI79 (by decide)
                  have hER97 := hER1.tr hX80 (by decide)
                  show pl _ _ _ (156, [(0, .ref m0), (1, .int (nI p))], [.int 0], M74) _
                  exact ps_ret rfl rfl (Or.inr ⟨(24, p + 2), I76, R77, by
                      rw [← hs, mtS_st (i := k) (by omega), ← hpk, mh_24 (by have m0_ := mnm_0 (f := f) (n := n) (E := E) (c := cf) (x := by2 f (p + 2)); have u0_ := uq0 (l := tX f n E (by2 f (p + 2))); omega)], rfl, hR78, hEI96, hER97, hi81, hi82⟩)
              · have c_107 : ¬ (¬ (nI s41) = (nI sc)) := of_decide_eq_false c_107
                have n_107 : s41 = sc := (eq_nI (p := s41) (n := sc) (by omega) (by omega)).mp (Decidable.not_not.mp c_107)
                refine ps_st (S' := (111, [(8, .int 0), (0, .ref m0), (1, .int (nI p)), (2, .int (nI (by2 f pM))), (3, .int (nI f0)), (4, .int (nI ib)), (5, .int (nI k)), (6, .int (nI (by2 f p))), (7, .int (nI s41))], [.int 1], M1)) rfl rfl rfl ?_
                refine ps_st (S' := (115, [(0, .ref m0), (1, .int (nI p)), (2, .int (nI (by2 f pM))), (3, .int (nI f0)), (4, .int (nI ib)), (5, .int (nI k)), (6, .int (nI (by2 f p))), (7, .int (nI s41)), (8, .int 0)], [.int 1], M1)) rfl rfl rfl ?_
                refine ps_st (S' := (117, [(9, .int 1), (0, .ref m0), (1, .int (nI p)), (2, .int (nI (by2 f pM))), (3, .int (nI f0)), (4, .int (nI ib)), (5, .int (nI k)), (6, .int (nI (by2 f p))), (7, .int (nI s41)), (8, .int 0)], [], M1)) rfl rfl rfl ?_
                refine ps_st (S' := (119, [(9, .int 1), (0, .ref m0), (1, .int (nI p)), (2, .int (nI (by2 f pM))), (3, .int (nI f0)), (4, .int (nI ib)), (5, .int (nI k)), (6, .int (nI (by2 f p))), (7, .int (nI s41)), (8, .int 0)], [.int (nI s41)], M1)) rfl rfl rfl ?_
                refine ps_if (S1 := (147, [(0, .ref m0), (1, .int (nI p))], [], M1)) (S2 := (122, [(9, .int 1), (0, .ref m0), (1, .int (nI p)), (2, .int (nI (by2 f pM))), (3, .int (nI f0)), (4, .int (nI ib)), (5, .int (nI k)), (6, .int (nI (by2 f p))), (7, .int (nI s41)), (8, .int 0)], [], M1)) rfl rfl rfl (fun c_119 => ?_) (fun c_119 => ?_)
                · exact absurd (of_decide_eq_true c_119) (show ¬ ((nI s41) < 0) from fun h9 => absurd ((lt_nI (p := s41) (n := 0) (by omega) (by decide)).mp h9) (by omega))
                refine ps_st (S' := (124, [(9, .int 1), (0, .ref m0), (1, .int (nI p)), (2, .int (nI (by2 f pM))), (3, .int (nI f0)), (4, .int (nI ib)), (5, .int (nI k)), (6, .int (nI (by2 f p))), (7, .int (nI s41)), (8, .int 0)], [.int 1], M1)) rfl rfl rfl ?_
                refine ps_if (S1 := (157, [(0, .ref m0), (1, .int (nI p)), (2, .int (nI (by2 f pM))), (3, .int (nI f0)), (4, .int (nI ib)), (5, .int (nI k)), (6, .int (nI (by2 f p))), (7, .int (nI s41)), (8, .int 0), (9, .int 1)], [], M1)) (S2 := (127, [(9, .int 1), (0, .ref m0), (1, .int (nI p)), (2, .int (nI (by2 f pM))), (3, .int (nI f0)), (4, .int (nI ib)), (5, .int (nI k)), (6, .int (nI (by2 f p))), (7, .int (nI s41)), (8, .int 0)], [], M1)) rfl rfl rfl (fun c_124 => ?_) (fun c_124 => ?_)
                rotate_left
                · exact absurd (by decide) (of_decide_eq_false c_124)
                refine ps_st (S' := (159, [(0, .ref m0), (1, .int (nI p)), (2, .int (nI (by2 f pM))), (3, .int (nI f0)), (4, .int (nI ib)), (5, .int (nI k)), (6, .int (nI (by2 f p))), (7, .int (nI s41)), (8, .int 0), (9, .int 1)], [.int 1], M1)) rfl rfl rfl ?_
                refine ps_if (S1 := (183, [(0, .ref m0), (1, .int (nI p)), (2, .int (nI (by2 f pM))), (3, .int (nI f0)), (4, .int (nI ib)), (5, .int (nI k)), (6, .int (nI (by2 f p))), (7, .int (nI s41)), (8, .int 0), (9, .int 1)], [], M1)) (S2 := (162, [(0, .ref m0), (1, .int (nI p)), (2, .int (nI (by2 f pM))), (3, .int (nI f0)), (4, .int (nI ib)), (5, .int (nI k)), (6, .int (nI (by2 f p))), (7, .int (nI s41)), (8, .int 0), (9, .int 1)], [], M1)) rfl rfl rfl (fun c_159 => ?_) (fun c_159 => ?_)
                rotate_left
                · exact absurd (by decide) (of_decide_eq_false c_159)
                have hnm : ¬ mnmN f n E cf (by2 f (p + 2)) = 0 := by
                  have m0_ := mnm_0 (f := f) (n := n) (E := E) (c := cf) (x := by2 f (p + 2))
                  have u0_ := uq0 (l := tX f n E (by2 f (p + 2)))
                  omega
                have hfl : ¬ mflN f n E cf mj (by2 f p) (by2 f (p + 2)) = 0 := by
                  rw [mfl_c (by omega)]
                  omega
                exact ih.2.1 (k) (p) (ib) (s41) (1) (0) M1 I1 R1 hR1 hEI1 hER1 hl51 hl52 hl53 hl58 hl56 hl26 hl9 hl10 hF1 hY1 hP1 hK1 hN91 (by omega) (hpk) (hpe) (hs) (hib) (q76_s) (by omega) (hnm) (hfl) (by omega) (by omega)
            · have c_91 : ¬ (¬ (nI s41) = (nI si)) := of_decide_eq_false c_91
              have n_91 : s41 = si := (eq_nI (p := s41) (n := si) (by omega) (by omega)).mp (Decidable.not_not.mp c_91)
              refine ps_st (S' := (95, [(7, .int (nI s41)), (0, .ref m0), (1, .int (nI p)), (2, .int (nI (by2 f pM))), (3, .int (nI f0)), (4, .int (nI ib)), (5, .int (nI k)), (6, .int (nI (by2 f p)))], [.int 1], M1)) rfl rfl rfl ?_
              refine ps_st (S' := (99, [(0, .ref m0), (1, .int (nI p)), (2, .int (nI (by2 f pM))), (3, .int (nI f0)), (4, .int (nI ib)), (5, .int (nI k)), (6, .int (nI (by2 f p))), (7, .int (nI s41))], [.int 1], M1)) rfl rfl rfl ?_
              refine ps_st (S' := (101, [(8, .int 1), (0, .ref m0), (1, .int (nI p)), (2, .int (nI (by2 f pM))), (3, .int (nI f0)), (4, .int (nI ib)), (5, .int (nI k)), (6, .int (nI (by2 f p))), (7, .int (nI s41))], [], M1)) rfl rfl rfl ?_
              refine ps_st (S' := (103, [(8, .int 1), (0, .ref m0), (1, .int (nI p)), (2, .int (nI (by2 f pM))), (3, .int (nI f0)), (4, .int (nI ib)), (5, .int (nI k)), (6, .int (nI (by2 f p))), (7, .int (nI s41))], [.int (nI s41)], M1)) rfl rfl rfl ?_
              refine ps_st (S' := (104, [(8, .int 1), (0, .ref m0), (1, .int (nI p)), (2, .int (nI (by2 f pM))), (3, .int (nI f0)), (4, .int (nI ib)), (5, .int (nI k)), (6, .int (nI (by2 f p))), (7, .int (nI s41))], [.ref m0, .int (nI s41)], M1)) rfl rfl rfl ?_
              refine pr_int (j := 10) (S' := (107, [(8, .int 1), (0, .ref m0), (1, .int (nI p)), (2, .int (nI (by2 f pM))), (3, .int (nI f0)), (4, .int (nI ib)), (5, .int (nI k)), (6, .int (nI (by2 f p))), (7, .int (nI s41))], [.int (nI sc), .int (nI s41)], M1)) rfl hR1 rfl hl10 rfl ?_
              refine ps_if2 (S1 := (114, [(8, .int 1), (0, .ref m0), (1, .int (nI p)), (2, .int (nI (by2 f pM))), (3, .int (nI f0)), (4, .int (nI ib)), (5, .int (nI k)), (6, .int (nI (by2 f p))), (7, .int (nI s41))], [], M1)) (S2 := (110, [(8, .int 1), (0, .ref m0), (1, .int (nI p)), (2, .int (nI (by2 f pM))), (3, .int (nI f0)), (4, .int (nI ib)), (5, .int (nI k)), (6, .int (nI (by2 f p))), (7, .int (nI s41))], [], M1)) rfl rfl rfl (fun c_107 => ?_) (fun c_107 => ?_)
              · have c_107 : ¬ (nI s41) = (nI sc) := of_decide_eq_true c_107
                have n_107 : ¬ (s41 = sc) := fun h9 => c_107 ((eq_nI (p := s41) (n := sc) (by omega) (by omega)).mpr h9)
                refine ps_st (S' := (115, [(0, .ref m0), (1, .int (nI p)), (2, .int (nI (by2 f pM))), (3, .int (nI f0)), (4, .int (nI ib)), (5, .int (nI k)), (6, .int (nI (by2 f p))), (7, .int (nI s41)), (8, .int 1)], [.int 0], M1)) rfl rfl rfl ?_
                refine ps_st (S' := (117, [(9, .int 0), (0, .ref m0), (1, .int (nI p)), (2, .int (nI (by2 f pM))), (3, .int (nI f0)), (4, .int (nI ib)), (5, .int (nI k)), (6, .int (nI (by2 f p))), (7, .int (nI s41)), (8, .int 1)], [], M1)) rfl rfl rfl ?_
                refine ps_st (S' := (119, [(9, .int 0), (0, .ref m0), (1, .int (nI p)), (2, .int (nI (by2 f pM))), (3, .int (nI f0)), (4, .int (nI ib)), (5, .int (nI k)), (6, .int (nI (by2 f p))), (7, .int (nI s41)), (8, .int 1)], [.int (nI s41)], M1)) rfl rfl rfl ?_
                refine ps_if (S1 := (147, [(0, .ref m0), (1, .int (nI p))], [], M1)) (S2 := (122, [(9, .int 0), (0, .ref m0), (1, .int (nI p)), (2, .int (nI (by2 f pM))), (3, .int (nI f0)), (4, .int (nI ib)), (5, .int (nI k)), (6, .int (nI (by2 f p))), (7, .int (nI s41)), (8, .int 1)], [], M1)) rfl rfl rfl (fun c_119 => ?_) (fun c_119 => ?_)
                · exact absurd (of_decide_eq_true c_119) (show ¬ ((nI s41) < 0) from fun h9 => absurd ((lt_nI (p := s41) (n := 0) (by omega) (by decide)).mp h9) (by omega))
                refine ps_st (S' := (124, [(9, .int 0), (0, .ref m0), (1, .int (nI p)), (2, .int (nI (by2 f pM))), (3, .int (nI f0)), (4, .int (nI ib)), (5, .int (nI k)), (6, .int (nI (by2 f p))), (7, .int (nI s41)), (8, .int 1)], [.int 0], M1)) rfl rfl rfl ?_
                refine ps_if (S1 := (157, [(0, .ref m0), (1, .int (nI p)), (2, .int (nI (by2 f pM))), (3, .int (nI f0)), (4, .int (nI ib)), (5, .int (nI k)), (6, .int (nI (by2 f p))), (7, .int (nI s41)), (8, .int 1), (9, .int 0)], [], M1)) (S2 := (127, [(9, .int 0), (0, .ref m0), (1, .int (nI p)), (2, .int (nI (by2 f pM))), (3, .int (nI f0)), (4, .int (nI ib)), (5, .int (nI k)), (6, .int (nI (by2 f p))), (7, .int (nI s41)), (8, .int 1)], [], M1)) rfl rfl rfl (fun c_124 => ?_) (fun c_124 => ?_)
                · exact absurd (of_decide_eq_true c_124) (by decide)
                refine ps_st (S' := (129, [(9, .int 0), (0, .ref m0), (1, .int (nI p)), (2, .int (nI (by2 f pM))), (3, .int (nI f0)), (4, .int (nI ib)), (5, .int (nI k)), (6, .int (nI (by2 f p))), (7, .int (nI s41)), (8, .int 1)], [.int 1], M1)) rfl rfl rfl ?_
                refine ps_if (S1 := (137, [(0, .ref m0), (1, .int (nI p)), (2, .int (nI (by2 f pM))), (3, .int (nI f0)), (4, .int (nI ib)), (5, .int (nI k)), (6, .int (nI (by2 f p))), (7, .int (nI s41)), (8, .int 1), (9, .int 0)], [], M1)) (S2 := (132, [(9, .int 0), (0, .ref m0), (1, .int (nI p)), (2, .int (nI (by2 f pM))), (3, .int (nI f0)), (4, .int (nI ib)), (5, .int (nI k)), (6, .int (nI (by2 f p))), (7, .int (nI s41)), (8, .int 1)], [], M1)) rfl rfl rfl (fun c_129 => ?_) (fun c_129 => ?_)
                · exact absurd (of_decide_eq_true c_129) (by decide)
                refine ps_st (S' := (134, [(9, .int 0), (0, .ref m0), (1, .int (nI p)), (2, .int (nI (by2 f pM))), (3, .int (nI f0)), (4, .int (nI ib)), (5, .int (nI k)), (6, .int (nI (by2 f p))), (7, .int (nI s41)), (8, .int 1)], [.int (nI ib)], M1)) rfl rfl rfl ?_
                refine ps_if (S1 := (157, [(0, .ref m0), (1, .int (nI p)), (2, .int (nI (by2 f pM))), (3, .int (nI f0)), (4, .int (nI ib)), (5, .int (nI k)), (6, .int (nI (by2 f p))), (7, .int (nI s41)), (8, .int 1), (9, .int 0)], [], M1)) (S2 := (137, [(0, .ref m0), (1, .int (nI p)), (2, .int (nI (by2 f pM))), (3, .int (nI f0)), (4, .int (nI ib)), (5, .int (nI k)), (6, .int (nI (by2 f p))), (7, .int (nI s41)), (8, .int 1), (9, .int 0)], [], M1)) rfl rfl rfl (fun c_134 => ?_) (fun c_134 => ?_)
                · have c_134 : (nI ib) = 0 := of_decide_eq_true c_134
                  have n_134 : ib = 0 := (eq_nI (p := ib) (n := 0) (by omega) (by decide)).mp c_134
                  refine ps_st (S' := (159, [(0, .ref m0), (1, .int (nI p)), (2, .int (nI (by2 f pM))), (3, .int (nI f0)), (4, .int (nI ib)), (5, .int (nI k)), (6, .int (nI (by2 f p))), (7, .int (nI s41)), (8, .int 1), (9, .int 0)], [.int 0], M1)) rfl rfl rfl ?_
                  refine ps_if (S1 := (183, [(0, .ref m0), (1, .int (nI p)), (2, .int (nI (by2 f pM))), (3, .int (nI f0)), (4, .int (nI ib)), (5, .int (nI k)), (6, .int (nI (by2 f p))), (7, .int (nI s41)), (8, .int 1), (9, .int 0)], [], M1)) (S2 := (162, [(0, .ref m0), (1, .int (nI p)), (2, .int (nI (by2 f pM))), (3, .int (nI f0)), (4, .int (nI ib)), (5, .int (nI k)), (6, .int (nI (by2 f p))), (7, .int (nI s41)), (8, .int 1), (9, .int 0)], [], M1)) rfl rfl rfl (fun c_159 => ?_) (fun c_159 => ?_)
                  · exact absurd (of_decide_eq_true c_159) (by decide)
                  refine ps_st (S' := (163, [(0, .ref m0), (1, .int (nI p)), (2, .int (nI (by2 f pM))), (3, .int (nI f0)), (4, .int (nI ib)), (5, .int (nI k)), (6, .int (nI (by2 f p))), (7, .int (nI s41)), (8, .int 1), (9, .int 0)], [.ref m0], M1)) rfl rfl rfl ?_
                  refine ps_st (S' := (165, [(0, .ref m0), (1, .int (nI p)), (2, .int (nI (by2 f pM))), (3, .int (nI f0)), (4, .int (nI ib)), (5, .int (nI k)), (6, .int (nI (by2 f p))), (7, .int (nI s41)), (8, .int 1), (9, .int 0)], [.int (nI (by2 f p)), .ref m0], M1)) rfl rfl rfl ?_
                  refine ps_st (S' := (167, [(0, .ref m0), (1, .int (nI p)), (2, .int (nI (by2 f pM))), (3, .int (nI f0)), (4, .int (nI ib)), (5, .int (nI k)), (6, .int (nI (by2 f p))), (7, .int (nI s41)), (8, .int 1), (9, .int 0)], [.int 1, .int (nI (by2 f p)), .ref m0], M1)) rfl rfl rfl ?_
                  refine ps_st (S' := (169, [(0, .ref m0), (1, .int (nI p)), (2, .int (nI (by2 f pM))), (3, .int (nI f0)), (4, .int (nI ib)), (5, .int (nI k)), (6, .int (nI (by2 f p))), (7, .int (nI s41)), (8, .int 1), (9, .int 0)], [.int (nI ib), .int 1, .int (nI (by2 f p)), .ref m0], M1)) rfl rfl rfl ?_
                  refine pl_call (a := [.ref m0, .int (nI (by2 f p)), .int 1, .int (nI ib)]) (rest := []) rfl rfl rfl (rd_fitX (mj := mj) (x := (by2 f p)) (c := cf) (i := 1) (ib := ib) hR1 hl53 (hmj) (hu8) (by decide) (hib)) (fun v98 M99 q100 => ?_)
                  obtain ⟨rfl, rfl⟩ := q100
                  show pl _ _ _ (172, [(0, .ref m0), (1, .int (nI p)), (2, .int (nI (by2 f pM))), (3, .int (nI f0)), (4, .int (nI ib)), (5, .int (nI k)), (6, .int (nI (by2 f p))), (7, .int (nI s41)), (8, .int 1), (9, .int 0)], [.int (nI (fitN mj cf (by2 f p) 1))], M1) _
                  have hft := le1_fit mj cf (by2 f p) 1
                  refine ps_if (S1 := (183, [(0, .ref m0), (1, .int (nI p)), (2, .int (nI (by2 f pM))), (3, .int (nI f0)), (4, .int (nI ib)), (5, .int (nI k)), (6, .int (nI (by2 f p))), (7, .int (nI s41)), (8, .int 1), (9, .int 0)], [], M1)) (S2 := (175, [(0, .ref m0), (1, .int (nI p)), (2, .int (nI (by2 f pM))), (3, .int (nI f0)), (4, .int (nI ib)), (5, .int (nI k)), (6, .int (nI (by2 f p))), (7, .int (nI s41)), (8, .int 1), (9, .int 0)], [], M1)) rfl rfl rfl (fun c_172 => ?_) (fun c_172 => ?_)
                  · have c_172 : ¬ (nI (fitN mj cf (by2 f p) 1)) = 0 := of_decide_eq_true c_172
                    have n_172 : ¬ (fitN mj cf (by2 f p) 1 = 0) := fun h9 => c_172 ((eq_nI (p := fitN mj cf (by2 f p) 1) (n := 0) (Nat.lt_trans (le1_fit _ _ _ _) (by decide)) (by decide)).mpr h9)
                    have hnm : ¬ mnmN f n E cf (by2 f (p + 2)) = 0 := by
                      have m0_ := mnm_0 (f := f) (n := n) (E := E) (c := cf) (x := by2 f (p + 2))
                      have u0_ := uq0 (l := tX f n E (by2 f (p + 2)))
                      omega
                    have hfl : ¬ mflN f n E cf mj (by2 f p) (by2 f (p + 2)) = 0 := by
                      rw [mfl_i (by omega) (by omega)]
                      omega
                    exact ih.2.1 (k) (p) (ib) (s41) (0) (1) M1 I1 R1 hR1 hEI1 hER1 hl51 hl52 hl53 hl58 hl56 hl26 hl9 hl10 hF1 hY1 hP1 hK1 hN91 (by omega) (hpk) (hpe) (hs) (hib) (q76_s) (by omega) (hnm) (hfl) (by omega) (by omega)
                  · have c_172 : ¬ (¬ (nI (fitN mj cf (by2 f p) 1)) = 0) := of_decide_eq_false c_172
                    have n_172 : fitN mj cf (by2 f p) 1 = 0 := (eq_nI (p := fitN mj cf (by2 f p) 1) (n := 0) (Nat.lt_trans (le1_fit _ _ _ _) (by decide)) (by decide)).mp (Decidable.not_not.mp c_172)
                    refine ps_st (S' := (176, [(0, .ref m0), (1, .int (nI p)), (2, .int (nI (by2 f pM))), (3, .int (nI f0)), (4, .int (nI ib)), (5, .int (nI k)), (6, .int (nI (by2 f p))), (7, .int (nI s41)), (8, .int 1), (9, .int 0)], [.ref m0], M1)) rfl rfl rfl ?_
                    refine ps_st (S' := (178, [(0, .ref m0), (1, .int (nI p)), (2, .int (nI (by2 f pM))), (3, .int (nI f0)), (4, .int (nI ib)), (5, .int (nI k)), (6, .int (nI (by2 f p))), (7, .int (nI s41)), (8, .int 1), (9, .int 0)], [.int 23, .ref m0], M1)) rfl rfl rfl ?_
                    refine ps_st (S' := (179, [(0, .ref m0), (1, .int (nI p)), (2, .int (nI (by2 f pM))), (3, .int (nI f0)), (4, .int (nI ib)), (5, .int (nI k)), (6, .int (nI (by2 f p))), (7, .int (nI s41)), (8, .int 1), (9, .int 0)], [.int (nI p), .int 23, .ref m0], M1)) rfl rfl rfl ?_
                    refine pl_call (a := [.ref m0, .int 23, .int (nI p)]) (rest := []) rfl rfl rfl (rd_wrong (x1 := 23) (x2 := (nI p)) hR1) (fun v101 M102 q103 => ?_)
                    obtain ⟨I104, R105, rfl, hR106, hI107, hX108, hi109, hi110⟩ := q103
                    have hi111 := (hI107 51 (by decide)).trans hl51
                    have hi112 := (hI107 52 (by decide)).trans hl52
                    have hi113 := (hI107 53 (by decide)).trans hl53
                    have hi114 := (hI107 58 (by decide)).trans hl58
                    have hi115 := (hI107 56 (by decide)).trans hl56
                    have hi116 := (hI107 26 (by decide)).trans hl26
                    have hi117 := (hI107 9 (by decide)).trans hl9
                    have hi118 := (hI107 10 (by decide)).trans hl10
                    have hF_119 := hF1.mono (cIx hI107 (by decide)) (cRx hX108 (by decide))
                    have hY_120 := hY1.mono (cIx hI107 (by decide)) (cRx hX108 (by decide))
                    have hP_121 := hP1.mono (cIx hI107 (by decide)) (cRx hX108 (by decide))
                    have hK_122 := hK1.mono (cIx hI107 (by decide)) (cRx hX108 (by decide))
                    have hN9_123 := hN91.mono (cIx hI107 (by decide)) (cRx hX108 (by decide))
                    have hEI124 := hEI1.tr hI107 (by decide)
                    have hER125 := hER1.tr hX108 (by decide)
                    show pl _ _ _ (182, [(0, .ref m0), (1, .int (nI p)), (2, .int (nI (by2 f pM))), (3, .int (nI f0)), (4, .int (nI ib)), (5, .int (nI k)), (6, .int (nI (by2 f p))), (7, .int (nI s41)), (8, .int 1), (9, .int 0)], [.int 0], M102) _
                    exact ps_ret rfl rfl (Or.inr ⟨(23, p), I104, R105, by
                        have m0_ := mnm_0 (f := f) (n := n) (E := E) (c := cf) (x := by2 f (p + 2))
                        have u0_ := uq0 (l := tX f n E (by2 f (p + 2)))
                        rw [← hs, mtS_st (i := k) (by omega), ← hpk, mh_23 (by omega) (by rw [mfl_i (by omega) (by omega)]; omega)], rfl, hR106, hEI124, hER125, hi109, hi110⟩)
                · have c_134 : ¬ ((nI ib) = 0) := of_decide_eq_false c_134
                  have n_134 : ¬ (ib = 0) := fun h9 => c_134 ((eq_nI (p := ib) (n := 0) (by omega) (by decide)).mpr h9)
                  refine ps_st (S' := (138, [(0, .ref m0), (1, .int (nI p)), (2, .int (nI (by2 f pM))), (3, .int (nI f0)), (4, .int (nI ib)), (5, .int (nI k)), (6, .int (nI (by2 f p))), (7, .int (nI s41)), (8, .int 1), (9, .int 0)], [.ref m0], M1)) rfl rfl rfl ?_
                  refine ps_st (S' := (140, [(0, .ref m0), (1, .int (nI p)), (2, .int (nI (by2 f pM))), (3, .int (nI f0)), (4, .int (nI ib)), (5, .int (nI k)), (6, .int (nI (by2 f p))), (7, .int (nI s41)), (8, .int 1), (9, .int 0)], [.int (nI s41), .ref m0], M1)) rfl rfl rfl ?_
                  refine ps_st (S' := (141, [(0, .ref m0), (1, .int (nI p)), (2, .int (nI (by2 f pM))), (3, .int (nI f0)), (4, .int (nI ib)), (5, .int (nI k)), (6, .int (nI (by2 f p))), (7, .int (nI s41)), (8, .int 1), (9, .int 0)], [.int 0, .int (nI s41), .ref m0], M1)) rfl rfl rfl ?_
                  refine pl_call (a := [.ref m0, .int (nI s41), .int 0]) (rest := []) rfl rfl rfl (rd_unq0 (tx := tx) (cN := cN) (A := A) (s := s41) (l := (tX f n E (by2 f (p + 2)))) hR1 hY1 (q76_s)) (fun v126 M127 q128 => ?_)
                  obtain ⟨rfl, rfl⟩ := q128
                  show pl _ _ _ (144, [(0, .ref m0), (1, .int (nI p)), (2, .int (nI (by2 f pM))), (3, .int (nI f0)), (4, .int (nI ib)), (5, .int (nI k)), (6, .int (nI (by2 f p))), (7, .int (nI s41)), (8, .int 1), (9, .int 0)], [.int (nI (unq0 (tX f n E (by2 f (p + 2)))))], M1) _
                  refine ps_if (S1 := (157, [(0, .ref m0), (1, .int (nI p)), (2, .int (nI (by2 f pM))), (3, .int (nI f0)), (4, .int (nI ib)), (5, .int (nI k)), (6, .int (nI (by2 f p))), (7, .int (nI s41)), (8, .int 1), (9, .int 0)], [], M1)) (S2 := (147, [(0, .ref m0), (1, .int (nI p))], [], M1)) rfl rfl rfl (fun c_144 => ?_) (fun c_144 => ?_)
                  · have c_144 : ¬ (nI (unq0 (tX f n E (by2 f (p + 2))))) = 0 := of_decide_eq_true c_144
                    have n_144 : ¬ (unq0 (tX f n E (by2 f (p + 2))) = 0) := fun h9 => c_144 ((eq_nI (p := unq0 (tX f n E (by2 f (p + 2)))) (n := 0) (Nat.lt_trans (le1_unq0 _) (by decide)) (by decide)).mpr h9)
                    refine ps_st (S' := (159, [(0, .ref m0), (1, .int (nI p)), (2, .int (nI (by2 f pM))), (3, .int (nI f0)), (4, .int (nI ib)), (5, .int (nI k)), (6, .int (nI (by2 f p))), (7, .int (nI s41)), (8, .int 1), (9, .int 0)], [.int 0], M1)) rfl rfl rfl ?_
                    refine ps_if (S1 := (183, [(0, .ref m0), (1, .int (nI p)), (2, .int (nI (by2 f pM))), (3, .int (nI f0)), (4, .int (nI ib)), (5, .int (nI k)), (6, .int (nI (by2 f p))), (7, .int (nI s41)), (8, .int 1), (9, .int 0)], [], M1)) (S2 := (162, [(0, .ref m0), (1, .int (nI p)), (2, .int (nI (by2 f pM))), (3, .int (nI f0)), (4, .int (nI ib)), (5, .int (nI k)), (6, .int (nI (by2 f p))), (7, .int (nI s41)), (8, .int 1), (9, .int 0)], [], M1)) rfl rfl rfl (fun c_159 => ?_) (fun c_159 => ?_)
                    · exact absurd (of_decide_eq_true c_159) (by decide)
                    refine ps_st (S' := (163, [(0, .ref m0), (1, .int (nI p)), (2, .int (nI (by2 f pM))), (3, .int (nI f0)), (4, .int (nI ib)), (5, .int (nI k)), (6, .int (nI (by2 f p))), (7, .int (nI s41)), (8, .int 1), (9, .int 0)], [.ref m0], M1)) rfl rfl rfl ?_
                    refine ps_st (S' := (165, [(0, .ref m0), (1, .int (nI p)), (2, .int (nI (by2 f pM))), (3, .int (nI f0)), (4, .int (nI ib)), (5, .int (nI k)), (6, .int (nI (by2 f p))), (7, .int (nI s41)), (8, .int 1), (9, .int 0)], [.int (nI (by2 f p)), .ref m0], M1)) rfl rfl rfl ?_
                    refine ps_st (S' := (167, [(0, .ref m0), (1, .int (nI p)), (2, .int (nI (by2 f pM))), (3, .int (nI f0)), (4, .int (nI ib)), (5, .int (nI k)), (6, .int (nI (by2 f p))), (7, .int (nI s41)), (8, .int 1), (9, .int 0)], [.int 1, .int (nI (by2 f p)), .ref m0], M1)) rfl rfl rfl ?_
                    refine ps_st (S' := (169, [(0, .ref m0), (1, .int (nI p)), (2, .int (nI (by2 f pM))), (3, .int (nI f0)), (4, .int (nI ib)), (5, .int (nI k)), (6, .int (nI (by2 f p))), (7, .int (nI s41)), (8, .int 1), (9, .int 0)], [.int (nI ib), .int 1, .int (nI (by2 f p)), .ref m0], M1)) rfl rfl rfl ?_
                    refine pl_call (a := [.ref m0, .int (nI (by2 f p)), .int 1, .int (nI ib)]) (rest := []) rfl rfl rfl (rd_fitX (mj := mj) (x := (by2 f p)) (c := cf) (i := 1) (ib := ib) hR1 hl53 (hmj) (hu8) (by decide) (hib)) (fun v129 M130 q131 => ?_)
                    obtain ⟨rfl, rfl⟩ := q131
                    show pl _ _ _ (172, [(0, .ref m0), (1, .int (nI p)), (2, .int (nI (by2 f pM))), (3, .int (nI f0)), (4, .int (nI ib)), (5, .int (nI k)), (6, .int (nI (by2 f p))), (7, .int (nI s41)), (8, .int 1), (9, .int 0)], [.int (nI (fitN mj cf (by2 f p) 1))], M1) _
                    have hft := le1_fit mj cf (by2 f p) 1
                    refine ps_if (S1 := (183, [(0, .ref m0), (1, .int (nI p)), (2, .int (nI (by2 f pM))), (3, .int (nI f0)), (4, .int (nI ib)), (5, .int (nI k)), (6, .int (nI (by2 f p))), (7, .int (nI s41)), (8, .int 1), (9, .int 0)], [], M1)) (S2 := (175, [(0, .ref m0), (1, .int (nI p)), (2, .int (nI (by2 f pM))), (3, .int (nI f0)), (4, .int (nI ib)), (5, .int (nI k)), (6, .int (nI (by2 f p))), (7, .int (nI s41)), (8, .int 1), (9, .int 0)], [], M1)) rfl rfl rfl (fun c_172 => ?_) (fun c_172 => ?_)
                    · have c_172 : ¬ (nI (fitN mj cf (by2 f p) 1)) = 0 := of_decide_eq_true c_172
                      have n_172 : ¬ (fitN mj cf (by2 f p) 1 = 0) := fun h9 => c_172 ((eq_nI (p := fitN mj cf (by2 f p) 1) (n := 0) (Nat.lt_trans (le1_fit _ _ _ _) (by decide)) (by decide)).mpr h9)
                      have hnm : ¬ mnmN f n E cf (by2 f (p + 2)) = 0 := by
                        have m0_ := mnm_0 (f := f) (n := n) (E := E) (c := cf) (x := by2 f (p + 2))
                        have u0_ := uq0 (l := tX f n E (by2 f (p + 2)))
                        omega
                      have hfl : ¬ mflN f n E cf mj (by2 f p) (by2 f (p + 2)) = 0 := by
                        rw [mfl_i (by omega) (by omega)]
                        omega
                      exact ih.2.1 (k) (p) (ib) (s41) (0) (1) M1 I1 R1 hR1 hEI1 hER1 hl51 hl52 hl53 hl58 hl56 hl26 hl9 hl10 hF1 hY1 hP1 hK1 hN91 (by omega) (hpk) (hpe) (hs) (hib) (q76_s) (by omega) (hnm) (hfl) (by omega) (by omega)
                    · have c_172 : ¬ (¬ (nI (fitN mj cf (by2 f p) 1)) = 0) := of_decide_eq_false c_172
                      have n_172 : fitN mj cf (by2 f p) 1 = 0 := (eq_nI (p := fitN mj cf (by2 f p) 1) (n := 0) (Nat.lt_trans (le1_fit _ _ _ _) (by decide)) (by decide)).mp (Decidable.not_not.mp c_172)
                      refine ps_st (S' := (176, [(0, .ref m0), (1, .int (nI p)), (2, .int (nI (by2 f pM))), (3, .int (nI f0)), (4, .int (nI ib)), (5, .int (nI k)), (6, .int (nI (by2 f p))), (7, .int (nI s41)), (8, .int 1), (9, .int 0)], [.ref m0], M1)) rfl rfl rfl ?_
                      refine ps_st (S' := (178, [(0, .ref m0), (1, .int (nI p)), (2, .int (nI (by2 f pM))), (3, .int (nI f0)), (4, .int (nI ib)), (5, .int (nI k)), (6, .int (nI (by2 f p))), (7, .int (nI s41)), (8, .int 1), (9, .int 0)], [.int 23, .ref m0], M1)) rfl rfl rfl ?_
                      refine ps_st (S' := (179, [(0, .ref m0), (1, .int (nI p)), (2, .int (nI (by2 f pM))), (3, .int (nI f0)), (4, .int (nI ib)), (5, .int (nI k)), (6, .int (nI (by2 f p))), (7, .int (nI s41)), (8, .int 1), (9, .int 0)], [.int (nI p), .int 23, .ref m0], M1)) rfl rfl rfl ?_
                      refine pl_call (a := [.ref m0, .int 23, .int (nI p)]) (rest := []) rfl rfl rfl (rd_wrong (x1 := 23) (x2 := (nI p)) hR1) (fun v132 M133 q134 => ?_)
                      obtain ⟨I135, R136, rfl, hR137, hI138, hX139, hi140, hi141⟩ := q134
                      have hi142 := (hI138 51 (by decide)).trans hl51
                      have hi143 := (hI138 52 (by decide)).trans hl52
                      have hi144 := (hI138 53 (by decide)).trans hl53
                      have hi145 := (hI138 58 (by decide)).trans hl58
                      have hi146 := (hI138 56 (by decide)).trans hl56
                      have hi147 := (hI138 26 (by decide)).trans hl26
                      have hi148 := (hI138 9 (by decide)).trans hl9
                      have hi149 := (hI138 10 (by decide)).trans hl10
                      have hF_150 := hF1.mono (cIx hI138 (by decide)) (cRx hX139 (by decide))
                      have hY_151 := hY1.mono (cIx hI138 (by decide)) (cRx hX139 (by decide))
                      have hP_152 := hP1.mono (cIx hI138 (by decide)) (cRx hX139 (by decide))
                      have hK_153 := hK1.mono (cIx hI138 (by decide)) (cRx hX139 (by decide))
                      have hN9_154 := hN91.mono (cIx hI138 (by decide)) (cRx hX139 (by decide))
                      have hEI155 := hEI1.tr hI138 (by decide)
                      have hER156 := hER1.tr hX139 (by decide)
                      show pl _ _ _ (182, [(0, .ref m0), (1, .int (nI p)), (2, .int (nI (by2 f pM))), (3, .int (nI f0)), (4, .int (nI ib)), (5, .int (nI k)), (6, .int (nI (by2 f p))), (7, .int (nI s41)), (8, .int 1), (9, .int 0)], [.int 0], M133) _
                      exact ps_ret rfl rfl (Or.inr ⟨(23, p), I135, R136, by
                          have m0_ := mnm_0 (f := f) (n := n) (E := E) (c := cf) (x := by2 f (p + 2))
                          have u0_ := uq0 (l := tX f n E (by2 f (p + 2)))
                          rw [← hs, mtS_st (i := k) (by omega), ← hpk, mh_23 (by omega) (by rw [mfl_i (by omega) (by omega)]; omega)], rfl, hR137, hEI155, hER156, hi140, hi141⟩)
                  · have c_144 : ¬ (¬ (nI (unq0 (tX f n E (by2 f (p + 2))))) = 0) := of_decide_eq_false c_144
                    have n_144 : unq0 (tX f n E (by2 f (p + 2))) = 0 := (eq_nI (p := unq0 (tX f n E (by2 f (p + 2)))) (n := 0) (Nat.lt_trans (le1_unq0 _) (by decide)) (by decide)).mp (Decidable.not_not.mp c_144)
                    refine ps_st (S' := (148, [(0, .ref m0), (1, .int (nI p))], [.ref m0], M1)) rfl rfl rfl ?_
                    refine ps_st (S' := (150, [(0, .ref m0), (1, .int (nI p))], [.int 24, .ref m0], M1)) rfl rfl rfl ?_
                    refine ps_st (S' := (151, [(0, .ref m0), (1, .int (nI p))], [.int (nI p), .int 24, .ref m0], M1)) rfl rfl rfl ?_
                    refine ps_st (S' := (152, [(0, .ref m0), (1, .int (nI p))], [.int 2, .int (nI p), .int 24, .ref m0], M1)) rfl rfl rfl ?_
                    refine ps_st (S' := (153, [(0, .ref m0), (1, .int (nI p))], [.int ((nI p) + 2), .int 24, .ref m0], M1)) rfl rfl rfl ?_
                    rw [nI_add1 (p := p) (k := 2) (x := 2) rfl (by omega)]
                    show pl _ _ _ (_, [(0, .ref m0), (1, .int (nI p))], [.int (nI (p + 2)), .int 24, .ref m0], M1) _
                    refine pl_call (a := [.ref m0, .int 24, .int (nI (p + 2))]) (rest := []) rfl rfl rfl (rd_wrong (x1 := 24) (x2 := (nI (p + 2))) hR1) (fun v157 M158 q159 => ?_)
                    obtain ⟨I160, R161, rfl, hR162, hI163, hX164, hi165, hi166⟩ := q159
                    have hi167 := (hI163 51 (by decide)).trans hl51
                    have hi168 := (hI163 52 (by decide)).trans hl52
                    have hi169 := (hI163 53 (by decide)).trans hl53
                    have hi170 := (hI163 58 (by decide)).trans hl58
                    have hi171 := (hI163 56 (by decide)).trans hl56
                    have hi172 := (hI163 26 (by decide)).trans hl26
                    have hi173 := (hI163 9 (by decide)).trans hl9
                    have hi174 := (hI163 10 (by decide)).trans hl10
                    have hF_175 := hF1.mono (cIx hI163 (by decide)) (cRx hX164 (by decide))
                    have hY_176 := hY1.mono (cIx hI163 (by decide)) (cRx hX164 (by decide))
                    have hP_177 := hP1.mono (cIx hI163 (by decide)) (cRx hX164 (by decide))
                    have hK_178 := hK1.mono (cIx hI163 (by decide)) (cRx hX164 (by decide))
                    have hN9_179 := hN91.mono (cIx hI163 (by decide)) (cRx hX164 (by decide))
                    have hEI180 := hEI1.tr hI163 (by decide)
                    have hER181 := hER1.tr hX164 (by decide)
                    show pl _ _ _ (156, [(0, .ref m0), (1, .int (nI p))], [.int 0], M158) _
                    exact ps_ret rfl rfl (Or.inr ⟨(24, p + 2), I160, R161, by
                        rw [← hs, mtS_st (i := k) (by omega), ← hpk, mh_24 (by have m0_ := mnm_0 (f := f) (n := n) (E := E) (c := cf) (x := by2 f (p + 2)); have u0_ := uq0 (l := tX f n E (by2 f (p + 2))); omega)], rfl, hR162, hEI180, hER181, hi165, hi166⟩)
              · have c_107 : ¬ (¬ (nI s41) = (nI sc)) := of_decide_eq_false c_107
                have n_107 : s41 = sc := (eq_nI (p := s41) (n := sc) (by omega) (by omega)).mp (Decidable.not_not.mp c_107)
                refine ps_st (S' := (111, [(8, .int 1), (0, .ref m0), (1, .int (nI p)), (2, .int (nI (by2 f pM))), (3, .int (nI f0)), (4, .int (nI ib)), (5, .int (nI k)), (6, .int (nI (by2 f p))), (7, .int (nI s41))], [.int 1], M1)) rfl rfl rfl ?_
                refine ps_st (S' := (115, [(0, .ref m0), (1, .int (nI p)), (2, .int (nI (by2 f pM))), (3, .int (nI f0)), (4, .int (nI ib)), (5, .int (nI k)), (6, .int (nI (by2 f p))), (7, .int (nI s41)), (8, .int 1)], [.int 1], M1)) rfl rfl rfl ?_
                refine ps_st (S' := (117, [(9, .int 1), (0, .ref m0), (1, .int (nI p)), (2, .int (nI (by2 f pM))), (3, .int (nI f0)), (4, .int (nI ib)), (5, .int (nI k)), (6, .int (nI (by2 f p))), (7, .int (nI s41)), (8, .int 1)], [], M1)) rfl rfl rfl ?_
                refine ps_st (S' := (119, [(9, .int 1), (0, .ref m0), (1, .int (nI p)), (2, .int (nI (by2 f pM))), (3, .int (nI f0)), (4, .int (nI ib)), (5, .int (nI k)), (6, .int (nI (by2 f p))), (7, .int (nI s41)), (8, .int 1)], [.int (nI s41)], M1)) rfl rfl rfl ?_
                refine ps_if (S1 := (147, [(0, .ref m0), (1, .int (nI p))], [], M1)) (S2 := (122, [(9, .int 1), (0, .ref m0), (1, .int (nI p)), (2, .int (nI (by2 f pM))), (3, .int (nI f0)), (4, .int (nI ib)), (5, .int (nI k)), (6, .int (nI (by2 f p))), (7, .int (nI s41)), (8, .int 1)], [], M1)) rfl rfl rfl (fun c_119 => ?_) (fun c_119 => ?_)
                · exact absurd (of_decide_eq_true c_119) (show ¬ ((nI s41) < 0) from fun h9 => absurd ((lt_nI (p := s41) (n := 0) (by omega) (by decide)).mp h9) (by omega))
                refine ps_st (S' := (124, [(9, .int 1), (0, .ref m0), (1, .int (nI p)), (2, .int (nI (by2 f pM))), (3, .int (nI f0)), (4, .int (nI ib)), (5, .int (nI k)), (6, .int (nI (by2 f p))), (7, .int (nI s41)), (8, .int 1)], [.int 1], M1)) rfl rfl rfl ?_
                refine ps_if (S1 := (157, [(0, .ref m0), (1, .int (nI p)), (2, .int (nI (by2 f pM))), (3, .int (nI f0)), (4, .int (nI ib)), (5, .int (nI k)), (6, .int (nI (by2 f p))), (7, .int (nI s41)), (8, .int 1), (9, .int 1)], [], M1)) (S2 := (127, [(9, .int 1), (0, .ref m0), (1, .int (nI p)), (2, .int (nI (by2 f pM))), (3, .int (nI f0)), (4, .int (nI ib)), (5, .int (nI k)), (6, .int (nI (by2 f p))), (7, .int (nI s41)), (8, .int 1)], [], M1)) rfl rfl rfl (fun c_124 => ?_) (fun c_124 => ?_)
                rotate_left
                · exact absurd (by decide) (of_decide_eq_false c_124)
                refine ps_st (S' := (159, [(0, .ref m0), (1, .int (nI p)), (2, .int (nI (by2 f pM))), (3, .int (nI f0)), (4, .int (nI ib)), (5, .int (nI k)), (6, .int (nI (by2 f p))), (7, .int (nI s41)), (8, .int 1), (9, .int 1)], [.int 1], M1)) rfl rfl rfl ?_
                refine ps_if (S1 := (183, [(0, .ref m0), (1, .int (nI p)), (2, .int (nI (by2 f pM))), (3, .int (nI f0)), (4, .int (nI ib)), (5, .int (nI k)), (6, .int (nI (by2 f p))), (7, .int (nI s41)), (8, .int 1), (9, .int 1)], [], M1)) (S2 := (162, [(0, .ref m0), (1, .int (nI p)), (2, .int (nI (by2 f pM))), (3, .int (nI f0)), (4, .int (nI ib)), (5, .int (nI k)), (6, .int (nI (by2 f p))), (7, .int (nI s41)), (8, .int 1), (9, .int 1)], [], M1)) rfl rfl rfl (fun c_159 => ?_) (fun c_159 => ?_)
                rotate_left
                · exact absurd (by decide) (of_decide_eq_false c_159)
                exfalso; omega
      · skip
        intro k p ib a i9 i8 M1 I1 R1 hR1 hEI1 hER1 hl51 hl52 hl53 hl58 hl56 hl26 hl9 hl10 hF1 hY1 hP1 hK1 hN91 hk0 hpk hpe hs hib hsa ht1 hnm hfl h9c h8c
        have hn := hF1.1
        have hu9 := by2_lt f pM
        have htl := hY1.1.2.2.1
        have hBl := hMB.1
        have hi7 := hsi.1
        have hc7 := hsc.1
        have hu8 := by2_lt f p
        have hsa1 := hsa.1
        refine ps_st1 (S' := (184, [(0, .ref m0), (1, .int (nI p)), (2, .int (nI (by2 f pM))), (3, .int (nI f0)), (4, .int (nI ib)), (5, .int (nI k)), (6, .int (nI (by2 f p))), (7, .int (nI a)), (8, .int (nI i8)), (9, .int (nI i9))], [.ref m0], M1)) rfl rfl rfl ?_
        refine ps_st (S' := (185, [(0, .ref m0), (1, .int (nI p)), (2, .int (nI (by2 f pM))), (3, .int (nI f0)), (4, .int (nI ib)), (5, .int (nI k)), (6, .int (nI (by2 f p))), (7, .int (nI a)), (8, .int (nI i8)), (9, .int (nI i9))], [.ref m0, .ref m0], M1)) rfl rfl rfl ?_
        refine ps_st (S' := (186, [(0, .ref m0), (1, .int (nI p)), (2, .int (nI (by2 f pM))), (3, .int (nI f0)), (4, .int (nI ib)), (5, .int (nI k)), (6, .int (nI (by2 f p))), (7, .int (nI a)), (8, .int (nI i8)), (9, .int (nI i9))], [.int (nI p), .ref m0, .ref m0], M1)) rfl rfl rfl ?_
        refine ps_st (S' := (187, [(0, .ref m0), (1, .int (nI p)), (2, .int (nI (by2 f pM))), (3, .int (nI f0)), (4, .int (nI ib)), (5, .int (nI k)), (6, .int (nI (by2 f p))), (7, .int (nI a)), (8, .int (nI i8)), (9, .int (nI i9))], [.int 4, .int (nI p), .ref m0, .ref m0], M1)) rfl rfl rfl ?_
        refine ps_st (S' := (188, [(0, .ref m0), (1, .int (nI p)), (2, .int (nI (by2 f pM))), (3, .int (nI f0)), (4, .int (nI ib)), (5, .int (nI k)), (6, .int (nI (by2 f p))), (7, .int (nI a)), (8, .int (nI i8)), (9, .int (nI i9))], [.int ((nI p) + 4), .ref m0, .ref m0], M1)) rfl rfl rfl ?_
        rw [nI_add1 (p := p) (k := 4) (x := 4) rfl (by omega)]
        show pl _ _ _ (_, [(0, .ref m0), (1, .int (nI p)), (2, .int (nI (by2 f pM))), (3, .int (nI f0)), (4, .int (nI ib)), (5, .int (nI k)), (6, .int (nI (by2 f p))), (7, .int (nI a)), (8, .int (nI i8)), (9, .int (nI i9))], [.int (nI (p + 4)), .ref m0, .ref m0], M1) _
        refine pl_call (a := [.ref m0, .int (nI (p + 4))]) (rest := [.ref m0]) rfl rfl rfl (rd_u2 (n := n) (f := f) (p := (p + 4)) hR1 hF1 (by omega)) (fun v182 M183 q184 => ?_)
        obtain ⟨rfl, rfl⟩ := q184
        show pl _ _ _ (191, [(0, .ref m0), (1, .int (nI p)), (2, .int (nI (by2 f pM))), (3, .int (nI f0)), (4, .int (nI ib)), (5, .int (nI k)), (6, .int (nI (by2 f p))), (7, .int (nI a)), (8, .int (nI i8)), (9, .int (nI i9))], [.int (nI (by2 f (p + 4))), .ref m0], M1) _
        have hu_188 := by2_lt f (p + 4)
        refine pl_call (a := [.ref m0, .int (nI (by2 f (p + 4)))]) (rest := []) rfl rfl rfl (rd_tag (n := n) (f := f) (tx := tx) (cN := cN) (A := A) (N := N) (mj := mj) (E := E) (k := (by2 f (p + 4))) hR1 hl51 hl52 hl53 hF1 hY1 hP1 (hEP) (hN) (hmj) (by2_lt _ _)) (fun v185 M186 q187 => ?_)
        obtain ⟨rfl, rfl⟩ := q187
        show pl _ _ _ (194, [(0, .ref m0), (1, .int (nI p)), (2, .int (nI (by2 f pM))), (3, .int (nI f0)), (4, .int (nI ib)), (5, .int (nI k)), (6, .int (nI (by2 f p))), (7, .int (nI a)), (8, .int (nI i8)), (9, .int (nI i9))], [.int (nI (tg f E (by2 f (p + 4))))], M1) _
        have htg_191 := tg_lt f E (by2 f (p + 4))
        refine ps_st (S' := (195, [(0, .ref m0), (1, .int (nI p)), (2, .int (nI (by2 f pM))), (3, .int (nI f0)), (4, .int (nI ib)), (5, .int (nI k)), (6, .int (nI (by2 f p))), (7, .int (nI a)), (8, .int (nI i8)), (9, .int (nI i9))], [.int 1, .int (nI (tg f E (by2 f (p + 4))))], M1)) rfl rfl rfl ?_
        refine ps_if2 (S1 := (212, [(0, .ref m0), (1, .int (nI p)), (2, .int (nI (by2 f pM))), (3, .int (nI f0)), (4, .int (nI ib)), (5, .int (nI k)), (6, .int (nI (by2 f p))), (7, .int (nI a)), (8, .int (nI i8)), (9, .int (nI i9))], [], M1)) (S2 := (198, [(0, .ref m0), (1, .int (nI p)), (2, .int (nI (by2 f pM))), (3, .int (nI f0)), (4, .int (nI ib)), (5, .int (nI k)), (6, .int (nI (by2 f p))), (7, .int (nI a)), (8, .int (nI i8)), (9, .int (nI i9))], [], M1)) rfl rfl rfl (fun c_195 => ?_) (fun c_195 => ?_)
        · have c_195 : ¬ (nI (tg f E (by2 f (p + 4)))) = 1 := of_decide_eq_true c_195
          have n_195 : ¬ (tg f E (by2 f (p + 4)) = 1) := fun h9 => c_195 ((eq_nI (p := tg f E (by2 f (p + 4))) (n := 1) (Nat.lt_trans (tg_lt _ _ _) (by decide)) (by decide)).mpr h9)
          refine ps_st (S' := (213, [(0, .ref m0), (1, .int (nI p)), (2, .int (nI (by2 f pM))), (3, .int (nI f0)), (4, .int (nI ib)), (5, .int (nI k)), (6, .int (nI (by2 f p))), (7, .int (nI a)), (8, .int (nI i8)), (9, .int (nI i9))], [.int (-1)], M1)) rfl rfl rfl ?_
          refine ps_st (S' := (215, [(10, .int (-1)), (0, .ref m0), (1, .int (nI p)), (2, .int (nI (by2 f pM))), (3, .int (nI f0)), (4, .int (nI ib)), (5, .int (nI k)), (6, .int (nI (by2 f p))), (7, .int (nI a)), (8, .int (nI i8)), (9, .int (nI i9))], [], M1)) rfl rfl rfl ?_
          refine ps_st (S' := (217, [(10, .int (-1)), (0, .ref m0), (1, .int (nI p)), (2, .int (nI (by2 f pM))), (3, .int (nI f0)), (4, .int (nI ib)), (5, .int (nI k)), (6, .int (nI (by2 f p))), (7, .int (nI a)), (8, .int (nI i8)), (9, .int (nI i9))], [.int (-1)], M1)) rfl rfl rfl ?_
          refine ps_if (S1 := (269, [(0, .ref m0), (1, .int (nI p))], [], M1)) (S2 := (220, [(10, .int (-1)), (0, .ref m0), (1, .int (nI p)), (2, .int (nI (by2 f pM))), (3, .int (nI f0)), (4, .int (nI ib)), (5, .int (nI k)), (6, .int (nI (by2 f p))), (7, .int (nI a)), (8, .int (nI i8)), (9, .int (nI i9))], [], M1)) rfl rfl rfl (fun c_217 => ?_) (fun c_217 => ?_)
          rotate_left
          · exact absurd (by decide) (of_decide_eq_false c_217)
          refine ps_st (S' := (270, [(0, .ref m0), (1, .int (nI p))], [.ref m0], M1)) rfl rfl rfl ?_
          refine ps_st (S' := (272, [(0, .ref m0), (1, .int (nI p))], [.int 25, .ref m0], M1)) rfl rfl rfl ?_
          refine ps_st (S' := (273, [(0, .ref m0), (1, .int (nI p))], [.int (nI p), .int 25, .ref m0], M1)) rfl rfl rfl ?_
          refine ps_st (S' := (274, [(0, .ref m0), (1, .int (nI p))], [.int 4, .int (nI p), .int 25, .ref m0], M1)) rfl rfl rfl ?_
          refine ps_st (S' := (275, [(0, .ref m0), (1, .int (nI p))], [.int ((nI p) + 4), .int 25, .ref m0], M1)) rfl rfl rfl ?_
          rw [nI_add1 (p := p) (k := 4) (x := 4) rfl (by omega)]
          show pl _ _ _ (_, [(0, .ref m0), (1, .int (nI p))], [.int (nI (p + 4)), .int 25, .ref m0], M1) _
          refine pl_call (a := [.ref m0, .int 25, .int (nI (p + 4))]) (rest := []) rfl rfl rfl (rd_wrong (x1 := 25) (x2 := (nI (p + 4))) hR1) (fun v188 M189 q190 => ?_)
          obtain ⟨I191, R192, rfl, hR193, hI194, hX195, hi196, hi197⟩ := q190
          have hi198 := (hI194 51 (by decide)).trans hl51
          have hi199 := (hI194 52 (by decide)).trans hl52
          have hi200 := (hI194 53 (by decide)).trans hl53
          have hi201 := (hI194 58 (by decide)).trans hl58
          have hi202 := (hI194 56 (by decide)).trans hl56
          have hi203 := (hI194 26 (by decide)).trans hl26
          have hi204 := (hI194 9 (by decide)).trans hl9
          have hi205 := (hI194 10 (by decide)).trans hl10
          have hF_206 := hF1.mono (cIx hI194 (by decide)) (cRx hX195 (by decide))
          have hY_207 := hY1.mono (cIx hI194 (by decide)) (cRx hX195 (by decide))
          have hP_208 := hP1.mono (cIx hI194 (by decide)) (cRx hX195 (by decide))
          have hK_209 := hK1.mono (cIx hI194 (by decide)) (cRx hX195 (by decide))
          have hN9_210 := hN91.mono (cIx hI194 (by decide)) (cRx hX195 (by decide))
          have hEI211 := hEI1.tr hI194 (by decide)
          have hER212 := hER1.tr hX195 (by decide)
          show pl _ _ _ (278, [(0, .ref m0), (1, .int (nI p))], [.int 0], M189) _
          exact ps_ret rfl rfl (Or.inr ⟨(25, p + 4), I191, R192, by
              have h25 : mdsN f n E (by2 f (p + 2)) (by2 f (p + 4)) (apN f n E p) = 0 := by
                have m0_ := mds_0 (f := f) (n := n) (E := E) (x := by2 f (p + 2)) (d := by2 f (p + 4)) (w := apN f n E p)
                have a0_ := ap_9 (f := f) (n := n) (E := E) (p := p)
                exact m0_.mpr (Or.inl (by rw [tx_no (by omega)]; decide))
              rw [← hs, mtS_st (i := k) (by omega), ← hpk, mh_25 hnm hfl h25], rfl, hR193, hEI211, hER212, hi196, hi197⟩)
        · have c_195 : ¬ (¬ (nI (tg f E (by2 f (p + 4)))) = 1) := of_decide_eq_false c_195
          have n_195 : tg f E (by2 f (p + 4)) = 1 := (eq_nI (p := tg f E (by2 f (p + 4))) (n := 1) (Nat.lt_trans (tg_lt _ _ _) (by decide)) (by decide)).mp (Decidable.not_not.mp c_195)
          refine ps_st (S' := (199, [(0, .ref m0), (1, .int (nI p)), (2, .int (nI (by2 f pM))), (3, .int (nI f0)), (4, .int (nI ib)), (5, .int (nI k)), (6, .int (nI (by2 f p))), (7, .int (nI a)), (8, .int (nI i8)), (9, .int (nI i9))], [.ref m0], M1)) rfl rfl rfl ?_
          refine ps_st (S' := (200, [(0, .ref m0), (1, .int (nI p)), (2, .int (nI (by2 f pM))), (3, .int (nI f0)), (4, .int (nI ib)), (5, .int (nI k)), (6, .int (nI (by2 f p))), (7, .int (nI a)), (8, .int (nI i8)), (9, .int (nI i9))], [.ref m0, .ref m0], M1)) rfl rfl rfl ?_
          refine ps_st (S' := (201, [(0, .ref m0), (1, .int (nI p)), (2, .int (nI (by2 f pM))), (3, .int (nI f0)), (4, .int (nI ib)), (5, .int (nI k)), (6, .int (nI (by2 f p))), (7, .int (nI a)), (8, .int (nI i8)), (9, .int (nI i9))], [.int (nI p), .ref m0, .ref m0], M1)) rfl rfl rfl ?_
          refine ps_st (S' := (202, [(0, .ref m0), (1, .int (nI p)), (2, .int (nI (by2 f pM))), (3, .int (nI f0)), (4, .int (nI ib)), (5, .int (nI k)), (6, .int (nI (by2 f p))), (7, .int (nI a)), (8, .int (nI i8)), (9, .int (nI i9))], [.int 4, .int (nI p), .ref m0, .ref m0], M1)) rfl rfl rfl ?_
          refine ps_st (S' := (203, [(0, .ref m0), (1, .int (nI p)), (2, .int (nI (by2 f pM))), (3, .int (nI f0)), (4, .int (nI ib)), (5, .int (nI k)), (6, .int (nI (by2 f p))), (7, .int (nI a)), (8, .int (nI i8)), (9, .int (nI i9))], [.int ((nI p) + 4), .ref m0, .ref m0], M1)) rfl rfl rfl ?_
          rw [nI_add1 (p := p) (k := 4) (x := 4) rfl (by omega)]
          show pl _ _ _ (_, [(0, .ref m0), (1, .int (nI p)), (2, .int (nI (by2 f pM))), (3, .int (nI f0)), (4, .int (nI ib)), (5, .int (nI k)), (6, .int (nI (by2 f p))), (7, .int (nI a)), (8, .int (nI i8)), (9, .int (nI i9))], [.int (nI (p + 4)), .ref m0, .ref m0], M1) _
          refine pl_call (a := [.ref m0, .int (nI (p + 4))]) (rest := [.ref m0]) rfl rfl rfl (rd_u2 (n := n) (f := f) (p := (p + 4)) hR1 hF1 (by omega)) (fun v213 M214 q215 => ?_)
          obtain ⟨rfl, rfl⟩ := q215
          show pl _ _ _ (206, [(0, .ref m0), (1, .int (nI p)), (2, .int (nI (by2 f pM))), (3, .int (nI f0)), (4, .int (nI ib)), (5, .int (nI k)), (6, .int (nI (by2 f p))), (7, .int (nI a)), (8, .int (nI i8)), (9, .int (nI i9))], [.int (nI (by2 f (p + 4))), .ref m0], M1) _
          have hu_203 := by2_lt f (p + 4)
          refine pl_call (a := [.ref m0, .int (nI (by2 f (p + 4)))]) (rest := []) rfl rfl rfl (rd_symOf (n := n) (f := f) (tx := tx) (cN := cN) (A := A) (N := N) (mj := mj) (E := E) (k := (by2 f (p + 4))) hR1 hl51 hl52 hl53 hF1 hY1 hP1 (hEP) (hN) (hmj) (by omega)) (fun v216 M217 q218 => ?_)
          obtain ⟨s219, q206_s, rfl, rfl⟩ := q218
          show pl _ _ _ (209, [(0, .ref m0), (1, .int (nI p)), (2, .int (nI (by2 f pM))), (3, .int (nI f0)), (4, .int (nI ib)), (5, .int (nI k)), (6, .int (nI (by2 f p))), (7, .int (nI a)), (8, .int (nI i8)), (9, .int (nI i9))], [.int (nI s219)], M1) _
          have hsl_206 := q206_s.1
          have htl_206 := hY1.1.2.2.1
          refine ps_st (S' := (213, [(0, .ref m0), (1, .int (nI p)), (2, .int (nI (by2 f pM))), (3, .int (nI f0)), (4, .int (nI ib)), (5, .int (nI k)), (6, .int (nI (by2 f p))), (7, .int (nI a)), (8, .int (nI i8)), (9, .int (nI i9))], [.int (nI s219)], M1)) rfl rfl rfl ?_
          refine ps_st (S' := (215, [(10, .int (nI s219)), (0, .ref m0), (1, .int (nI p)), (2, .int (nI (by2 f pM))), (3, .int (nI f0)), (4, .int (nI ib)), (5, .int (nI k)), (6, .int (nI (by2 f p))), (7, .int (nI a)), (8, .int (nI i8)), (9, .int (nI i9))], [], M1)) rfl rfl rfl ?_
          refine ps_st (S' := (217, [(10, .int (nI s219)), (0, .ref m0), (1, .int (nI p)), (2, .int (nI (by2 f pM))), (3, .int (nI f0)), (4, .int (nI ib)), (5, .int (nI k)), (6, .int (nI (by2 f p))), (7, .int (nI a)), (8, .int (nI i8)), (9, .int (nI i9))], [.int (nI s219)], M1)) rfl rfl rfl ?_
          refine ps_if (S1 := (269, [(0, .ref m0), (1, .int (nI p))], [], M1)) (S2 := (220, [(10, .int (nI s219)), (0, .ref m0), (1, .int (nI p)), (2, .int (nI (by2 f pM))), (3, .int (nI f0)), (4, .int (nI ib)), (5, .int (nI k)), (6, .int (nI (by2 f p))), (7, .int (nI a)), (8, .int (nI i8)), (9, .int (nI i9))], [], M1)) rfl rfl rfl (fun c_217 => ?_) (fun c_217 => ?_)
          · exact absurd (of_decide_eq_true c_217) (show ¬ ((nI s219) < 0) from fun h9 => absurd ((lt_nI (p := s219) (n := 0) (by omega) (by decide)).mp h9) (by omega))
          refine ps_st (S' := (221, [(10, .int (nI s219)), (0, .ref m0), (1, .int (nI p)), (2, .int (nI (by2 f pM))), (3, .int (nI f0)), (4, .int (nI ib)), (5, .int (nI k)), (6, .int (nI (by2 f p))), (7, .int (nI a)), (8, .int (nI i8)), (9, .int (nI i9))], [.ref m0], M1)) rfl rfl rfl ?_
          refine ps_st (S' := (223, [(10, .int (nI s219)), (0, .ref m0), (1, .int (nI p)), (2, .int (nI (by2 f pM))), (3, .int (nI f0)), (4, .int (nI ib)), (5, .int (nI k)), (6, .int (nI (by2 f p))), (7, .int (nI a)), (8, .int (nI i8)), (9, .int (nI i9))], [.int (nI s219), .ref m0], M1)) rfl rfl rfl ?_
          refine pl_call (a := [.ref m0, .int (nI s219)]) (rest := []) rfl rfl rfl (rd_isMethod (tx := tx) (cN := cN) (A := A) (s := s219) (l := (tX f n E (by2 f (p + 4)))) hR1 hY1 (q206_s)) (fun v220 M221 q222 => ?_)
          obtain ⟨rfl, rfl⟩ := q222
          show pl _ _ _ (226, [(10, .int (nI s219)), (0, .ref m0), (1, .int (nI p)), (2, .int (nI (by2 f pM))), (3, .int (nI f0)), (4, .int (nI ib)), (5, .int (nI k)), (6, .int (nI (by2 f p))), (7, .int (nI a)), (8, .int (nI i8)), (9, .int (nI i9))], [.int (nI (mthN (tX f n E (by2 f (p + 4)))))], M1) _
          refine ps_if (S1 := (269, [(0, .ref m0), (1, .int (nI p))], [], M1)) (S2 := (229, [(10, .int (nI s219)), (0, .ref m0), (1, .int (nI p)), (2, .int (nI (by2 f pM))), (3, .int (nI f0)), (4, .int (nI ib)), (5, .int (nI k)), (6, .int (nI (by2 f p))), (7, .int (nI a)), (8, .int (nI i8)), (9, .int (nI i9))], [], M1)) rfl rfl rfl (fun c_226 => ?_) (fun c_226 => ?_)
          · have c_226 : (nI (mthN (tX f n E (by2 f (p + 4))))) = 0 := of_decide_eq_true c_226
            have n_226 : mthN (tX f n E (by2 f (p + 4))) = 0 := (eq_nI (p := mthN (tX f n E (by2 f (p + 4)))) (n := 0) (Nat.lt_trans (le1_mth _) (by decide)) (by decide)).mp c_226
            refine ps_st (S' := (270, [(0, .ref m0), (1, .int (nI p))], [.ref m0], M1)) rfl rfl rfl ?_
            refine ps_st (S' := (272, [(0, .ref m0), (1, .int (nI p))], [.int 25, .ref m0], M1)) rfl rfl rfl ?_
            refine ps_st (S' := (273, [(0, .ref m0), (1, .int (nI p))], [.int (nI p), .int 25, .ref m0], M1)) rfl rfl rfl ?_
            refine ps_st (S' := (274, [(0, .ref m0), (1, .int (nI p))], [.int 4, .int (nI p), .int 25, .ref m0], M1)) rfl rfl rfl ?_
            refine ps_st (S' := (275, [(0, .ref m0), (1, .int (nI p))], [.int ((nI p) + 4), .int 25, .ref m0], M1)) rfl rfl rfl ?_
            rw [nI_add1 (p := p) (k := 4) (x := 4) rfl (by omega)]
            show pl _ _ _ (_, [(0, .ref m0), (1, .int (nI p))], [.int (nI (p + 4)), .int 25, .ref m0], M1) _
            refine pl_call (a := [.ref m0, .int 25, .int (nI (p + 4))]) (rest := []) rfl rfl rfl (rd_wrong (x1 := 25) (x2 := (nI (p + 4))) hR1) (fun v223 M224 q225 => ?_)
            obtain ⟨I226, R227, rfl, hR228, hI229, hX230, hi231, hi232⟩ := q225
            have hi233 := (hI229 51 (by decide)).trans hl51
            have hi234 := (hI229 52 (by decide)).trans hl52
            have hi235 := (hI229 53 (by decide)).trans hl53
            have hi236 := (hI229 58 (by decide)).trans hl58
            have hi237 := (hI229 56 (by decide)).trans hl56
            have hi238 := (hI229 26 (by decide)).trans hl26
            have hi239 := (hI229 9 (by decide)).trans hl9
            have hi240 := (hI229 10 (by decide)).trans hl10
            have hF_241 := hF1.mono (cIx hI229 (by decide)) (cRx hX230 (by decide))
            have hY_242 := hY1.mono (cIx hI229 (by decide)) (cRx hX230 (by decide))
            have hP_243 := hP1.mono (cIx hI229 (by decide)) (cRx hX230 (by decide))
            have hK_244 := hK1.mono (cIx hI229 (by decide)) (cRx hX230 (by decide))
            have hN9_245 := hN91.mono (cIx hI229 (by decide)) (cRx hX230 (by decide))
            have hEI246 := hEI1.tr hI229 (by decide)
            have hER247 := hER1.tr hX230 (by decide)
            show pl _ _ _ (278, [(0, .ref m0), (1, .int (nI p))], [.int 0], M224) _
            exact ps_ret rfl rfl (Or.inr ⟨(25, p + 4), I226, R227, by
                have h25 : mdsN f n E (by2 f (p + 2)) (by2 f (p + 4)) (apN f n E p) = 0 := by
                  have m0_ := mds_0 (f := f) (n := n) (E := E) (x := by2 f (p + 2)) (d := by2 f (p + 4)) (w := apN f n E p)
                  have a0_ := ap_9 (f := f) (n := n) (E := E) (p := p)
                  omega
                rw [← hs, mtS_st (i := k) (by omega), ← hpk, mh_25 hnm hfl h25], rfl, hR228, hEI246, hER247, hi231, hi232⟩)
          · have c_226 : ¬ ((nI (mthN (tX f n E (by2 f (p + 4))))) = 0) := of_decide_eq_false c_226
            have n_226 : ¬ (mthN (tX f n E (by2 f (p + 4))) = 0) := fun h9 => c_226 ((eq_nI (p := mthN (tX f n E (by2 f (p + 4)))) (n := 0) (Nat.lt_trans (le1_mth _) (by decide)) (by decide)).mpr h9)
            refine ps_st (S' := (231, [(10, .int (nI s219)), (0, .ref m0), (1, .int (nI p)), (2, .int (nI (by2 f pM))), (3, .int (nI f0)), (4, .int (nI ib)), (5, .int (nI k)), (6, .int (nI (by2 f p))), (7, .int (nI a)), (8, .int (nI i8)), (9, .int (nI i9))], [.int (nI i8)], M1)) rfl rfl rfl ?_
            refine ps_if (S1 := (243, [(0, .ref m0), (1, .int (nI p)), (2, .int (nI (by2 f pM))), (3, .int (nI f0)), (4, .int (nI ib)), (5, .int (nI k)), (6, .int (nI (by2 f p))), (7, .int (nI a)), (9, .int (nI i9)), (10, .int (nI s219))], [], M1)) (S2 := (234, [(10, .int (nI s219)), (0, .ref m0), (1, .int (nI p)), (2, .int (nI (by2 f pM))), (3, .int (nI f0)), (4, .int (nI ib)), (5, .int (nI k)), (6, .int (nI (by2 f p))), (7, .int (nI a)), (8, .int (nI i8)), (9, .int (nI i9))], [], M1)) rfl rfl rfl (fun c_231 => ?_) (fun c_231 => ?_)
            · have c_231 : (nI i8) = 0 := of_decide_eq_true c_231
              have n_231 : i8 = 0 := (eq_nI (p := i8) (n := 0) (by omega) (by decide)).mp c_231
              refine ps_st (S' := (244, [(0, .ref m0), (1, .int (nI p)), (2, .int (nI (by2 f pM))), (3, .int (nI f0)), (4, .int (nI ib)), (5, .int (nI k)), (6, .int (nI (by2 f p))), (7, .int (nI a)), (9, .int (nI i9)), (10, .int (nI s219))], [.ref m0], M1)) rfl rfl rfl ?_
              refine ps_st (S' := (246, [(0, .ref m0), (1, .int (nI p)), (2, .int (nI (by2 f pM))), (3, .int (nI f0)), (4, .int (nI ib)), (5, .int (nI k)), (6, .int (nI (by2 f p))), (7, .int (nI a)), (9, .int (nI i9)), (10, .int (nI s219))], [.int (nI s219), .ref m0], M1)) rfl rfl rfl ?_
              obtain ⟨-, -, k_246, W_246, hq1_246, hq2_246, hq3_246, hq4_246, hq5_246, hq6_246, -⟩ := mth_in (l := (tX f n E (by2 f (p + 4)))) (by omega)
              refine pl_call (a := [.ref m0, .int (nI s219)]) (rest := []) rfl rfl rfl (rd_places0 (tx := tx) (cN := cN) (A := A) (s := s219) (l := (tX f n E (by2 f (p + 4)))) (k0 := k_246) (W := W_246) hR1 hY1 (q206_s) (hq1_246) (⟨by omega, hq5_246⟩)) (fun v248 M249 q250 => ?_)
              obtain ⟨rfl, rfl⟩ := q250
              show pl _ _ _ (249, [(0, .ref m0), (1, .int (nI p)), (2, .int (nI (by2 f pM))), (3, .int (nI f0)), (4, .int (nI ib)), (5, .int (nI k)), (6, .int (nI (by2 f p))), (7, .int (nI a)), (9, .int (nI i9)), (10, .int (nI s219))], [.int (nI (W_246))], M1) _
              rw [← hq6_246]
              show pl _ _ _ (_, [(0, .ref m0), (1, .int (nI p)), (2, .int (nI (by2 f pM))), (3, .int (nI f0)), (4, .int (nI ib)), (5, .int (nI k)), (6, .int (nI (by2 f p))), (7, .int (nI a)), (9, .int (nI i9)), (10, .int (nI s219))], [.int (nI (argN (tX f n E (by2 f (p + 4)))))], M1) _
              have hal_246 := argN_lt (tX f n E (by2 f (p + 4)))
              refine ps_st (S' := (251, [(0, .ref m0), (1, .int (nI p)), (2, .int (nI (by2 f pM))), (3, .int (nI f0)), (4, .int (nI ib)), (5, .int (nI k)), (6, .int (nI (by2 f p))), (7, .int (nI a)), (9, .int (nI i9)), (10, .int (nI s219))], [.int (nI (by2 f p)), .int (nI (argN (tX f n E (by2 f (p + 4)))))], M1)) rfl rfl rfl ?_
              refine ps_st (S' := (253, [(0, .ref m0), (1, .int (nI p)), (2, .int (nI (by2 f pM))), (3, .int (nI f0)), (4, .int (nI ib)), (5, .int (nI k)), (6, .int (nI (by2 f p))), (7, .int (nI a)), (9, .int (nI i9)), (10, .int (nI s219))], [.int 8, .int (nI (by2 f p)), .int (nI (argN (tX f n E (by2 f (p + 4)))))], M1)) rfl rfl rfl ?_
              refine ps_st (S' := (254, [(0, .ref m0), (1, .int (nI p)), (2, .int (nI (by2 f pM))), (3, .int (nI f0)), (4, .int (nI ib)), (5, .int (nI k)), (6, .int (nI (by2 f p))), (7, .int (nI a)), (9, .int (nI i9)), (10, .int (nI s219))], [.int ((nI (by2 f p)) &&& 8), .int (nI (argN (tX f n E (by2 f (p + 4)))))], M1)) rfl rfl rfl ?_
              rw [nI_an (p := by2 f p) (k := 8) (x := 8) rfl]
              show pl _ _ _ (_, [(0, .ref m0), (1, .int (nI p)), (2, .int (nI (by2 f pM))), (3, .int (nI f0)), (4, .int (nI ib)), (5, .int (nI k)), (6, .int (nI (by2 f p))), (7, .int (nI a)), (9, .int (nI i9)), (10, .int (nI s219))], [.int (nI (aN (by2 f p) 8)), .int (nI (argN (tX f n E (by2 f (p + 4)))))], M1) _
              refine ps_if (S1 := (261, [(0, .ref m0), (1, .int (nI p)), (2, .int (nI (by2 f pM))), (3, .int (nI f0)), (4, .int (nI ib)), (5, .int (nI k)), (6, .int (nI (by2 f p))), (7, .int (nI a)), (9, .int (nI i9)), (10, .int (nI s219))], [.int (nI (argN (tX f n E (by2 f (p + 4)))))], M1)) (S2 := (257, [(0, .ref m0), (1, .int (nI p)), (2, .int (nI (by2 f pM))), (3, .int (nI f0)), (4, .int (nI ib)), (5, .int (nI k)), (6, .int (nI (by2 f p))), (7, .int (nI a)), (9, .int (nI i9)), (10, .int (nI s219))], [.int (nI (argN (tX f n E (by2 f (p + 4)))))], M1)) rfl rfl rfl (fun c_254 => ?_) (fun c_254 => ?_)
              · have c_254 : ¬ (nI (aN (by2 f p) 8)) = 0 := of_decide_eq_true c_254
                have n_254 : ¬ (aN (by2 f p) 8 = 0) := fun h9 => c_254 ((eq_nI (p := aN (by2 f p) 8) (n := 0) (Nat.lt_of_le_of_lt (an_le _ _) (by decide)) (by decide)).mpr h9)
                refine ps_st (S' := (262, [(0, .ref m0), (1, .int (nI p)), (2, .int (nI (by2 f pM))), (3, .int (nI f0)), (4, .int (nI ib)), (5, .int (nI k)), (6, .int (nI (by2 f p))), (7, .int (nI a)), (9, .int (nI i9)), (10, .int (nI s219))], [.int 0, .int (nI (argN (tX f n E (by2 f (p + 4)))))], M1)) rfl rfl rfl ?_
                refine ps_st (S' := (263, [(0, .ref m0), (1, .int (nI p)), (2, .int (nI (by2 f pM))), (3, .int (nI f0)), (4, .int (nI ib)), (5, .int (nI k)), (6, .int (nI (by2 f p))), (7, .int (nI a)), (9, .int (nI i9)), (10, .int (nI s219))], [.int ((nI (argN (tX f n E (by2 f (p + 4))))) + 0)], M1)) rfl rfl rfl ?_
                rw [nI_add1 (p := argN (tX f n E (by2 f (p + 4)))) (k := 0) (x := 0) rfl (by omega)]
                show pl _ _ _ (_, [(0, .ref m0), (1, .int (nI p)), (2, .int (nI (by2 f pM))), (3, .int (nI f0)), (4, .int (nI ib)), (5, .int (nI k)), (6, .int (nI (by2 f p))), (7, .int (nI a)), (9, .int (nI i9)), (10, .int (nI s219))], [.int (nI (argN (tX f n E (by2 f (p + 4))) + 0))], M1) _
                refine ps_st (S' := (266, [(0, .ref m0), (1, .int (nI p)), (2, .int (nI (by2 f pM))), (3, .int (nI f0)), (4, .int (nI ib)), (5, .int (nI k)), (6, .int (nI (by2 f p))), (7, .int (nI a)), (9, .int (nI i9)), (10, .int (nI s219))], [.int 255, .int (nI (argN (tX f n E (by2 f (p + 4))) + 0))], M1)) rfl rfl rfl ?_
                refine ps_if2 (S1 := (279, [(0, .ref m0), (1, .int (nI p)), (2, .int (nI (by2 f pM))), (3, .int (nI f0)), (4, .int (nI ib)), (5, .int (nI k)), (6, .int (nI (by2 f p))), (7, .int (nI a)), (9, .int (nI i9)), (10, .int (nI s219))], [], M1)) (S2 := (269, [(0, .ref m0), (1, .int (nI p))], [], M1)) rfl rfl rfl (fun c_266 => ?_) (fun c_266 => ?_)
                · have c_266 : (nI (argN (tX f n E (by2 f (p + 4))) + 0)) ≤ 255 := of_decide_eq_true c_266
                  have n_266 : argN (tX f n E (by2 f (p + 4))) + 0 ≤ 255 := (le_nI (p := argN (tX f n E (by2 f (p + 4))) + 0) (n := 255) (by omega) (by decide)).mp c_266
                  have hds : ¬ mdsN f n E (by2 f (p + 2)) (by2 f (p + 4)) (apN f n E p) = 0 := by
                    have m0_ := mds_0 (f := f) (n := n) (E := E) (x := by2 f (p + 2)) (d := by2 f (p + 4)) (w := apN f n E p)
                    have a0_ := ap_9 (f := f) (n := n) (E := E) (p := p)
                    omega
                  exact ih.2.2.1 (k) (p) (ib) (a) (i9) (s219) M1 I1 R1 hR1 hEI1 hER1 hl51 hl52 hl53 hl58 hl56 hl26 hl9 hl10 hF1 hY1 hP1 hK1 hN91 (hk0) (hpk) (hpe) (hs) (hib) (hsa) (ht1) (hnm) (hfl) (h9c) (q206_s) (by omega) (by omega) (hds)
                · have c_266 : ¬ ((nI (argN (tX f n E (by2 f (p + 4))) + 0)) ≤ 255) := of_decide_eq_false c_266
                  have n_266 : ¬ (argN (tX f n E (by2 f (p + 4))) + 0 ≤ 255) := fun h9 => c_266 ((le_nI (p := argN (tX f n E (by2 f (p + 4))) + 0) (n := 255) (by omega) (by decide)).mpr h9)
                  refine ps_st (S' := (270, [(0, .ref m0), (1, .int (nI p))], [.ref m0], M1)) rfl rfl rfl ?_
                  refine ps_st (S' := (272, [(0, .ref m0), (1, .int (nI p))], [.int 25, .ref m0], M1)) rfl rfl rfl ?_
                  refine ps_st (S' := (273, [(0, .ref m0), (1, .int (nI p))], [.int (nI p), .int 25, .ref m0], M1)) rfl rfl rfl ?_
                  refine ps_st (S' := (274, [(0, .ref m0), (1, .int (nI p))], [.int 4, .int (nI p), .int 25, .ref m0], M1)) rfl rfl rfl ?_
                  refine ps_st (S' := (275, [(0, .ref m0), (1, .int (nI p))], [.int ((nI p) + 4), .int 25, .ref m0], M1)) rfl rfl rfl ?_
                  rw [nI_add1 (p := p) (k := 4) (x := 4) rfl (by omega)]
                  show pl _ _ _ (_, [(0, .ref m0), (1, .int (nI p))], [.int (nI (p + 4)), .int 25, .ref m0], M1) _
                  refine pl_call (a := [.ref m0, .int 25, .int (nI (p + 4))]) (rest := []) rfl rfl rfl (rd_wrong (x1 := 25) (x2 := (nI (p + 4))) hR1) (fun v251 M252 q253 => ?_)
                  obtain ⟨I254, R255, rfl, hR256, hI257, hX258, hi259, hi260⟩ := q253
                  have hi261 := (hI257 51 (by decide)).trans hl51
                  have hi262 := (hI257 52 (by decide)).trans hl52
                  have hi263 := (hI257 53 (by decide)).trans hl53
                  have hi264 := (hI257 58 (by decide)).trans hl58
                  have hi265 := (hI257 56 (by decide)).trans hl56
                  have hi266 := (hI257 26 (by decide)).trans hl26
                  have hi267 := (hI257 9 (by decide)).trans hl9
                  have hi268 := (hI257 10 (by decide)).trans hl10
                  have hF_269 := hF1.mono (cIx hI257 (by decide)) (cRx hX258 (by decide))
                  have hY_270 := hY1.mono (cIx hI257 (by decide)) (cRx hX258 (by decide))
                  have hP_271 := hP1.mono (cIx hI257 (by decide)) (cRx hX258 (by decide))
                  have hK_272 := hK1.mono (cIx hI257 (by decide)) (cRx hX258 (by decide))
                  have hN9_273 := hN91.mono (cIx hI257 (by decide)) (cRx hX258 (by decide))
                  have hEI274 := hEI1.tr hI257 (by decide)
                  have hER275 := hER1.tr hX258 (by decide)
                  show pl _ _ _ (278, [(0, .ref m0), (1, .int (nI p))], [.int 0], M252) _
                  exact ps_ret rfl rfl (Or.inr ⟨(25, p + 4), I254, R255, by
                      have h25 : mdsN f n E (by2 f (p + 2)) (by2 f (p + 4)) (apN f n E p) = 0 := by
                        have m0_ := mds_0 (f := f) (n := n) (E := E) (x := by2 f (p + 2)) (d := by2 f (p + 4)) (w := apN f n E p)
                        have a0_ := ap_9 (f := f) (n := n) (E := E) (p := p)
                        omega
                      rw [← hs, mtS_st (i := k) (by omega), ← hpk, mh_25 hnm hfl h25], rfl, hR256, hEI274, hER275, hi259, hi260⟩)
              · have c_254 : ¬ (¬ (nI (aN (by2 f p) 8)) = 0) := of_decide_eq_false c_254
                have n_254 : aN (by2 f p) 8 = 0 := (eq_nI (p := aN (by2 f p) 8) (n := 0) (Nat.lt_of_le_of_lt (an_le _ _) (by decide)) (by decide)).mp (Decidable.not_not.mp c_254)
                refine ps_st (S' := (258, [(0, .ref m0), (1, .int (nI p)), (2, .int (nI (by2 f pM))), (3, .int (nI f0)), (4, .int (nI ib)), (5, .int (nI k)), (6, .int (nI (by2 f p))), (7, .int (nI a)), (9, .int (nI i9)), (10, .int (nI s219))], [.int 1, .int (nI (argN (tX f n E (by2 f (p + 4)))))], M1)) rfl rfl rfl ?_
                refine ps_st (S' := (262, [(0, .ref m0), (1, .int (nI p)), (2, .int (nI (by2 f pM))), (3, .int (nI f0)), (4, .int (nI ib)), (5, .int (nI k)), (6, .int (nI (by2 f p))), (7, .int (nI a)), (9, .int (nI i9)), (10, .int (nI s219))], [.int 1, .int (nI (argN (tX f n E (by2 f (p + 4)))))], M1)) rfl rfl rfl ?_
                refine ps_st (S' := (263, [(0, .ref m0), (1, .int (nI p)), (2, .int (nI (by2 f pM))), (3, .int (nI f0)), (4, .int (nI ib)), (5, .int (nI k)), (6, .int (nI (by2 f p))), (7, .int (nI a)), (9, .int (nI i9)), (10, .int (nI s219))], [.int ((nI (argN (tX f n E (by2 f (p + 4))))) + 1)], M1)) rfl rfl rfl ?_
                rw [nI_add1 (p := argN (tX f n E (by2 f (p + 4)))) (k := 1) (x := 1) rfl (by omega)]
                show pl _ _ _ (_, [(0, .ref m0), (1, .int (nI p)), (2, .int (nI (by2 f pM))), (3, .int (nI f0)), (4, .int (nI ib)), (5, .int (nI k)), (6, .int (nI (by2 f p))), (7, .int (nI a)), (9, .int (nI i9)), (10, .int (nI s219))], [.int (nI (argN (tX f n E (by2 f (p + 4))) + 1))], M1) _
                refine ps_st (S' := (266, [(0, .ref m0), (1, .int (nI p)), (2, .int (nI (by2 f pM))), (3, .int (nI f0)), (4, .int (nI ib)), (5, .int (nI k)), (6, .int (nI (by2 f p))), (7, .int (nI a)), (9, .int (nI i9)), (10, .int (nI s219))], [.int 255, .int (nI (argN (tX f n E (by2 f (p + 4))) + 1))], M1)) rfl rfl rfl ?_
                refine ps_if2 (S1 := (279, [(0, .ref m0), (1, .int (nI p)), (2, .int (nI (by2 f pM))), (3, .int (nI f0)), (4, .int (nI ib)), (5, .int (nI k)), (6, .int (nI (by2 f p))), (7, .int (nI a)), (9, .int (nI i9)), (10, .int (nI s219))], [], M1)) (S2 := (269, [(0, .ref m0), (1, .int (nI p))], [], M1)) rfl rfl rfl (fun c_266 => ?_) (fun c_266 => ?_)
                · have c_266 : (nI (argN (tX f n E (by2 f (p + 4))) + 1)) ≤ 255 := of_decide_eq_true c_266
                  have n_266 : argN (tX f n E (by2 f (p + 4))) + 1 ≤ 255 := (le_nI (p := argN (tX f n E (by2 f (p + 4))) + 1) (n := 255) (by omega) (by decide)).mp c_266
                  have hds : ¬ mdsN f n E (by2 f (p + 2)) (by2 f (p + 4)) (apN f n E p) = 0 := by
                    have m0_ := mds_0 (f := f) (n := n) (E := E) (x := by2 f (p + 2)) (d := by2 f (p + 4)) (w := apN f n E p)
                    have a0_ := ap_9 (f := f) (n := n) (E := E) (p := p)
                    omega
                  exact ih.2.2.1 (k) (p) (ib) (a) (i9) (s219) M1 I1 R1 hR1 hEI1 hER1 hl51 hl52 hl53 hl58 hl56 hl26 hl9 hl10 hF1 hY1 hP1 hK1 hN91 (hk0) (hpk) (hpe) (hs) (hib) (hsa) (ht1) (hnm) (hfl) (h9c) (q206_s) (by omega) (by omega) (hds)
                · have c_266 : ¬ ((nI (argN (tX f n E (by2 f (p + 4))) + 1)) ≤ 255) := of_decide_eq_false c_266
                  have n_266 : ¬ (argN (tX f n E (by2 f (p + 4))) + 1 ≤ 255) := fun h9 => c_266 ((le_nI (p := argN (tX f n E (by2 f (p + 4))) + 1) (n := 255) (by omega) (by decide)).mpr h9)
                  refine ps_st (S' := (270, [(0, .ref m0), (1, .int (nI p))], [.ref m0], M1)) rfl rfl rfl ?_
                  refine ps_st (S' := (272, [(0, .ref m0), (1, .int (nI p))], [.int 25, .ref m0], M1)) rfl rfl rfl ?_
                  refine ps_st (S' := (273, [(0, .ref m0), (1, .int (nI p))], [.int (nI p), .int 25, .ref m0], M1)) rfl rfl rfl ?_
                  refine ps_st (S' := (274, [(0, .ref m0), (1, .int (nI p))], [.int 4, .int (nI p), .int 25, .ref m0], M1)) rfl rfl rfl ?_
                  refine ps_st (S' := (275, [(0, .ref m0), (1, .int (nI p))], [.int ((nI p) + 4), .int 25, .ref m0], M1)) rfl rfl rfl ?_
                  rw [nI_add1 (p := p) (k := 4) (x := 4) rfl (by omega)]
                  show pl _ _ _ (_, [(0, .ref m0), (1, .int (nI p))], [.int (nI (p + 4)), .int 25, .ref m0], M1) _
                  refine pl_call (a := [.ref m0, .int 25, .int (nI (p + 4))]) (rest := []) rfl rfl rfl (rd_wrong (x1 := 25) (x2 := (nI (p + 4))) hR1) (fun v276 M277 q278 => ?_)
                  obtain ⟨I279, R280, rfl, hR281, hI282, hX283, hi284, hi285⟩ := q278
                  have hi286 := (hI282 51 (by decide)).trans hl51
                  have hi287 := (hI282 52 (by decide)).trans hl52
                  have hi288 := (hI282 53 (by decide)).trans hl53
                  have hi289 := (hI282 58 (by decide)).trans hl58
                  have hi290 := (hI282 56 (by decide)).trans hl56
                  have hi291 := (hI282 26 (by decide)).trans hl26
                  have hi292 := (hI282 9 (by decide)).trans hl9
                  have hi293 := (hI282 10 (by decide)).trans hl10
                  have hF_294 := hF1.mono (cIx hI282 (by decide)) (cRx hX283 (by decide))
                  have hY_295 := hY1.mono (cIx hI282 (by decide)) (cRx hX283 (by decide))
                  have hP_296 := hP1.mono (cIx hI282 (by decide)) (cRx hX283 (by decide))
                  have hK_297 := hK1.mono (cIx hI282 (by decide)) (cRx hX283 (by decide))
                  have hN9_298 := hN91.mono (cIx hI282 (by decide)) (cRx hX283 (by decide))
                  have hEI299 := hEI1.tr hI282 (by decide)
                  have hER300 := hER1.tr hX283 (by decide)
                  show pl _ _ _ (278, [(0, .ref m0), (1, .int (nI p))], [.int 0], M277) _
                  exact ps_ret rfl rfl (Or.inr ⟨(25, p + 4), I279, R280, by
                      have h25 : mdsN f n E (by2 f (p + 2)) (by2 f (p + 4)) (apN f n E p) = 0 := by
                        have m0_ := mds_0 (f := f) (n := n) (E := E) (x := by2 f (p + 2)) (d := by2 f (p + 4)) (w := apN f n E p)
                        have a0_ := ap_9 (f := f) (n := n) (E := E) (p := p)
                        omega
                      rw [← hs, mtS_st (i := k) (by omega), ← hpk, mh_25 hnm hfl h25], rfl, hR281, hEI299, hER300, hi284, hi285⟩)
            · have c_231 : ¬ ((nI i8) = 0) := of_decide_eq_false c_231
              have n_231 : ¬ (i8 = 0) := fun h9 => c_231 ((eq_nI (p := i8) (n := 0) (by omega) (by decide)).mpr h9)
              refine ps_st (S' := (235, [(10, .int (nI s219)), (0, .ref m0), (1, .int (nI p)), (2, .int (nI (by2 f pM))), (3, .int (nI f0)), (4, .int (nI ib)), (5, .int (nI k)), (6, .int (nI (by2 f p))), (7, .int (nI a)), (8, .int (nI i8)), (9, .int (nI i9))], [.ref m0], M1)) rfl rfl rfl ?_
              refine ps_st (S' := (237, [(10, .int (nI s219)), (0, .ref m0), (1, .int (nI p)), (2, .int (nI (by2 f pM))), (3, .int (nI f0)), (4, .int (nI ib)), (5, .int (nI k)), (6, .int (nI (by2 f p))), (7, .int (nI a)), (8, .int (nI i8)), (9, .int (nI i9))], [.int (nI s219), .ref m0], M1)) rfl rfl rfl ?_
              refine pl_call (a := [.ref m0, .int (nI s219)]) (rest := []) rfl rfl rfl (rd_endsV (tx := tx) (cN := cN) (A := A) (s := s219) (l := (tX f n E (by2 f (p + 4)))) hR1 hY1 (q206_s) (by omega)) (fun v301 M302 q303 => ?_)
              obtain ⟨rfl, rfl⟩ := q303
              show pl _ _ _ (240, [(10, .int (nI s219)), (0, .ref m0), (1, .int (nI p)), (2, .int (nI (by2 f pM))), (3, .int (nI f0)), (4, .int (nI ib)), (5, .int (nI k)), (6, .int (nI (by2 f p))), (7, .int (nI a)), (8, .int (nI i8)), (9, .int (nI i9))], [.int (nI (nresN (tX f n E (by2 f (p + 4)))))], M1) _
              refine ps_if (S1 := (269, [(0, .ref m0), (1, .int (nI p))], [], M1)) (S2 := (243, [(0, .ref m0), (1, .int (nI p)), (2, .int (nI (by2 f pM))), (3, .int (nI f0)), (4, .int (nI ib)), (5, .int (nI k)), (6, .int (nI (by2 f p))), (7, .int (nI a)), (9, .int (nI i9)), (10, .int (nI s219))], [], M1)) rfl rfl rfl (fun c_240 => ?_) (fun c_240 => ?_)
              · have c_240 : (nI (nresN (tX f n E (by2 f (p + 4))))) = 0 := of_decide_eq_true c_240
                have n_240 : nresN (tX f n E (by2 f (p + 4))) = 0 := (eq_nI (p := nresN (tX f n E (by2 f (p + 4)))) (n := 0) (Nat.lt_trans (le1_nres _) (by decide)) (by decide)).mp c_240
                refine ps_st (S' := (270, [(0, .ref m0), (1, .int (nI p))], [.ref m0], M1)) rfl rfl rfl ?_
                refine ps_st (S' := (272, [(0, .ref m0), (1, .int (nI p))], [.int 25, .ref m0], M1)) rfl rfl rfl ?_
                refine ps_st (S' := (273, [(0, .ref m0), (1, .int (nI p))], [.int (nI p), .int 25, .ref m0], M1)) rfl rfl rfl ?_
                refine ps_st (S' := (274, [(0, .ref m0), (1, .int (nI p))], [.int 4, .int (nI p), .int 25, .ref m0], M1)) rfl rfl rfl ?_
                refine ps_st (S' := (275, [(0, .ref m0), (1, .int (nI p))], [.int ((nI p) + 4), .int 25, .ref m0], M1)) rfl rfl rfl ?_
                rw [nI_add1 (p := p) (k := 4) (x := 4) rfl (by omega)]
                show pl _ _ _ (_, [(0, .ref m0), (1, .int (nI p))], [.int (nI (p + 4)), .int 25, .ref m0], M1) _
                refine pl_call (a := [.ref m0, .int 25, .int (nI (p + 4))]) (rest := []) rfl rfl rfl (rd_wrong (x1 := 25) (x2 := (nI (p + 4))) hR1) (fun v304 M305 q306 => ?_)
                obtain ⟨I307, R308, rfl, hR309, hI310, hX311, hi312, hi313⟩ := q306
                have hi314 := (hI310 51 (by decide)).trans hl51
                have hi315 := (hI310 52 (by decide)).trans hl52
                have hi316 := (hI310 53 (by decide)).trans hl53
                have hi317 := (hI310 58 (by decide)).trans hl58
                have hi318 := (hI310 56 (by decide)).trans hl56
                have hi319 := (hI310 26 (by decide)).trans hl26
                have hi320 := (hI310 9 (by decide)).trans hl9
                have hi321 := (hI310 10 (by decide)).trans hl10
                have hF_322 := hF1.mono (cIx hI310 (by decide)) (cRx hX311 (by decide))
                have hY_323 := hY1.mono (cIx hI310 (by decide)) (cRx hX311 (by decide))
                have hP_324 := hP1.mono (cIx hI310 (by decide)) (cRx hX311 (by decide))
                have hK_325 := hK1.mono (cIx hI310 (by decide)) (cRx hX311 (by decide))
                have hN9_326 := hN91.mono (cIx hI310 (by decide)) (cRx hX311 (by decide))
                have hEI327 := hEI1.tr hI310 (by decide)
                have hER328 := hER1.tr hX311 (by decide)
                show pl _ _ _ (278, [(0, .ref m0), (1, .int (nI p))], [.int 0], M305) _
                exact ps_ret rfl rfl (Or.inr ⟨(25, p + 4), I307, R308, by
                    have h25 : mdsN f n E (by2 f (p + 2)) (by2 f (p + 4)) (apN f n E p) = 0 := by
                      have m0_ := mds_0 (f := f) (n := n) (E := E) (x := by2 f (p + 2)) (d := by2 f (p + 4)) (w := apN f n E p)
                      have a0_ := ap_9 (f := f) (n := n) (E := E) (p := p)
                      omega
                    rw [← hs, mtS_st (i := k) (by omega), ← hpk, mh_25 hnm hfl h25], rfl, hR309, hEI327, hER328, hi312, hi313⟩)
              · have c_240 : ¬ ((nI (nresN (tX f n E (by2 f (p + 4))))) = 0) := of_decide_eq_false c_240
                have n_240 : ¬ (nresN (tX f n E (by2 f (p + 4))) = 0) := fun h9 => c_240 ((eq_nI (p := nresN (tX f n E (by2 f (p + 4)))) (n := 0) (Nat.lt_trans (le1_nres _) (by decide)) (by decide)).mpr h9)
                refine ps_st (S' := (244, [(0, .ref m0), (1, .int (nI p)), (2, .int (nI (by2 f pM))), (3, .int (nI f0)), (4, .int (nI ib)), (5, .int (nI k)), (6, .int (nI (by2 f p))), (7, .int (nI a)), (9, .int (nI i9)), (10, .int (nI s219))], [.ref m0], M1)) rfl rfl rfl ?_
                refine ps_st (S' := (246, [(0, .ref m0), (1, .int (nI p)), (2, .int (nI (by2 f pM))), (3, .int (nI f0)), (4, .int (nI ib)), (5, .int (nI k)), (6, .int (nI (by2 f p))), (7, .int (nI a)), (9, .int (nI i9)), (10, .int (nI s219))], [.int (nI s219), .ref m0], M1)) rfl rfl rfl ?_
                obtain ⟨-, -, k_246, W_246, hq1_246, hq2_246, hq3_246, hq4_246, hq5_246, hq6_246, -⟩ := mth_in (l := (tX f n E (by2 f (p + 4)))) (by omega)
                refine pl_call (a := [.ref m0, .int (nI s219)]) (rest := []) rfl rfl rfl (rd_places0 (tx := tx) (cN := cN) (A := A) (s := s219) (l := (tX f n E (by2 f (p + 4)))) (k0 := k_246) (W := W_246) hR1 hY1 (q206_s) (hq1_246) (⟨by omega, hq5_246⟩)) (fun v329 M330 q331 => ?_)
                obtain ⟨rfl, rfl⟩ := q331
                show pl _ _ _ (249, [(0, .ref m0), (1, .int (nI p)), (2, .int (nI (by2 f pM))), (3, .int (nI f0)), (4, .int (nI ib)), (5, .int (nI k)), (6, .int (nI (by2 f p))), (7, .int (nI a)), (9, .int (nI i9)), (10, .int (nI s219))], [.int (nI (W_246))], M1) _
                rw [← hq6_246]
                show pl _ _ _ (_, [(0, .ref m0), (1, .int (nI p)), (2, .int (nI (by2 f pM))), (3, .int (nI f0)), (4, .int (nI ib)), (5, .int (nI k)), (6, .int (nI (by2 f p))), (7, .int (nI a)), (9, .int (nI i9)), (10, .int (nI s219))], [.int (nI (argN (tX f n E (by2 f (p + 4)))))], M1) _
                have hal_246 := argN_lt (tX f n E (by2 f (p + 4)))
                refine ps_st (S' := (251, [(0, .ref m0), (1, .int (nI p)), (2, .int (nI (by2 f pM))), (3, .int (nI f0)), (4, .int (nI ib)), (5, .int (nI k)), (6, .int (nI (by2 f p))), (7, .int (nI a)), (9, .int (nI i9)), (10, .int (nI s219))], [.int (nI (by2 f p)), .int (nI (argN (tX f n E (by2 f (p + 4)))))], M1)) rfl rfl rfl ?_
                refine ps_st (S' := (253, [(0, .ref m0), (1, .int (nI p)), (2, .int (nI (by2 f pM))), (3, .int (nI f0)), (4, .int (nI ib)), (5, .int (nI k)), (6, .int (nI (by2 f p))), (7, .int (nI a)), (9, .int (nI i9)), (10, .int (nI s219))], [.int 8, .int (nI (by2 f p)), .int (nI (argN (tX f n E (by2 f (p + 4)))))], M1)) rfl rfl rfl ?_
                refine ps_st (S' := (254, [(0, .ref m0), (1, .int (nI p)), (2, .int (nI (by2 f pM))), (3, .int (nI f0)), (4, .int (nI ib)), (5, .int (nI k)), (6, .int (nI (by2 f p))), (7, .int (nI a)), (9, .int (nI i9)), (10, .int (nI s219))], [.int ((nI (by2 f p)) &&& 8), .int (nI (argN (tX f n E (by2 f (p + 4)))))], M1)) rfl rfl rfl ?_
                rw [nI_an (p := by2 f p) (k := 8) (x := 8) rfl]
                show pl _ _ _ (_, [(0, .ref m0), (1, .int (nI p)), (2, .int (nI (by2 f pM))), (3, .int (nI f0)), (4, .int (nI ib)), (5, .int (nI k)), (6, .int (nI (by2 f p))), (7, .int (nI a)), (9, .int (nI i9)), (10, .int (nI s219))], [.int (nI (aN (by2 f p) 8)), .int (nI (argN (tX f n E (by2 f (p + 4)))))], M1) _
                refine ps_if (S1 := (261, [(0, .ref m0), (1, .int (nI p)), (2, .int (nI (by2 f pM))), (3, .int (nI f0)), (4, .int (nI ib)), (5, .int (nI k)), (6, .int (nI (by2 f p))), (7, .int (nI a)), (9, .int (nI i9)), (10, .int (nI s219))], [.int (nI (argN (tX f n E (by2 f (p + 4)))))], M1)) (S2 := (257, [(0, .ref m0), (1, .int (nI p)), (2, .int (nI (by2 f pM))), (3, .int (nI f0)), (4, .int (nI ib)), (5, .int (nI k)), (6, .int (nI (by2 f p))), (7, .int (nI a)), (9, .int (nI i9)), (10, .int (nI s219))], [.int (nI (argN (tX f n E (by2 f (p + 4)))))], M1)) rfl rfl rfl (fun c_254 => ?_) (fun c_254 => ?_)
                · have c_254 : ¬ (nI (aN (by2 f p) 8)) = 0 := of_decide_eq_true c_254
                  have n_254 : ¬ (aN (by2 f p) 8 = 0) := fun h9 => c_254 ((eq_nI (p := aN (by2 f p) 8) (n := 0) (Nat.lt_of_le_of_lt (an_le _ _) (by decide)) (by decide)).mpr h9)
                  refine ps_st (S' := (262, [(0, .ref m0), (1, .int (nI p)), (2, .int (nI (by2 f pM))), (3, .int (nI f0)), (4, .int (nI ib)), (5, .int (nI k)), (6, .int (nI (by2 f p))), (7, .int (nI a)), (9, .int (nI i9)), (10, .int (nI s219))], [.int 0, .int (nI (argN (tX f n E (by2 f (p + 4)))))], M1)) rfl rfl rfl ?_
                  refine ps_st (S' := (263, [(0, .ref m0), (1, .int (nI p)), (2, .int (nI (by2 f pM))), (3, .int (nI f0)), (4, .int (nI ib)), (5, .int (nI k)), (6, .int (nI (by2 f p))), (7, .int (nI a)), (9, .int (nI i9)), (10, .int (nI s219))], [.int ((nI (argN (tX f n E (by2 f (p + 4))))) + 0)], M1)) rfl rfl rfl ?_
                  rw [nI_add1 (p := argN (tX f n E (by2 f (p + 4)))) (k := 0) (x := 0) rfl (by omega)]
                  show pl _ _ _ (_, [(0, .ref m0), (1, .int (nI p)), (2, .int (nI (by2 f pM))), (3, .int (nI f0)), (4, .int (nI ib)), (5, .int (nI k)), (6, .int (nI (by2 f p))), (7, .int (nI a)), (9, .int (nI i9)), (10, .int (nI s219))], [.int (nI (argN (tX f n E (by2 f (p + 4))) + 0))], M1) _
                  refine ps_st (S' := (266, [(0, .ref m0), (1, .int (nI p)), (2, .int (nI (by2 f pM))), (3, .int (nI f0)), (4, .int (nI ib)), (5, .int (nI k)), (6, .int (nI (by2 f p))), (7, .int (nI a)), (9, .int (nI i9)), (10, .int (nI s219))], [.int 255, .int (nI (argN (tX f n E (by2 f (p + 4))) + 0))], M1)) rfl rfl rfl ?_
                  refine ps_if2 (S1 := (279, [(0, .ref m0), (1, .int (nI p)), (2, .int (nI (by2 f pM))), (3, .int (nI f0)), (4, .int (nI ib)), (5, .int (nI k)), (6, .int (nI (by2 f p))), (7, .int (nI a)), (9, .int (nI i9)), (10, .int (nI s219))], [], M1)) (S2 := (269, [(0, .ref m0), (1, .int (nI p))], [], M1)) rfl rfl rfl (fun c_266 => ?_) (fun c_266 => ?_)
                  · have c_266 : (nI (argN (tX f n E (by2 f (p + 4))) + 0)) ≤ 255 := of_decide_eq_true c_266
                    have n_266 : argN (tX f n E (by2 f (p + 4))) + 0 ≤ 255 := (le_nI (p := argN (tX f n E (by2 f (p + 4))) + 0) (n := 255) (by omega) (by decide)).mp c_266
                    have hds : ¬ mdsN f n E (by2 f (p + 2)) (by2 f (p + 4)) (apN f n E p) = 0 := by
                      have m0_ := mds_0 (f := f) (n := n) (E := E) (x := by2 f (p + 2)) (d := by2 f (p + 4)) (w := apN f n E p)
                      have a0_ := ap_9 (f := f) (n := n) (E := E) (p := p)
                      omega
                    exact ih.2.2.1 (k) (p) (ib) (a) (i9) (s219) M1 I1 R1 hR1 hEI1 hER1 hl51 hl52 hl53 hl58 hl56 hl26 hl9 hl10 hF1 hY1 hP1 hK1 hN91 (hk0) (hpk) (hpe) (hs) (hib) (hsa) (ht1) (hnm) (hfl) (h9c) (q206_s) (by omega) (by omega) (hds)
                  · have c_266 : ¬ ((nI (argN (tX f n E (by2 f (p + 4))) + 0)) ≤ 255) := of_decide_eq_false c_266
                    have n_266 : ¬ (argN (tX f n E (by2 f (p + 4))) + 0 ≤ 255) := fun h9 => c_266 ((le_nI (p := argN (tX f n E (by2 f (p + 4))) + 0) (n := 255) (by omega) (by decide)).mpr h9)
                    refine ps_st (S' := (270, [(0, .ref m0), (1, .int (nI p))], [.ref m0], M1)) rfl rfl rfl ?_
                    refine ps_st (S' := (272, [(0, .ref m0), (1, .int (nI p))], [.int 25, .ref m0], M1)) rfl rfl rfl ?_
                    refine ps_st (S' := (273, [(0, .ref m0), (1, .int (nI p))], [.int (nI p), .int 25, .ref m0], M1)) rfl rfl rfl ?_
                    refine ps_st (S' := (274, [(0, .ref m0), (1, .int (nI p))], [.int 4, .int (nI p), .int 25, .ref m0], M1)) rfl rfl rfl ?_
                    refine ps_st (S' := (275, [(0, .ref m0), (1, .int (nI p))], [.int ((nI p) + 4), .int 25, .ref m0], M1)) rfl rfl rfl ?_
                    rw [nI_add1 (p := p) (k := 4) (x := 4) rfl (by omega)]
                    show pl _ _ _ (_, [(0, .ref m0), (1, .int (nI p))], [.int (nI (p + 4)), .int 25, .ref m0], M1) _
                    refine pl_call (a := [.ref m0, .int 25, .int (nI (p + 4))]) (rest := []) rfl rfl rfl (rd_wrong (x1 := 25) (x2 := (nI (p + 4))) hR1) (fun v332 M333 q334 => ?_)
                    obtain ⟨I335, R336, rfl, hR337, hI338, hX339, hi340, hi341⟩ := q334
                    have hi342 := (hI338 51 (by decide)).trans hl51
                    have hi343 := (hI338 52 (by decide)).trans hl52
                    have hi344 := (hI338 53 (by decide)).trans hl53
                    have hi345 := (hI338 58 (by decide)).trans hl58
                    have hi346 := (hI338 56 (by decide)).trans hl56
                    have hi347 := (hI338 26 (by decide)).trans hl26
                    have hi348 := (hI338 9 (by decide)).trans hl9
                    have hi349 := (hI338 10 (by decide)).trans hl10
                    have hF_350 := hF1.mono (cIx hI338 (by decide)) (cRx hX339 (by decide))
                    have hY_351 := hY1.mono (cIx hI338 (by decide)) (cRx hX339 (by decide))
                    have hP_352 := hP1.mono (cIx hI338 (by decide)) (cRx hX339 (by decide))
                    have hK_353 := hK1.mono (cIx hI338 (by decide)) (cRx hX339 (by decide))
                    have hN9_354 := hN91.mono (cIx hI338 (by decide)) (cRx hX339 (by decide))
                    have hEI355 := hEI1.tr hI338 (by decide)
                    have hER356 := hER1.tr hX339 (by decide)
                    show pl _ _ _ (278, [(0, .ref m0), (1, .int (nI p))], [.int 0], M333) _
                    exact ps_ret rfl rfl (Or.inr ⟨(25, p + 4), I335, R336, by
                        have h25 : mdsN f n E (by2 f (p + 2)) (by2 f (p + 4)) (apN f n E p) = 0 := by
                          have m0_ := mds_0 (f := f) (n := n) (E := E) (x := by2 f (p + 2)) (d := by2 f (p + 4)) (w := apN f n E p)
                          have a0_ := ap_9 (f := f) (n := n) (E := E) (p := p)
                          omega
                        rw [← hs, mtS_st (i := k) (by omega), ← hpk, mh_25 hnm hfl h25], rfl, hR337, hEI355, hER356, hi340, hi341⟩)
                · have c_254 : ¬ (¬ (nI (aN (by2 f p) 8)) = 0) := of_decide_eq_false c_254
                  have n_254 : aN (by2 f p) 8 = 0 := (eq_nI (p := aN (by2 f p) 8) (n := 0) (Nat.lt_of_le_of_lt (an_le _ _) (by decide)) (by decide)).mp (Decidable.not_not.mp c_254)
                  refine ps_st (S' := (258, [(0, .ref m0), (1, .int (nI p)), (2, .int (nI (by2 f pM))), (3, .int (nI f0)), (4, .int (nI ib)), (5, .int (nI k)), (6, .int (nI (by2 f p))), (7, .int (nI a)), (9, .int (nI i9)), (10, .int (nI s219))], [.int 1, .int (nI (argN (tX f n E (by2 f (p + 4)))))], M1)) rfl rfl rfl ?_
                  refine ps_st (S' := (262, [(0, .ref m0), (1, .int (nI p)), (2, .int (nI (by2 f pM))), (3, .int (nI f0)), (4, .int (nI ib)), (5, .int (nI k)), (6, .int (nI (by2 f p))), (7, .int (nI a)), (9, .int (nI i9)), (10, .int (nI s219))], [.int 1, .int (nI (argN (tX f n E (by2 f (p + 4)))))], M1)) rfl rfl rfl ?_
                  refine ps_st (S' := (263, [(0, .ref m0), (1, .int (nI p)), (2, .int (nI (by2 f pM))), (3, .int (nI f0)), (4, .int (nI ib)), (5, .int (nI k)), (6, .int (nI (by2 f p))), (7, .int (nI a)), (9, .int (nI i9)), (10, .int (nI s219))], [.int ((nI (argN (tX f n E (by2 f (p + 4))))) + 1)], M1)) rfl rfl rfl ?_
                  rw [nI_add1 (p := argN (tX f n E (by2 f (p + 4)))) (k := 1) (x := 1) rfl (by omega)]
                  show pl _ _ _ (_, [(0, .ref m0), (1, .int (nI p)), (2, .int (nI (by2 f pM))), (3, .int (nI f0)), (4, .int (nI ib)), (5, .int (nI k)), (6, .int (nI (by2 f p))), (7, .int (nI a)), (9, .int (nI i9)), (10, .int (nI s219))], [.int (nI (argN (tX f n E (by2 f (p + 4))) + 1))], M1) _
                  refine ps_st (S' := (266, [(0, .ref m0), (1, .int (nI p)), (2, .int (nI (by2 f pM))), (3, .int (nI f0)), (4, .int (nI ib)), (5, .int (nI k)), (6, .int (nI (by2 f p))), (7, .int (nI a)), (9, .int (nI i9)), (10, .int (nI s219))], [.int 255, .int (nI (argN (tX f n E (by2 f (p + 4))) + 1))], M1)) rfl rfl rfl ?_
                  refine ps_if2 (S1 := (279, [(0, .ref m0), (1, .int (nI p)), (2, .int (nI (by2 f pM))), (3, .int (nI f0)), (4, .int (nI ib)), (5, .int (nI k)), (6, .int (nI (by2 f p))), (7, .int (nI a)), (9, .int (nI i9)), (10, .int (nI s219))], [], M1)) (S2 := (269, [(0, .ref m0), (1, .int (nI p))], [], M1)) rfl rfl rfl (fun c_266 => ?_) (fun c_266 => ?_)
                  · have c_266 : (nI (argN (tX f n E (by2 f (p + 4))) + 1)) ≤ 255 := of_decide_eq_true c_266
                    have n_266 : argN (tX f n E (by2 f (p + 4))) + 1 ≤ 255 := (le_nI (p := argN (tX f n E (by2 f (p + 4))) + 1) (n := 255) (by omega) (by decide)).mp c_266
                    have hds : ¬ mdsN f n E (by2 f (p + 2)) (by2 f (p + 4)) (apN f n E p) = 0 := by
                      have m0_ := mds_0 (f := f) (n := n) (E := E) (x := by2 f (p + 2)) (d := by2 f (p + 4)) (w := apN f n E p)
                      have a0_ := ap_9 (f := f) (n := n) (E := E) (p := p)
                      omega
                    exact ih.2.2.1 (k) (p) (ib) (a) (i9) (s219) M1 I1 R1 hR1 hEI1 hER1 hl51 hl52 hl53 hl58 hl56 hl26 hl9 hl10 hF1 hY1 hP1 hK1 hN91 (hk0) (hpk) (hpe) (hs) (hib) (hsa) (ht1) (hnm) (hfl) (h9c) (q206_s) (by omega) (by omega) (hds)
                  · have c_266 : ¬ ((nI (argN (tX f n E (by2 f (p + 4))) + 1)) ≤ 255) := of_decide_eq_false c_266
                    have n_266 : ¬ (argN (tX f n E (by2 f (p + 4))) + 1 ≤ 255) := fun h9 => c_266 ((le_nI (p := argN (tX f n E (by2 f (p + 4))) + 1) (n := 255) (by omega) (by decide)).mpr h9)
                    refine ps_st (S' := (270, [(0, .ref m0), (1, .int (nI p))], [.ref m0], M1)) rfl rfl rfl ?_
                    refine ps_st (S' := (272, [(0, .ref m0), (1, .int (nI p))], [.int 25, .ref m0], M1)) rfl rfl rfl ?_
                    refine ps_st (S' := (273, [(0, .ref m0), (1, .int (nI p))], [.int (nI p), .int 25, .ref m0], M1)) rfl rfl rfl ?_
                    refine ps_st (S' := (274, [(0, .ref m0), (1, .int (nI p))], [.int 4, .int (nI p), .int 25, .ref m0], M1)) rfl rfl rfl ?_
                    refine ps_st (S' := (275, [(0, .ref m0), (1, .int (nI p))], [.int ((nI p) + 4), .int 25, .ref m0], M1)) rfl rfl rfl ?_
                    rw [nI_add1 (p := p) (k := 4) (x := 4) rfl (by omega)]
                    show pl _ _ _ (_, [(0, .ref m0), (1, .int (nI p))], [.int (nI (p + 4)), .int 25, .ref m0], M1) _
                    refine pl_call (a := [.ref m0, .int 25, .int (nI (p + 4))]) (rest := []) rfl rfl rfl (rd_wrong (x1 := 25) (x2 := (nI (p + 4))) hR1) (fun v357 M358 q359 => ?_)
                    obtain ⟨I360, R361, rfl, hR362, hI363, hX364, hi365, hi366⟩ := q359
                    have hi367 := (hI363 51 (by decide)).trans hl51
                    have hi368 := (hI363 52 (by decide)).trans hl52
                    have hi369 := (hI363 53 (by decide)).trans hl53
                    have hi370 := (hI363 58 (by decide)).trans hl58
                    have hi371 := (hI363 56 (by decide)).trans hl56
                    have hi372 := (hI363 26 (by decide)).trans hl26
                    have hi373 := (hI363 9 (by decide)).trans hl9
                    have hi374 := (hI363 10 (by decide)).trans hl10
                    have hF_375 := hF1.mono (cIx hI363 (by decide)) (cRx hX364 (by decide))
                    have hY_376 := hY1.mono (cIx hI363 (by decide)) (cRx hX364 (by decide))
                    have hP_377 := hP1.mono (cIx hI363 (by decide)) (cRx hX364 (by decide))
                    have hK_378 := hK1.mono (cIx hI363 (by decide)) (cRx hX364 (by decide))
                    have hN9_379 := hN91.mono (cIx hI363 (by decide)) (cRx hX364 (by decide))
                    have hEI380 := hEI1.tr hI363 (by decide)
                    have hER381 := hER1.tr hX364 (by decide)
                    show pl _ _ _ (278, [(0, .ref m0), (1, .int (nI p))], [.int 0], M358) _
                    exact ps_ret rfl rfl (Or.inr ⟨(25, p + 4), I360, R361, by
                        have h25 : mdsN f n E (by2 f (p + 2)) (by2 f (p + 4)) (apN f n E p) = 0 := by
                          have m0_ := mds_0 (f := f) (n := n) (E := E) (x := by2 f (p + 2)) (d := by2 f (p + 4)) (w := apN f n E p)
                          have a0_ := ap_9 (f := f) (n := n) (E := E) (p := p)
                          omega
                        rw [← hs, mtS_st (i := k) (by omega), ← hpk, mh_25 hnm hfl h25], rfl, hR362, hEI380, hER381, hi365, hi366⟩)
      · skip
        intro k p ib a i9 d M1 I1 R1 hR1 hEI1 hER1 hl51 hl52 hl53 hl58 hl56 hl26 hl9 hl10 hF1 hY1 hP1 hK1 hN91 hk0 hpk hpe hs hib hsa ht1 hnm hfl h9c hsd ht2 hmt hds
        have hn := hF1.1
        have hu9 := by2_lt f pM
        have htl := hY1.1.2.2.1
        have hBl := hMB.1
        have hi7 := hsi.1
        have hc7 := hsc.1
        have hu8 := by2_lt f p
        have hsa1 := hsa.1
        have hsd1 := hsd.1
        refine ps_st1 (S' := (280, [(0, .ref m0), (1, .int (nI p)), (2, .int (nI (by2 f pM))), (3, .int (nI f0)), (4, .int (nI ib)), (5, .int (nI k)), (6, .int (nI (by2 f p))), (7, .int (nI a)), (9, .int (nI i9)), (10, .int (nI d))], [.ref m0], M1)) rfl rfl rfl ?_
        refine pr_int (j := 26) (S' := (283, [(0, .ref m0), (1, .int (nI p)), (2, .int (nI (by2 f pM))), (3, .int (nI f0)), (4, .int (nI ib)), (5, .int (nI k)), (6, .int (nI (by2 f p))), (7, .int (nI a)), (9, .int (nI i9)), (10, .int (nI d))], [.int (nI (f0 + k))], M1)) rfl hR1 rfl hl26 rfl ?_
        refine ps_st (S' := (285, [(11, .int (nI (f0 + k))), (0, .ref m0), (1, .int (nI p)), (2, .int (nI (by2 f pM))), (3, .int (nI f0)), (4, .int (nI ib)), (5, .int (nI k)), (6, .int (nI (by2 f p))), (7, .int (nI a)), (9, .int (nI i9)), (10, .int (nI d))], [], M1)) rfl rfl rfl ?_
        refine ps_st (S' := (286, [(11, .int (nI (f0 + k))), (0, .ref m0), (1, .int (nI p)), (2, .int (nI (by2 f pM))), (3, .int (nI f0)), (4, .int (nI ib)), (5, .int (nI k)), (6, .int (nI (by2 f p))), (7, .int (nI a)), (9, .int (nI i9)), (10, .int (nI d))], [.ref m0], M1)) rfl rfl rfl ?_
        refine pr_ref (j := 34) (S' := (289, [(11, .int (nI (f0 + k))), (0, .ref m0), (1, .int (nI p)), (2, .int (nI (by2 f pM))), (3, .int (nI f0)), (4, .int (nI ib)), (5, .int (nI k)), (6, .int (nI (by2 f p))), (7, .int (nI a)), (9, .int (nI i9)), (10, .int (nI d))], [.ref (q 34)], M1)) rfl hR1 rfl rfl ?_
        refine ps_st (S' := (291, [(11, .int (nI (f0 + k))), (0, .ref m0), (1, .int (nI p)), (2, .int (nI (by2 f pM))), (3, .int (nI f0)), (4, .int (nI ib)), (5, .int (nI k)), (6, .int (nI (by2 f p))), (7, .int (nI a)), (9, .int (nI i9)), (10, .int (nI d))], [.int (nI (f0 + k)), .ref (q 34)], M1)) rfl rfl rfl ?_
        refine ps_st (S' := (293, [(11, .int (nI (f0 + k))), (0, .ref m0), (1, .int (nI p)), (2, .int (nI (by2 f pM))), (3, .int (nI f0)), (4, .int (nI ib)), (5, .int (nI k)), (6, .int (nI (by2 f p))), (7, .int (nI a)), (9, .int (nI i9)), (10, .int (nI d))], [.int (nI (by2 f p)), .int (nI (f0 + k)), .ref (q 34)], M1)) rfl rfl rfl ?_
        refine pr_st (a := 34) (j := f0 + k) rfl hR1 rfl (by omega) (fun M382 R383 i1_293 hR384 hS385 => ?_)
        have hF_386 := hF1.mono (fun _ _ => rfl) (rRx hS385 (by decide))
        have hY_387 := hY1.mono (fun _ _ => rfl) (rRx hS385 (by decide))
        have hP_388 := hP1.mono (fun _ _ => rfl) (rRx hS385 (by decide))
        have hK_389 := hK1.mono (fun _ _ => rfl) (rRx hS385 (by decide))
        have hN9_390 := hN91.mono (fun _ _ => rfl) (rRx hS385 (by decide))
        have hER391 := hER1.st hS385 (by decide)
        show pl _ _ _ (294, [(11, .int (nI (f0 + k))), (0, .ref m0), (1, .int (nI p)), (2, .int (nI (by2 f pM))), (3, .int (nI f0)), (4, .int (nI ib)), (5, .int (nI k)), (6, .int (nI (by2 f p))), (7, .int (nI a)), (9, .int (nI i9)), (10, .int (nI d))], [], M382) _
        have c34_392 : CE 34 (f0 + k) (nI (by2 f p)) I1 R383 := CE.st hS385
        refine ps_st (S' := (295, [(11, .int (nI (f0 + k))), (0, .ref m0), (1, .int (nI p)), (2, .int (nI (by2 f pM))), (3, .int (nI f0)), (4, .int (nI ib)), (5, .int (nI k)), (6, .int (nI (by2 f p))), (7, .int (nI a)), (9, .int (nI i9)), (10, .int (nI d))], [.ref m0], M382)) rfl rfl rfl ?_
        refine pr_ref (j := 35) (S' := (298, [(11, .int (nI (f0 + k))), (0, .ref m0), (1, .int (nI p)), (2, .int (nI (by2 f pM))), (3, .int (nI f0)), (4, .int (nI ib)), (5, .int (nI k)), (6, .int (nI (by2 f p))), (7, .int (nI a)), (9, .int (nI i9)), (10, .int (nI d))], [.ref (q 35)], M382)) rfl hR384 rfl rfl ?_
        refine ps_st (S' := (300, [(11, .int (nI (f0 + k))), (0, .ref m0), (1, .int (nI p)), (2, .int (nI (by2 f pM))), (3, .int (nI f0)), (4, .int (nI ib)), (5, .int (nI k)), (6, .int (nI (by2 f p))), (7, .int (nI a)), (9, .int (nI i9)), (10, .int (nI d))], [.int (nI (f0 + k)), .ref (q 35)], M382)) rfl rfl rfl ?_
        refine ps_st (S' := (302, [(11, .int (nI (f0 + k))), (0, .ref m0), (1, .int (nI p)), (2, .int (nI (by2 f pM))), (3, .int (nI f0)), (4, .int (nI ib)), (5, .int (nI k)), (6, .int (nI (by2 f p))), (7, .int (nI a)), (9, .int (nI i9)), (10, .int (nI d))], [.int (nI a), .int (nI (f0 + k)), .ref (q 35)], M382)) rfl rfl rfl ?_
        refine pr_st (a := 35) (j := f0 + k) rfl hR384 rfl (by omega) (fun M393 R394 i1_302 hR395 hS396 => ?_)
        have hF_397 := hF_386.mono (fun _ _ => rfl) (rRx hS396 (by decide))
        have hY_398 := hY_387.mono (fun _ _ => rfl) (rRx hS396 (by decide))
        have hP_399 := hP_388.mono (fun _ _ => rfl) (rRx hS396 (by decide))
        have hK_400 := hK_389.mono (fun _ _ => rfl) (rRx hS396 (by decide))
        have c34_401 := c34_392.mono (fun _ _ => rfl) (rRx hS396 (by decide))
        have hER402 := hER391.st hS396 (by decide)
        show pl _ _ _ (303, [(11, .int (nI (f0 + k))), (0, .ref m0), (1, .int (nI p)), (2, .int (nI (by2 f pM))), (3, .int (nI f0)), (4, .int (nI ib)), (5, .int (nI k)), (6, .int (nI (by2 f p))), (7, .int (nI a)), (9, .int (nI i9)), (10, .int (nI d))], [], M393) _
        have c35_403 : CE 35 (f0 + k) (nI a) I1 R394 := CE.st hS396
        have hN9_404 := FN.st (I' := I1) hN9_390 hS396 rfl
        refine ps_st (S' := (304, [(11, .int (nI (f0 + k))), (0, .ref m0), (1, .int (nI p)), (2, .int (nI (by2 f pM))), (3, .int (nI f0)), (4, .int (nI ib)), (5, .int (nI k)), (6, .int (nI (by2 f p))), (7, .int (nI a)), (9, .int (nI i9)), (10, .int (nI d))], [.ref m0], M393)) rfl rfl rfl ?_
        refine pr_ref (j := 36) (S' := (307, [(11, .int (nI (f0 + k))), (0, .ref m0), (1, .int (nI p)), (2, .int (nI (by2 f pM))), (3, .int (nI f0)), (4, .int (nI ib)), (5, .int (nI k)), (6, .int (nI (by2 f p))), (7, .int (nI a)), (9, .int (nI i9)), (10, .int (nI d))], [.ref (q 36)], M393)) rfl hR395 rfl rfl ?_
        refine ps_st (S' := (309, [(11, .int (nI (f0 + k))), (0, .ref m0), (1, .int (nI p)), (2, .int (nI (by2 f pM))), (3, .int (nI f0)), (4, .int (nI ib)), (5, .int (nI k)), (6, .int (nI (by2 f p))), (7, .int (nI a)), (9, .int (nI i9)), (10, .int (nI d))], [.int (nI (f0 + k)), .ref (q 36)], M393)) rfl rfl rfl ?_
        refine ps_st (S' := (311, [(11, .int (nI (f0 + k))), (0, .ref m0), (1, .int (nI p)), (2, .int (nI (by2 f pM))), (3, .int (nI f0)), (4, .int (nI ib)), (5, .int (nI k)), (6, .int (nI (by2 f p))), (7, .int (nI a)), (9, .int (nI i9)), (10, .int (nI d))], [.int (nI d), .int (nI (f0 + k)), .ref (q 36)], M393)) rfl rfl rfl ?_
        refine pr_st (a := 36) (j := f0 + k) rfl hR395 rfl (by omega) (fun M405 R406 i1_311 hR407 hS408 => ?_)
        have hF_409 := hF_397.mono (fun _ _ => rfl) (rRx hS408 (by decide))
        have hY_410 := hY_398.mono (fun _ _ => rfl) (rRx hS408 (by decide))
        have hP_411 := hP_399.mono (fun _ _ => rfl) (rRx hS408 (by decide))
        have hK_412 := hK_400.mono (fun _ _ => rfl) (rRx hS408 (by decide))
        have c34_413 := c34_401.mono (fun _ _ => rfl) (rRx hS408 (by decide))
        have c35_414 := c35_403.mono (fun _ _ => rfl) (rRx hS408 (by decide))
        have hER415 := hER402.st hS408 (by decide)
        show pl _ _ _ (312, [(11, .int (nI (f0 + k))), (0, .ref m0), (1, .int (nI p)), (2, .int (nI (by2 f pM))), (3, .int (nI f0)), (4, .int (nI ib)), (5, .int (nI k)), (6, .int (nI (by2 f p))), (7, .int (nI a)), (9, .int (nI i9)), (10, .int (nI d))], [], M405) _
        have c36_416 : CE 36 (f0 + k) (nI d) I1 R406 := CE.st hS408
        have hN9_417 := FN.st (I' := I1) hN9_404 hS408 rfl
        refine ps_st (S' := (313, [(11, .int (nI (f0 + k))), (0, .ref m0), (1, .int (nI p)), (2, .int (nI (by2 f pM))), (3, .int (nI f0)), (4, .int (nI ib)), (5, .int (nI k)), (6, .int (nI (by2 f p))), (7, .int (nI a)), (9, .int (nI i9)), (10, .int (nI d))], [.ref m0], M405)) rfl rfl rfl ?_
        refine pr_ref (j := 37) (S' := (316, [(11, .int (nI (f0 + k))), (0, .ref m0), (1, .int (nI p)), (2, .int (nI (by2 f pM))), (3, .int (nI f0)), (4, .int (nI ib)), (5, .int (nI k)), (6, .int (nI (by2 f p))), (7, .int (nI a)), (9, .int (nI i9)), (10, .int (nI d))], [.ref (q 37)], M405)) rfl hR407 rfl rfl ?_
        refine ps_st (S' := (318, [(11, .int (nI (f0 + k))), (0, .ref m0), (1, .int (nI p)), (2, .int (nI (by2 f pM))), (3, .int (nI f0)), (4, .int (nI ib)), (5, .int (nI k)), (6, .int (nI (by2 f p))), (7, .int (nI a)), (9, .int (nI i9)), (10, .int (nI d))], [.int (nI (f0 + k)), .ref (q 37)], M405)) rfl rfl rfl ?_
        refine ps_st (S' := (319, [(11, .int (nI (f0 + k))), (0, .ref m0), (1, .int (nI p)), (2, .int (nI (by2 f pM))), (3, .int (nI f0)), (4, .int (nI ib)), (5, .int (nI k)), (6, .int (nI (by2 f p))), (7, .int (nI a)), (9, .int (nI i9)), (10, .int (nI d))], [.int (-1), .int (nI (f0 + k)), .ref (q 37)], M405)) rfl rfl rfl ?_
        refine pr_st (a := 37) (j := f0 + k) rfl hR407 rfl (by omega) (fun M418 R419 i1_319 hR420 hS421 => ?_)
        have hF_422 := hF_409.mono (fun _ _ => rfl) (rRx hS421 (by decide))
        have hY_423 := hY_410.mono (fun _ _ => rfl) (rRx hS421 (by decide))
        have hP_424 := hP_411.mono (fun _ _ => rfl) (rRx hS421 (by decide))
        have hK_425 := hK_412.mono (fun _ _ => rfl) (rRx hS421 (by decide))
        have c34_426 := c34_413.mono (fun _ _ => rfl) (rRx hS421 (by decide))
        have c35_427 := c35_414.mono (fun _ _ => rfl) (rRx hS421 (by decide))
        have c36_428 := c36_416.mono (fun _ _ => rfl) (rRx hS421 (by decide))
        have hN9_429 := hN9_417.mono (fun _ _ => rfl) (rRx hS421 (by decide))
        have hER430 := hER415.st hS421 (by decide)
        show pl _ _ _ (320, [(11, .int (nI (f0 + k))), (0, .ref m0), (1, .int (nI p)), (2, .int (nI (by2 f pM))), (3, .int (nI f0)), (4, .int (nI ib)), (5, .int (nI k)), (6, .int (nI (by2 f p))), (7, .int (nI a)), (9, .int (nI i9)), (10, .int (nI d))], [], M418) _
        have hC_431 : CX 0 (f0 + k) I1 R419 := by unfold CX; rw [if_pos rfl, hS421, rset_at]
        refine ps_st (S' := (321, [(11, .int (nI (f0 + k))), (0, .ref m0), (1, .int (nI p)), (2, .int (nI (by2 f pM))), (3, .int (nI f0)), (4, .int (nI ib)), (5, .int (nI k)), (6, .int (nI (by2 f p))), (7, .int (nI a)), (9, .int (nI i9)), (10, .int (nI d))], [.ref m0], M418)) rfl rfl rfl ?_
        refine pr_ref (j := 38) (S' := (324, [(11, .int (nI (f0 + k))), (0, .ref m0), (1, .int (nI p)), (2, .int (nI (by2 f pM))), (3, .int (nI f0)), (4, .int (nI ib)), (5, .int (nI k)), (6, .int (nI (by2 f p))), (7, .int (nI a)), (9, .int (nI i9)), (10, .int (nI d))], [.ref (q 38)], M418)) rfl hR420 rfl rfl ?_
        refine ps_st (S' := (326, [(11, .int (nI (f0 + k))), (0, .ref m0), (1, .int (nI p)), (2, .int (nI (by2 f pM))), (3, .int (nI f0)), (4, .int (nI ib)), (5, .int (nI k)), (6, .int (nI (by2 f p))), (7, .int (nI a)), (9, .int (nI i9)), (10, .int (nI d))], [.int (nI (f0 + k)), .ref (q 38)], M418)) rfl rfl rfl ?_
        refine ps_st (S' := (327, [(11, .int (nI (f0 + k))), (0, .ref m0), (1, .int (nI p)), (2, .int (nI (by2 f pM))), (3, .int (nI f0)), (4, .int (nI ib)), (5, .int (nI k)), (6, .int (nI (by2 f p))), (7, .int (nI a)), (9, .int (nI i9)), (10, .int (nI d))], [.int 0, .int (nI (f0 + k)), .ref (q 38)], M418)) rfl rfl rfl ?_
        refine pr_st (a := 38) (j := f0 + k) rfl hR420 rfl (by omega) (fun M432 R433 i1_327 hR434 hS435 => ?_)
        have hF_436 := hF_422.mono (fun _ _ => rfl) (rRx hS435 (by decide))
        have hY_437 := hY_423.mono (fun _ _ => rfl) (rRx hS435 (by decide))
        have hP_438 := hP_424.mono (fun _ _ => rfl) (rRx hS435 (by decide))
        have hK_439 := hK_425.mono (fun _ _ => rfl) (rRx hS435 (by decide))
        have c34_440 := c34_426.mono (fun _ _ => rfl) (rRx hS435 (by decide))
        have c35_441 := c35_427.mono (fun _ _ => rfl) (rRx hS435 (by decide))
        have c36_442 := c36_428.mono (fun _ _ => rfl) (rRx hS435 (by decide))
        have hN9_443 := hN9_429.mono (fun _ _ => rfl) (rRx hS435 (by decide))
        have hC_444 := hC_431.mono (fun _ _ => rfl) (rRx hS435 (by decide))
        have hER445 := hER430.st hS435 (by decide)
        show pl _ _ _ (328, [(11, .int (nI (f0 + k))), (0, .ref m0), (1, .int (nI p)), (2, .int (nI (by2 f pM))), (3, .int (nI f0)), (4, .int (nI ib)), (5, .int (nI k)), (6, .int (nI (by2 f p))), (7, .int (nI a)), (9, .int (nI i9)), (10, .int (nI d))], [], M432) _
        refine ps_st (S' := (329, [(11, .int (nI (f0 + k))), (0, .ref m0), (1, .int (nI p)), (2, .int (nI (by2 f pM))), (3, .int (nI f0)), (4, .int (nI ib)), (5, .int (nI k)), (6, .int (nI (by2 f p))), (7, .int (nI a)), (9, .int (nI i9)), (10, .int (nI d))], [.ref m0], M432)) rfl rfl rfl ?_
        refine pr_ref (j := 39) (S' := (332, [(11, .int (nI (f0 + k))), (0, .ref m0), (1, .int (nI p)), (2, .int (nI (by2 f pM))), (3, .int (nI f0)), (4, .int (nI ib)), (5, .int (nI k)), (6, .int (nI (by2 f p))), (7, .int (nI a)), (9, .int (nI i9)), (10, .int (nI d))], [.ref (q 39)], M432)) rfl hR434 rfl rfl ?_
        refine ps_st (S' := (334, [(11, .int (nI (f0 + k))), (0, .ref m0), (1, .int (nI p)), (2, .int (nI (by2 f pM))), (3, .int (nI f0)), (4, .int (nI ib)), (5, .int (nI k)), (6, .int (nI (by2 f p))), (7, .int (nI a)), (9, .int (nI i9)), (10, .int (nI d))], [.int (nI (f0 + k)), .ref (q 39)], M432)) rfl rfl rfl ?_
        refine ps_st (S' := (335, [(11, .int (nI (f0 + k))), (0, .ref m0), (1, .int (nI p)), (2, .int (nI (by2 f pM))), (3, .int (nI f0)), (4, .int (nI ib)), (5, .int (nI k)), (6, .int (nI (by2 f p))), (7, .int (nI a)), (9, .int (nI i9)), (10, .int (nI d))], [.int 0, .int (nI (f0 + k)), .ref (q 39)], M432)) rfl rfl rfl ?_
        refine pr_st (a := 39) (j := f0 + k) rfl hR434 rfl (by omega) (fun M446 R447 i1_335 hR448 hS449 => ?_)
        have hF_450 := hF_436.mono (fun _ _ => rfl) (rRx hS449 (by decide))
        have hY_451 := hY_437.mono (fun _ _ => rfl) (rRx hS449 (by decide))
        have hP_452 := hP_438.mono (fun _ _ => rfl) (rRx hS449 (by decide))
        have hK_453 := hK_439.mono (fun _ _ => rfl) (rRx hS449 (by decide))
        have c34_454 := c34_440.mono (fun _ _ => rfl) (rRx hS449 (by decide))
        have c35_455 := c35_441.mono (fun _ _ => rfl) (rRx hS449 (by decide))
        have c36_456 := c36_442.mono (fun _ _ => rfl) (rRx hS449 (by decide))
        have hN9_457 := hN9_443.mono (fun _ _ => rfl) (rRx hS449 (by decide))
        have hC_458 := hC_444.mono (fun _ _ => rfl) (rRx hS449 (by decide))
        have hER459 := hER445.st hS449 (by decide)
        show pl _ _ _ (336, [(11, .int (nI (f0 + k))), (0, .ref m0), (1, .int (nI p)), (2, .int (nI (by2 f pM))), (3, .int (nI f0)), (4, .int (nI ib)), (5, .int (nI k)), (6, .int (nI (by2 f p))), (7, .int (nI a)), (9, .int (nI i9)), (10, .int (nI d))], [], M446) _
        refine ps_st (S' := (337, [(11, .int (nI (f0 + k))), (0, .ref m0), (1, .int (nI p)), (2, .int (nI (by2 f pM))), (3, .int (nI f0)), (4, .int (nI ib)), (5, .int (nI k)), (6, .int (nI (by2 f p))), (7, .int (nI a)), (9, .int (nI i9)), (10, .int (nI d))], [.ref m0], M446)) rfl rfl rfl ?_
        refine pr_ref (j := 40) (S' := (340, [(11, .int (nI (f0 + k))), (0, .ref m0), (1, .int (nI p)), (2, .int (nI (by2 f pM))), (3, .int (nI f0)), (4, .int (nI ib)), (5, .int (nI k)), (6, .int (nI (by2 f p))), (7, .int (nI a)), (9, .int (nI i9)), (10, .int (nI d))], [.ref (q 40)], M446)) rfl hR448 rfl rfl ?_
        refine ps_st (S' := (342, [(11, .int (nI (f0 + k))), (0, .ref m0), (1, .int (nI p)), (2, .int (nI (by2 f pM))), (3, .int (nI f0)), (4, .int (nI ib)), (5, .int (nI k)), (6, .int (nI (by2 f p))), (7, .int (nI a)), (9, .int (nI i9)), (10, .int (nI d))], [.int (nI (f0 + k)), .ref (q 40)], M446)) rfl rfl rfl ?_
        refine ps_st (S' := (343, [(11, .int (nI (f0 + k))), (0, .ref m0), (1, .int (nI p)), (2, .int (nI (by2 f pM))), (3, .int (nI f0)), (4, .int (nI ib)), (5, .int (nI k)), (6, .int (nI (by2 f p))), (7, .int (nI a)), (9, .int (nI i9)), (10, .int (nI d))], [.int 0, .int (nI (f0 + k)), .ref (q 40)], M446)) rfl rfl rfl ?_
        refine pr_st (a := 40) (j := f0 + k) rfl hR448 rfl (by omega) (fun M460 R461 i1_343 hR462 hS463 => ?_)
        have hF_464 := hF_450.mono (fun _ _ => rfl) (rRx hS463 (by decide))
        have hY_465 := hY_451.mono (fun _ _ => rfl) (rRx hS463 (by decide))
        have hP_466 := hP_452.mono (fun _ _ => rfl) (rRx hS463 (by decide))
        have hK_467 := hK_453.mono (fun _ _ => rfl) (rRx hS463 (by decide))
        have c34_468 := c34_454.mono (fun _ _ => rfl) (rRx hS463 (by decide))
        have c35_469 := c35_455.mono (fun _ _ => rfl) (rRx hS463 (by decide))
        have c36_470 := c36_456.mono (fun _ _ => rfl) (rRx hS463 (by decide))
        have hN9_471 := hN9_457.mono (fun _ _ => rfl) (rRx hS463 (by decide))
        have hC_472 := hC_458.mono (fun _ _ => rfl) (rRx hS463 (by decide))
        have hER473 := hER459.st hS463 (by decide)
        show pl _ _ _ (344, [(11, .int (nI (f0 + k))), (0, .ref m0), (1, .int (nI p)), (2, .int (nI (by2 f pM))), (3, .int (nI f0)), (4, .int (nI ib)), (5, .int (nI k)), (6, .int (nI (by2 f p))), (7, .int (nI a)), (9, .int (nI i9)), (10, .int (nI d))], [], M460) _
        refine ps_st (S' := (345, [(11, .int (nI (f0 + k))), (0, .ref m0), (1, .int (nI p)), (2, .int (nI (by2 f pM))), (3, .int (nI f0)), (4, .int (nI ib)), (5, .int (nI k)), (6, .int (nI (by2 f p))), (7, .int (nI a)), (9, .int (nI i9)), (10, .int (nI d))], [.ref m0], M460)) rfl rfl rfl ?_
        refine pr_ref (j := 42) (S' := (348, [(11, .int (nI (f0 + k))), (0, .ref m0), (1, .int (nI p)), (2, .int (nI (by2 f pM))), (3, .int (nI f0)), (4, .int (nI ib)), (5, .int (nI k)), (6, .int (nI (by2 f p))), (7, .int (nI a)), (9, .int (nI i9)), (10, .int (nI d))], [.ref (q 42)], M460)) rfl hR462 rfl rfl ?_
        refine ps_st (S' := (350, [(11, .int (nI (f0 + k))), (0, .ref m0), (1, .int (nI p)), (2, .int (nI (by2 f pM))), (3, .int (nI f0)), (4, .int (nI ib)), (5, .int (nI k)), (6, .int (nI (by2 f p))), (7, .int (nI a)), (9, .int (nI i9)), (10, .int (nI d))], [.int (nI (f0 + k)), .ref (q 42)], M460)) rfl rfl rfl ?_
        refine ps_st (S' := (351, [(11, .int (nI (f0 + k))), (0, .ref m0), (1, .int (nI p)), (2, .int (nI (by2 f pM))), (3, .int (nI f0)), (4, .int (nI ib)), (5, .int (nI k)), (6, .int (nI (by2 f p))), (7, .int (nI a)), (9, .int (nI i9)), (10, .int (nI d))], [.int 0, .int (nI (f0 + k)), .ref (q 42)], M460)) rfl rfl rfl ?_
        refine pr_st (a := 42) (j := f0 + k) rfl hR462 rfl (by omega) (fun M474 R475 i1_351 hR476 hS477 => ?_)
        have hF_478 := hF_464.mono (fun _ _ => rfl) (rRx hS477 (by decide))
        have hY_479 := hY_465.mono (fun _ _ => rfl) (rRx hS477 (by decide))
        have hP_480 := hP_466.mono (fun _ _ => rfl) (rRx hS477 (by decide))
        have hK_481 := hK_467.mono (fun _ _ => rfl) (rRx hS477 (by decide))
        have c34_482 := c34_468.mono (fun _ _ => rfl) (rRx hS477 (by decide))
        have c35_483 := c35_469.mono (fun _ _ => rfl) (rRx hS477 (by decide))
        have c36_484 := c36_470.mono (fun _ _ => rfl) (rRx hS477 (by decide))
        have hN9_485 := hN9_471.mono (fun _ _ => rfl) (rRx hS477 (by decide))
        have hC_486 := hC_472.mono (fun _ _ => rfl) (rRx hS477 (by decide))
        have hER487 := hER473.st hS477 (by decide)
        show pl _ _ _ (352, [(11, .int (nI (f0 + k))), (0, .ref m0), (1, .int (nI p)), (2, .int (nI (by2 f pM))), (3, .int (nI f0)), (4, .int (nI ib)), (5, .int (nI k)), (6, .int (nI (by2 f p))), (7, .int (nI a)), (9, .int (nI i9)), (10, .int (nI d))], [], M474) _
        refine ps_st (S' := (353, [(11, .int (nI (f0 + k))), (0, .ref m0), (1, .int (nI p)), (2, .int (nI (by2 f pM))), (3, .int (nI f0)), (4, .int (nI ib)), (5, .int (nI k)), (6, .int (nI (by2 f p))), (7, .int (nI a)), (9, .int (nI i9)), (10, .int (nI d))], [.ref m0], M474)) rfl rfl rfl ?_
        refine pr_ref (j := 43) (S' := (356, [(11, .int (nI (f0 + k))), (0, .ref m0), (1, .int (nI p)), (2, .int (nI (by2 f pM))), (3, .int (nI f0)), (4, .int (nI ib)), (5, .int (nI k)), (6, .int (nI (by2 f p))), (7, .int (nI a)), (9, .int (nI i9)), (10, .int (nI d))], [.ref (q 43)], M474)) rfl hR476 rfl rfl ?_
        refine ps_st (S' := (358, [(11, .int (nI (f0 + k))), (0, .ref m0), (1, .int (nI p)), (2, .int (nI (by2 f pM))), (3, .int (nI f0)), (4, .int (nI ib)), (5, .int (nI k)), (6, .int (nI (by2 f p))), (7, .int (nI a)), (9, .int (nI i9)), (10, .int (nI d))], [.int (nI (f0 + k)), .ref (q 43)], M474)) rfl rfl rfl ?_
        refine ps_st (S' := (359, [(11, .int (nI (f0 + k))), (0, .ref m0), (1, .int (nI p)), (2, .int (nI (by2 f pM))), (3, .int (nI f0)), (4, .int (nI ib)), (5, .int (nI k)), (6, .int (nI (by2 f p))), (7, .int (nI a)), (9, .int (nI i9)), (10, .int (nI d))], [.int 0, .int (nI (f0 + k)), .ref (q 43)], M474)) rfl rfl rfl ?_
        refine pr_st (a := 43) (j := f0 + k) rfl hR476 rfl (by omega) (fun M488 R489 i1_359 hR490 hS491 => ?_)
        have hF_492 := hF_478.mono (fun _ _ => rfl) (rRx hS491 (by decide))
        have hY_493 := hY_479.mono (fun _ _ => rfl) (rRx hS491 (by decide))
        have hP_494 := hP_480.mono (fun _ _ => rfl) (rRx hS491 (by decide))
        have hK_495 := hK_481.mono (fun _ _ => rfl) (rRx hS491 (by decide))
        have c34_496 := c34_482.mono (fun _ _ => rfl) (rRx hS491 (by decide))
        have c35_497 := c35_483.mono (fun _ _ => rfl) (rRx hS491 (by decide))
        have c36_498 := c36_484.mono (fun _ _ => rfl) (rRx hS491 (by decide))
        have hN9_499 := hN9_485.mono (fun _ _ => rfl) (rRx hS491 (by decide))
        have hC_500 := hC_486.mono (fun _ _ => rfl) (rRx hS491 (by decide))
        have hER501 := hER487.st hS491 (by decide)
        show pl _ _ _ (360, [(11, .int (nI (f0 + k))), (0, .ref m0), (1, .int (nI p)), (2, .int (nI (by2 f pM))), (3, .int (nI f0)), (4, .int (nI ib)), (5, .int (nI k)), (6, .int (nI (by2 f p))), (7, .int (nI a)), (9, .int (nI i9)), (10, .int (nI d))], [], M488) _
        refine ps_st (S' := (361, [(11, .int (nI (f0 + k))), (0, .ref m0), (1, .int (nI p)), (2, .int (nI (by2 f pM))), (3, .int (nI f0)), (4, .int (nI ib)), (5, .int (nI k)), (6, .int (nI (by2 f p))), (7, .int (nI a)), (9, .int (nI i9)), (10, .int (nI d))], [.ref m0], M488)) rfl rfl rfl ?_
        refine pr_ref (j := 44) (S' := (364, [(11, .int (nI (f0 + k))), (0, .ref m0), (1, .int (nI p)), (2, .int (nI (by2 f pM))), (3, .int (nI f0)), (4, .int (nI ib)), (5, .int (nI k)), (6, .int (nI (by2 f p))), (7, .int (nI a)), (9, .int (nI i9)), (10, .int (nI d))], [.ref (q 44)], M488)) rfl hR490 rfl rfl ?_
        refine ps_st (S' := (366, [(11, .int (nI (f0 + k))), (0, .ref m0), (1, .int (nI p)), (2, .int (nI (by2 f pM))), (3, .int (nI f0)), (4, .int (nI ib)), (5, .int (nI k)), (6, .int (nI (by2 f p))), (7, .int (nI a)), (9, .int (nI i9)), (10, .int (nI d))], [.int (nI (f0 + k)), .ref (q 44)], M488)) rfl rfl rfl ?_
        refine ps_st (S' := (367, [(11, .int (nI (f0 + k))), (0, .ref m0), (1, .int (nI p)), (2, .int (nI (by2 f pM))), (3, .int (nI f0)), (4, .int (nI ib)), (5, .int (nI k)), (6, .int (nI (by2 f p))), (7, .int (nI a)), (9, .int (nI i9)), (10, .int (nI d))], [.int 0, .int (nI (f0 + k)), .ref (q 44)], M488)) rfl rfl rfl ?_
        refine pr_st (a := 44) (j := f0 + k) rfl hR490 rfl (by omega) (fun M502 R503 i1_367 hR504 hS505 => ?_)
        have hF_506 := hF_492.mono (fun _ _ => rfl) (rRx hS505 (by decide))
        have hY_507 := hY_493.mono (fun _ _ => rfl) (rRx hS505 (by decide))
        have hP_508 := hP_494.mono (fun _ _ => rfl) (rRx hS505 (by decide))
        have hK_509 := hK_495.mono (fun _ _ => rfl) (rRx hS505 (by decide))
        have c34_510 := c34_496.mono (fun _ _ => rfl) (rRx hS505 (by decide))
        have c35_511 := c35_497.mono (fun _ _ => rfl) (rRx hS505 (by decide))
        have c36_512 := c36_498.mono (fun _ _ => rfl) (rRx hS505 (by decide))
        have hN9_513 := hN9_499.mono (fun _ _ => rfl) (rRx hS505 (by decide))
        have hC_514 := hC_500.mono (fun _ _ => rfl) (rRx hS505 (by decide))
        have hER515 := hER501.st hS505 (by decide)
        show pl _ _ _ (368, [(11, .int (nI (f0 + k))), (0, .ref m0), (1, .int (nI p)), (2, .int (nI (by2 f pM))), (3, .int (nI f0)), (4, .int (nI ib)), (5, .int (nI k)), (6, .int (nI (by2 f p))), (7, .int (nI a)), (9, .int (nI i9)), (10, .int (nI d))], [], M502) _
        refine ps_st (S' := (369, [(11, .int (nI (f0 + k))), (0, .ref m0), (1, .int (nI p)), (2, .int (nI (by2 f pM))), (3, .int (nI f0)), (4, .int (nI ib)), (5, .int (nI k)), (6, .int (nI (by2 f p))), (7, .int (nI a)), (9, .int (nI i9)), (10, .int (nI d))], [.ref m0], M502)) rfl rfl rfl ?_
        refine pr_ref (j := 45) (S' := (372, [(11, .int (nI (f0 + k))), (0, .ref m0), (1, .int (nI p)), (2, .int (nI (by2 f pM))), (3, .int (nI f0)), (4, .int (nI ib)), (5, .int (nI k)), (6, .int (nI (by2 f p))), (7, .int (nI a)), (9, .int (nI i9)), (10, .int (nI d))], [.ref (q 45)], M502)) rfl hR504 rfl rfl ?_
        refine ps_st (S' := (374, [(11, .int (nI (f0 + k))), (0, .ref m0), (1, .int (nI p)), (2, .int (nI (by2 f pM))), (3, .int (nI f0)), (4, .int (nI ib)), (5, .int (nI k)), (6, .int (nI (by2 f p))), (7, .int (nI a)), (9, .int (nI i9)), (10, .int (nI d))], [.int (nI (f0 + k)), .ref (q 45)], M502)) rfl rfl rfl ?_
        refine ps_st (S' := (375, [(11, .int (nI (f0 + k))), (0, .ref m0), (1, .int (nI p)), (2, .int (nI (by2 f pM))), (3, .int (nI f0)), (4, .int (nI ib)), (5, .int (nI k)), (6, .int (nI (by2 f p))), (7, .int (nI a)), (9, .int (nI i9)), (10, .int (nI d))], [.ref m0, .int (nI (f0 + k)), .ref (q 45)], M502)) rfl rfl rfl ?_
        refine ps_st (S' := (376, [(11, .int (nI (f0 + k))), (0, .ref m0), (1, .int (nI p)), (2, .int (nI (by2 f pM))), (3, .int (nI f0)), (4, .int (nI ib)), (5, .int (nI k)), (6, .int (nI (by2 f p))), (7, .int (nI a)), (9, .int (nI i9)), (10, .int (nI d))], [.int (nI p), .ref m0, .int (nI (f0 + k)), .ref (q 45)], M502)) rfl rfl rfl ?_
        refine ps_st (S' := (377, [(11, .int (nI (f0 + k))), (0, .ref m0), (1, .int (nI p)), (2, .int (nI (by2 f pM))), (3, .int (nI f0)), (4, .int (nI ib)), (5, .int (nI k)), (6, .int (nI (by2 f p))), (7, .int (nI a)), (9, .int (nI i9)), (10, .int (nI d))], [.int 2, .int (nI p), .ref m0, .int (nI (f0 + k)), .ref (q 45)], M502)) rfl rfl rfl ?_
        refine ps_st (S' := (378, [(11, .int (nI (f0 + k))), (0, .ref m0), (1, .int (nI p)), (2, .int (nI (by2 f pM))), (3, .int (nI f0)), (4, .int (nI ib)), (5, .int (nI k)), (6, .int (nI (by2 f p))), (7, .int (nI a)), (9, .int (nI i9)), (10, .int (nI d))], [.int ((nI p) + 2), .ref m0, .int (nI (f0 + k)), .ref (q 45)], M502)) rfl rfl rfl ?_
        rw [nI_add1 (p := p) (k := 2) (x := 2) rfl (by omega)]
        show pl _ _ _ (_, [(11, .int (nI (f0 + k))), (0, .ref m0), (1, .int (nI p)), (2, .int (nI (by2 f pM))), (3, .int (nI f0)), (4, .int (nI ib)), (5, .int (nI k)), (6, .int (nI (by2 f p))), (7, .int (nI a)), (9, .int (nI i9)), (10, .int (nI d))], [.int (nI (p + 2)), .ref m0, .int (nI (f0 + k)), .ref (q 45)], M502) _
        refine pl_call (a := [.ref m0, .int (nI (p + 2))]) (rest := [.int (nI (f0 + k)), .ref (q 45)]) rfl rfl rfl (rd_u2 (n := n) (f := f) (p := (p + 2)) hR504 hF_506 (by omega)) (fun v516 M517 q518 => ?_)
        obtain ⟨rfl, rfl⟩ := q518
        show pl _ _ _ (381, [(11, .int (nI (f0 + k))), (0, .ref m0), (1, .int (nI p)), (2, .int (nI (by2 f pM))), (3, .int (nI f0)), (4, .int (nI ib)), (5, .int (nI k)), (6, .int (nI (by2 f p))), (7, .int (nI a)), (9, .int (nI i9)), (10, .int (nI d))], [.int (nI (by2 f (p + 2))), .int (nI (f0 + k)), .ref (q 45)], M502) _
        have hu_378 := by2_lt f (p + 2)
        refine pr_st (a := 45) (j := f0 + k) rfl hR504 rfl (by omega) (fun M519 R520 i1_381 hR521 hS522 => ?_)
        have hF_523 := hF_506.mono (fun _ _ => rfl) (rRx hS522 (by decide))
        have hY_524 := hY_507.mono (fun _ _ => rfl) (rRx hS522 (by decide))
        have hP_525 := hP_508.mono (fun _ _ => rfl) (rRx hS522 (by decide))
        have hK_526 := hK_509.mono (fun _ _ => rfl) (rRx hS522 (by decide))
        have c34_527 := c34_510.mono (fun _ _ => rfl) (rRx hS522 (by decide))
        have c35_528 := c35_511.mono (fun _ _ => rfl) (rRx hS522 (by decide))
        have c36_529 := c36_512.mono (fun _ _ => rfl) (rRx hS522 (by decide))
        have hN9_530 := hN9_513.mono (fun _ _ => rfl) (rRx hS522 (by decide))
        have hC_531 := hC_514.mono (fun _ _ => rfl) (rRx hS522 (by decide))
        have hER532 := hER515.st hS522 (by decide)
        show pl _ _ _ (382, [(11, .int (nI (f0 + k))), (0, .ref m0), (1, .int (nI p)), (2, .int (nI (by2 f pM))), (3, .int (nI f0)), (4, .int (nI ib)), (5, .int (nI k)), (6, .int (nI (by2 f p))), (7, .int (nI a)), (9, .int (nI i9)), (10, .int (nI d))], [], M519) _
        refine ps_st (S' := (383, [(11, .int (nI (f0 + k))), (0, .ref m0), (1, .int (nI p)), (2, .int (nI (by2 f pM))), (3, .int (nI f0)), (4, .int (nI ib)), (5, .int (nI k)), (6, .int (nI (by2 f p))), (7, .int (nI a)), (9, .int (nI i9)), (10, .int (nI d))], [.ref m0], M519)) rfl rfl rfl ?_
        refine pr_ref (j := 46) (S' := (386, [(11, .int (nI (f0 + k))), (0, .ref m0), (1, .int (nI p)), (2, .int (nI (by2 f pM))), (3, .int (nI f0)), (4, .int (nI ib)), (5, .int (nI k)), (6, .int (nI (by2 f p))), (7, .int (nI a)), (9, .int (nI i9)), (10, .int (nI d))], [.ref (q 46)], M519)) rfl hR521 rfl rfl ?_
        refine ps_st (S' := (388, [(11, .int (nI (f0 + k))), (0, .ref m0), (1, .int (nI p)), (2, .int (nI (by2 f pM))), (3, .int (nI f0)), (4, .int (nI ib)), (5, .int (nI k)), (6, .int (nI (by2 f p))), (7, .int (nI a)), (9, .int (nI i9)), (10, .int (nI d))], [.int (nI (f0 + k)), .ref (q 46)], M519)) rfl rfl rfl ?_
        refine ps_st (S' := (389, [(11, .int (nI (f0 + k))), (0, .ref m0), (1, .int (nI p)), (2, .int (nI (by2 f pM))), (3, .int (nI f0)), (4, .int (nI ib)), (5, .int (nI k)), (6, .int (nI (by2 f p))), (7, .int (nI a)), (9, .int (nI i9)), (10, .int (nI d))], [.ref m0, .int (nI (f0 + k)), .ref (q 46)], M519)) rfl rfl rfl ?_
        refine ps_st (S' := (390, [(11, .int (nI (f0 + k))), (0, .ref m0), (1, .int (nI p)), (2, .int (nI (by2 f pM))), (3, .int (nI f0)), (4, .int (nI ib)), (5, .int (nI k)), (6, .int (nI (by2 f p))), (7, .int (nI a)), (9, .int (nI i9)), (10, .int (nI d))], [.int (nI p), .ref m0, .int (nI (f0 + k)), .ref (q 46)], M519)) rfl rfl rfl ?_
        refine ps_st (S' := (391, [(11, .int (nI (f0 + k))), (0, .ref m0), (1, .int (nI p)), (2, .int (nI (by2 f pM))), (3, .int (nI f0)), (4, .int (nI ib)), (5, .int (nI k)), (6, .int (nI (by2 f p))), (7, .int (nI a)), (9, .int (nI i9)), (10, .int (nI d))], [.int 4, .int (nI p), .ref m0, .int (nI (f0 + k)), .ref (q 46)], M519)) rfl rfl rfl ?_
        refine ps_st (S' := (392, [(11, .int (nI (f0 + k))), (0, .ref m0), (1, .int (nI p)), (2, .int (nI (by2 f pM))), (3, .int (nI f0)), (4, .int (nI ib)), (5, .int (nI k)), (6, .int (nI (by2 f p))), (7, .int (nI a)), (9, .int (nI i9)), (10, .int (nI d))], [.int ((nI p) + 4), .ref m0, .int (nI (f0 + k)), .ref (q 46)], M519)) rfl rfl rfl ?_
        rw [nI_add1 (p := p) (k := 4) (x := 4) rfl (by omega)]
        show pl _ _ _ (_, [(11, .int (nI (f0 + k))), (0, .ref m0), (1, .int (nI p)), (2, .int (nI (by2 f pM))), (3, .int (nI f0)), (4, .int (nI ib)), (5, .int (nI k)), (6, .int (nI (by2 f p))), (7, .int (nI a)), (9, .int (nI i9)), (10, .int (nI d))], [.int (nI (p + 4)), .ref m0, .int (nI (f0 + k)), .ref (q 46)], M519) _
        refine pl_call (a := [.ref m0, .int (nI (p + 4))]) (rest := [.int (nI (f0 + k)), .ref (q 46)]) rfl rfl rfl (rd_u2 (n := n) (f := f) (p := (p + 4)) hR521 hF_523 (by omega)) (fun v533 M534 q535 => ?_)
        obtain ⟨rfl, rfl⟩ := q535
        show pl _ _ _ (395, [(11, .int (nI (f0 + k))), (0, .ref m0), (1, .int (nI p)), (2, .int (nI (by2 f pM))), (3, .int (nI f0)), (4, .int (nI ib)), (5, .int (nI k)), (6, .int (nI (by2 f p))), (7, .int (nI a)), (9, .int (nI i9)), (10, .int (nI d))], [.int (nI (by2 f (p + 4))), .int (nI (f0 + k)), .ref (q 46)], M519) _
        have hu_392 := by2_lt f (p + 4)
        refine pr_st (a := 46) (j := f0 + k) rfl hR521 rfl (by omega) (fun M536 R537 i1_395 hR538 hS539 => ?_)
        have hF_540 := hF_523.mono (fun _ _ => rfl) (rRx hS539 (by decide))
        have hY_541 := hY_524.mono (fun _ _ => rfl) (rRx hS539 (by decide))
        have hP_542 := hP_525.mono (fun _ _ => rfl) (rRx hS539 (by decide))
        have hK_543 := hK_526.mono (fun _ _ => rfl) (rRx hS539 (by decide))
        have c34_544 := c34_527.mono (fun _ _ => rfl) (rRx hS539 (by decide))
        have c35_545 := c35_528.mono (fun _ _ => rfl) (rRx hS539 (by decide))
        have c36_546 := c36_529.mono (fun _ _ => rfl) (rRx hS539 (by decide))
        have hN9_547 := hN9_530.mono (fun _ _ => rfl) (rRx hS539 (by decide))
        have hC_548 := hC_531.mono (fun _ _ => rfl) (rRx hS539 (by decide))
        have hER549 := hER532.st hS539 (by decide)
        show pl _ _ _ (396, [(11, .int (nI (f0 + k))), (0, .ref m0), (1, .int (nI p)), (2, .int (nI (by2 f pM))), (3, .int (nI f0)), (4, .int (nI ib)), (5, .int (nI k)), (6, .int (nI (by2 f p))), (7, .int (nI a)), (9, .int (nI i9)), (10, .int (nI d))], [], M536) _
        refine ps_st (S' := (397, [(11, .int (nI (f0 + k))), (0, .ref m0), (1, .int (nI p)), (2, .int (nI (by2 f pM))), (3, .int (nI f0)), (4, .int (nI ib)), (5, .int (nI k)), (6, .int (nI (by2 f p))), (7, .int (nI a)), (9, .int (nI i9)), (10, .int (nI d))], [.int (nI f0)], M536)) rfl rfl rfl ?_
        refine ps_st (S' := (399, [(0, .ref m0), (1, .int (nI p)), (2, .int (nI (by2 f pM))), (3, .int (nI f0)), (4, .int (nI ib)), (5, .int (nI k)), (6, .int (nI (by2 f p))), (7, .int (nI a)), (9, .int (nI i9)), (10, .int (nI d)), (11, .int (nI (f0 + k))), (12, .int (nI f0))], [], M536)) rfl rfl rfl ?_
        exact ih.2.2.2 (k) (p) (ib) (a) (i9) (d) (0) M536 I1 R537 hR538 hEI1 hER549 hl51 hl52 hl53 hl58 hl56 hl26 hl9 hl10 hF_540 hY_541 hP_542 hK_543 hN9_547 c34_544 c35_545 c36_546 hC_548 (hk0) (hpk) (hpe) (hs) (hib) (hsa) (ht1) (hnm) (hfl) (h9c) (hsd) (ht2) (hmt) (hds) (by omega) (by omega) (rfl)
      · skip
        intro k p ib a i9 d j M1 I1 R1 hR1 hEI1 hER1 hl51 hl52 hl53 hl58 hl56 hl26 hl9 hl10 hF1 hY1 hP1 hK1 hN91 c341 c351 c361 hC1 hk0 hpk hpe hs hib hsa ht1 hnm hfl h9c hsd ht2 hmt hds hj hx hd9
        have hn := hF1.1
        have hu9 := by2_lt f pM
        have htl := hY1.1.2.2.1
        have hBl := hMB.1
        have hi7 := hsi.1
        have hc7 := hsc.1
        have hu8 := by2_lt f p
        have hsa1 := hsa.1
        have hsd1 := hsd.1
        refine ps_st1 (S' := (401, [(0, .ref m0), (1, .int (nI p)), (2, .int (nI (by2 f pM))), (3, .int (nI f0)), (4, .int (nI ib)), (5, .int (nI k)), (6, .int (nI (by2 f p))), (7, .int (nI a)), (9, .int (nI i9)), (10, .int (nI d)), (11, .int (nI (f0 + k))), (12, .int (nI (f0 + j)))], [.int (nI (f0 + j))], M1)) rfl rfl rfl ?_
        refine ps_st (S' := (403, [(0, .ref m0), (1, .int (nI p)), (2, .int (nI (by2 f pM))), (3, .int (nI f0)), (4, .int (nI ib)), (5, .int (nI k)), (6, .int (nI (by2 f p))), (7, .int (nI a)), (9, .int (nI i9)), (10, .int (nI d)), (11, .int (nI (f0 + k))), (12, .int (nI (f0 + j)))], [.int (nI (f0 + k)), .int (nI (f0 + j))], M1)) rfl rfl rfl ?_
        refine ps_if2 (S1 := (444, [(0, .ref m0), (1, .int (nI p)), (2, .int (nI (by2 f pM))), (3, .int (nI f0)), (4, .int (nI ib)), (5, .int (nI k)), (6, .int (nI (by2 f p))), (7, .int (nI a)), (9, .int (nI i9)), (10, .int (nI d)), (11, .int (nI (f0 + k))), (12, .int (nI (f0 + j)))], [], M1)) (S2 := (406, [(0, .ref m0), (1, .int (nI p)), (2, .int (nI (by2 f pM))), (3, .int (nI f0)), (4, .int (nI ib)), (5, .int (nI k)), (6, .int (nI (by2 f p))), (7, .int (nI a)), (9, .int (nI i9)), (10, .int (nI d)), (11, .int (nI (f0 + k))), (12, .int (nI (f0 + j)))], [], M1)) rfl rfl rfl (fun c_403 => ?_) (fun c_403 => ?_)
        · have c_403 : (nI (f0 + k)) ≤ (nI (f0 + j)) := of_decide_eq_true c_403
          have n_403 : f0 + k ≤ f0 + j := (le_nI (p := f0 + k) (n := f0 + j) (by omega) (by omega)).mp c_403
          refine ps_st (S' := (445, [(0, .ref m0), (1, .int (nI p)), (2, .int (nI (by2 f pM))), (3, .int (nI f0)), (4, .int (nI ib)), (5, .int (nI k)), (6, .int (nI (by2 f p))), (7, .int (nI a)), (9, .int (nI i9)), (10, .int (nI d)), (11, .int (nI (f0 + k))), (12, .int (nI (f0 + j)))], [.ref m0], M1)) rfl rfl rfl ?_
          refine ps_st (S' := (446, [(0, .ref m0), (1, .int (nI p)), (2, .int (nI (by2 f pM))), (3, .int (nI f0)), (4, .int (nI ib)), (5, .int (nI k)), (6, .int (nI (by2 f p))), (7, .int (nI a)), (9, .int (nI i9)), (10, .int (nI d)), (11, .int (nI (f0 + k))), (12, .int (nI (f0 + j)))], [.ref m0, .ref m0], M1)) rfl rfl rfl ?_
          refine pr_int (j := 26) (S' := (449, [(0, .ref m0), (1, .int (nI p)), (2, .int (nI (by2 f pM))), (3, .int (nI f0)), (4, .int (nI ib)), (5, .int (nI k)), (6, .int (nI (by2 f p))), (7, .int (nI a)), (9, .int (nI i9)), (10, .int (nI d)), (11, .int (nI (f0 + k))), (12, .int (nI (f0 + j)))], [.int (nI (f0 + k)), .ref m0], M1)) rfl hR1 rfl hl26 rfl ?_
          refine ps_st (S' := (450, [(0, .ref m0), (1, .int (nI p)), (2, .int (nI (by2 f pM))), (3, .int (nI f0)), (4, .int (nI ib)), (5, .int (nI k)), (6, .int (nI (by2 f p))), (7, .int (nI a)), (9, .int (nI i9)), (10, .int (nI d)), (11, .int (nI (f0 + k))), (12, .int (nI (f0 + j)))], [.int 1, .int (nI (f0 + k)), .ref m0], M1)) rfl rfl rfl ?_
          refine ps_st (S' := (451, [(0, .ref m0), (1, .int (nI p)), (2, .int (nI (by2 f pM))), (3, .int (nI f0)), (4, .int (nI ib)), (5, .int (nI k)), (6, .int (nI (by2 f p))), (7, .int (nI a)), (9, .int (nI i9)), (10, .int (nI d)), (11, .int (nI (f0 + k))), (12, .int (nI (f0 + j)))], [.int ((nI (f0 + k)) + 1), .ref m0], M1)) rfl rfl rfl ?_
          rw [nI_add1 (p := f0 + k) (k := 1) (x := 1) rfl (by omega)]
          show pl _ _ _ (_, [(0, .ref m0), (1, .int (nI p)), (2, .int (nI (by2 f pM))), (3, .int (nI f0)), (4, .int (nI ib)), (5, .int (nI k)), (6, .int (nI (by2 f p))), (7, .int (nI a)), (9, .int (nI i9)), (10, .int (nI d)), (11, .int (nI (f0 + k))), (12, .int (nI (f0 + j)))], [.int (nI (f0 + k + 1)), .ref m0], M1) _
          refine pr_put (j := 26) rfl hR1 rfl (fun M550 I551 hR552 hi553 hI554 => ?_)
          have hi555 := (hI554 51 (by decide)).trans hl51
          have hi556 := (hI554 52 (by decide)).trans hl52
          have hi557 := (hI554 53 (by decide)).trans hl53
          have hi558 := (hI554 58 (by decide)).trans hl58
          have hi559 := (hI554 56 (by decide)).trans hl56
          have hi560 := (hI554 9 (by decide)).trans hl9
          have hi561 := (hI554 10 (by decide)).trans hl10
          have hF_562 := hF1.mono (pIx hI554 (by decide)) (fun _ _ => rfl)
          have hY_563 := hY1.mono (pIx hI554 (by decide)) (fun _ _ => rfl)
          have hP_564 := hP1.mono (pIx hI554 (by decide)) (fun _ _ => rfl)
          have hK_565 := hK1.mono (pIx hI554 (by decide)) (fun _ _ => rfl)
          have hN9_566 := hN91.mono (pIx hI554 (by decide)) (fun _ _ => rfl)
          have c34_567 := c341.mono (pIx hI554 (by decide)) (fun _ _ => rfl)
          have c35_568 := c351.mono (pIx hI554 (by decide)) (fun _ _ => rfl)
          have c36_569 := c361.mono (pIx hI554 (by decide)) (fun _ _ => rfl)
          have hC_570 := hC1.mono (pIx hI554 (by decide)) (fun _ _ => rfl)
          have hEI571 := hEI1.put hI554 (by decide)
          show pl _ _ _ (454, [(0, .ref m0), (1, .int (nI p)), (2, .int (nI (by2 f pM))), (3, .int (nI f0)), (4, .int (nI ib)), (5, .int (nI k)), (6, .int (nI (by2 f p))), (7, .int (nI a)), (9, .int (nI i9)), (10, .int (nI d)), (11, .int (nI (f0 + k))), (12, .int (nI (f0 + j)))], [], M550) _
          refine ps_st (S' := (455, [(0, .ref m0), (1, .int (nI p)), (2, .int (nI (by2 f pM))), (3, .int (nI f0)), (4, .int (nI ib)), (5, .int (nI k)), (6, .int (nI (by2 f p))), (7, .int (nI a)), (9, .int (nI i9)), (10, .int (nI d)), (11, .int (nI (f0 + k))), (12, .int (nI (f0 + j)))], [.ref m0], M550)) rfl rfl rfl ?_
          refine ps_st (S' := (456, [(0, .ref m0), (1, .int (nI p)), (2, .int (nI (by2 f pM))), (3, .int (nI f0)), (4, .int (nI ib)), (5, .int (nI k)), (6, .int (nI (by2 f p))), (7, .int (nI a)), (9, .int (nI i9)), (10, .int (nI d)), (11, .int (nI (f0 + k))), (12, .int (nI (f0 + j)))], [.int (nI p), .ref m0], M550)) rfl rfl rfl ?_
          refine ps_st (S' := (458, [(0, .ref m0), (1, .int (nI p)), (2, .int (nI (by2 f pM))), (3, .int (nI f0)), (4, .int (nI ib)), (5, .int (nI k)), (6, .int (nI (by2 f p))), (7, .int (nI a)), (9, .int (nI i9)), (10, .int (nI d)), (11, .int (nI (f0 + k))), (12, .int (nI (f0 + j)))], [.int 6, .int (nI p), .ref m0], M550)) rfl rfl rfl ?_
          refine ps_st (S' := (459, [(0, .ref m0), (1, .int (nI p)), (2, .int (nI (by2 f pM))), (3, .int (nI f0)), (4, .int (nI ib)), (5, .int (nI k)), (6, .int (nI (by2 f p))), (7, .int (nI a)), (9, .int (nI i9)), (10, .int (nI d)), (11, .int (nI (f0 + k))), (12, .int (nI (f0 + j)))], [.int ((nI p) + 6), .ref m0], M550)) rfl rfl rfl ?_
          rw [nI_add1 (p := p) (k := 6) (x := 6) rfl (by omega)]
          show pl _ _ _ (_, [(0, .ref m0), (1, .int (nI p)), (2, .int (nI (by2 f pM))), (3, .int (nI f0)), (4, .int (nI ib)), (5, .int (nI k)), (6, .int (nI (by2 f p))), (7, .int (nI a)), (9, .int (nI i9)), (10, .int (nI d)), (11, .int (nI (f0 + k))), (12, .int (nI (f0 + j)))], [.int (nI (p + 6)), .ref m0], M550) _
          refine ps_st (S' := (460, [(0, .ref m0), (1, .int (nI p)), (2, .int (nI (by2 f pM))), (3, .int (nI f0)), (4, .int (nI ib)), (5, .int (nI k)), (6, .int (nI (by2 f p))), (7, .int (nI a)), (9, .int (nI i9)), (10, .int (nI d)), (11, .int (nI (f0 + k))), (12, .int (nI (f0 + j)))], [.int 2, .int (nI (p + 6)), .ref m0], M550)) rfl rfl rfl ?_
          refine ps_st (S' := (462, [(0, .ref m0), (1, .int (nI p)), (2, .int (nI (by2 f pM))), (3, .int (nI f0)), (4, .int (nI ib)), (5, .int (nI k)), (6, .int (nI (by2 f p))), (7, .int (nI a)), (9, .int (nI i9)), (10, .int (nI d)), (11, .int (nI (f0 + k))), (12, .int (nI (f0 + j)))], [.int (nI (f0 + k)), .int 2, .int (nI (p + 6)), .ref m0], M550)) rfl rfl rfl ?_
          have hm9 := hMB.2.2.2 k (by omega)
          rw [← hpk] at hm9
          have hX9 : MX (by2 f p) d (f0 + k) I551 R1 := ⟨c34_567, c36_569⟩
          have hwa : apN f n E p = argN (tX f n E (by2 f (p + 4))) + (if aN (by2 f p) 8 = 0 then 1 else 0) := by
            have a0_ := ap_9 (f := f) (n := n) (E := E) (p := p)
            split <;> omega
          refine pl_call (a := [.ref m0, .int (nI (p + 6)), .int 2, .int (nI (f0 + k))]) (rest := []) rfl rfl rfl (rd_checkAttributes2 (n := n) (f := f) (tx := tx) (cN := cN) (A := A) (N := N) (mj := mj) (E := E) (p1 := (p + 6)) (e := (E1 k)) (x := (f0 + k)) (fl := (by2 f p)) (ds := d) (wa := (apN f n E p)) (l := (tX f n E (by2 f (p + 4)))) hR552 hi555 hi556 hi557 hF_562 hY_563 hP_564 hK_565 hX9 hC_570 (hEP) (hN) (hmj) (⟨by omega, by omega⟩) (hm9.2.2.1) (hx) (hsd) (hmt) (hu8) (hwa)) (fun v572 M573 q574 => ?_)
          rcases q574 with q574 | q574
          · skip
            obtain ⟨e9575, I576, R577, q462_s, rfl, hR578, hI579, hX580, hi581, hi582⟩ := q574
            have hi583 := (hI579 51 (by decide)).trans hi555
            have hi584 := (hI579 52 (by decide)).trans hi556
            have hi585 := (hI579 53 (by decide)).trans hi557
            have hi586 := (hI579 58 (by decide)).trans hi558
            have hi587 := (hI579 56 (by decide)).trans hi559
            have hi588 := (hI579 9 (by decide)).trans hi560
            have hi589 := (hI579 10 (by decide)).trans hi561
            have hi590 := (hI579 26 (by decide)).trans hi553
            have hF_591 := hF_562.mono (cIx hI579 (by decide)) (cRx hX580 (by decide))
            have hY_592 := hY_563.mono (cIx hI579 (by decide)) (cRx hX580 (by decide))
            have hP_593 := hP_564.mono (cIx hI579 (by decide)) (cRx hX580 (by decide))
            have hK_594 := hK_565.mono (cIx hI579 (by decide)) (cRx hX580 (by decide))
            have hN9_595 := hN9_566.mono (cIx hI579 (by decide)) (cRx hX580 (by decide))
            have c34_596 := c34_567.mono (cIx hI579 (by decide)) (cRx hX580 (by decide))
            have c35_597 := c35_568.mono (cIx hI579 (by decide)) (cRx hX580 (by decide))
            have c36_598 := c36_569.mono (cIx hI579 (by decide)) (cRx hX580 (by decide))
            have hX_599 := hX9.mono (cIx hI579 (by decide)) (cRx hX580 (by decide))
            have hEI600 := hEI571.tr hI579 (by decide)
            have hER601 := hER1.tr hX580 (by decide)
            show pl _ _ _ (465, [(0, .ref m0), (1, .int (nI p)), (2, .int (nI (by2 f pM))), (3, .int (nI f0)), (4, .int (nI ib)), (5, .int (nI k)), (6, .int (nI (by2 f p))), (7, .int (nI a)), (9, .int (nI i9)), (10, .int (nI d)), (11, .int (nI (f0 + k))), (12, .int (nI (f0 + j)))], [.int (-1)], M573) _
            refine ps_st (S' := (467, [(12, .int (-1)), (0, .ref m0), (1, .int (nI p)), (2, .int (nI (by2 f pM))), (3, .int (nI f0)), (4, .int (nI ib)), (5, .int (nI k)), (6, .int (nI (by2 f p))), (7, .int (nI a)), (9, .int (nI i9)), (10, .int (nI d)), (11, .int (nI (f0 + k)))], [], M573)) rfl rfl rfl ?_
            refine ps_st (S' := (469, [(12, .int (-1)), (0, .ref m0), (1, .int (nI p)), (2, .int (nI (by2 f pM))), (3, .int (nI f0)), (4, .int (nI ib)), (5, .int (nI k)), (6, .int (nI (by2 f p))), (7, .int (nI a)), (9, .int (nI i9)), (10, .int (nI d)), (11, .int (nI (f0 + k)))], [.int (-1)], M573)) rfl rfl rfl ?_
            refine ps_if (S1 := (474, [(12, .int (-1)), (0, .ref m0), (1, .int (nI p)), (2, .int (nI (by2 f pM))), (3, .int (nI f0)), (4, .int (nI ib)), (5, .int (nI k)), (6, .int (nI (by2 f p))), (7, .int (nI a)), (9, .int (nI i9)), (10, .int (nI d)), (11, .int (nI (f0 + k)))], [], M573)) (S2 := (472, [(12, .int (-1)), (0, .ref m0), (1, .int (nI p)), (2, .int (nI (by2 f pM))), (3, .int (nI f0)), (4, .int (nI ib)), (5, .int (nI k)), (6, .int (nI (by2 f p))), (7, .int (nI a)), (9, .int (nI i9)), (10, .int (nI d)), (11, .int (nI (f0 + k)))], [], M573)) rfl rfl rfl (fun c_469 => ?_) (fun c_469 => ?_)
            · exact absurd (of_decide_eq_true c_469) (by decide)
            refine ps_st (S' := (473, [(12, .int (-1)), (0, .ref m0), (1, .int (nI p)), (2, .int (nI (by2 f pM))), (3, .int (nI f0)), (4, .int (nI ib)), (5, .int (nI k)), (6, .int (nI (by2 f p))), (7, .int (nI a)), (9, .int (nI i9)), (10, .int (nI d)), (11, .int (nI (f0 + k)))], [.int 0], M573)) rfl rfl rfl ?_
            exact ps_ret rfl rfl (Or.inr ⟨e9575, I576, R577, by
                rw [← hs, mtS_st (i := k) (by omega), ← hpk, mh_n hnm hfl hds (by rw [← hd9, show k - j = 0 by omega]; rfl), q462_s], rfl, hR578, hEI600, hER601, hi581, hi582⟩)
          · skip
            obtain ⟨h9602, I603, R604, q462_s, rfl, hR605, hI606, hX607, hC_608⟩ := q574
            have hi609 := (hI606 51 (by decide)).trans hi555
            have hi610 := (hI606 52 (by decide)).trans hi556
            have hi611 := (hI606 53 (by decide)).trans hi557
            have hi612 := (hI606 58 (by decide)).trans hi558
            have hi613 := (hI606 56 (by decide)).trans hi559
            have hi614 := (hI606 9 (by decide)).trans hi560
            have hi615 := (hI606 10 (by decide)).trans hi561
            have hi616 := (hI606 26 (by decide)).trans hi553
            have hF_617 := hF_562.mono (cIx hI606 (by decide)) (cRx hX607 (by decide))
            have hY_618 := hY_563.mono (cIx hI606 (by decide)) (cRx hX607 (by decide))
            have hP_619 := hP_564.mono (cIx hI606 (by decide)) (cRx hX607 (by decide))
            have hK_620 := hK_565.mono (cIx hI606 (by decide)) (cRx hX607 (by decide))
            have hN9_621 := hN9_566.mono (cIx hI606 (by decide)) (cRx hX607 (by decide))
            have c34_622 := c34_567.mono (cIx hI606 (by decide)) (cRx hX607 (by decide))
            have c35_623 := c35_568.mono (cIx hI606 (by decide)) (cRx hX607 (by decide))
            have c36_624 := c36_569.mono (cIx hI606 (by decide)) (cRx hX607 (by decide))
            have hX_625 := hX9.mono (cIx hI606 (by decide)) (cRx hX607 (by decide))
            have hEI626 := hEI571.tr hI606 (by decide)
            have hER627 := hER1.tr hX607 (by decide)
            show pl _ _ _ (465, [(0, .ref m0), (1, .int (nI p)), (2, .int (nI (by2 f pM))), (3, .int (nI f0)), (4, .int (nI ib)), (5, .int (nI k)), (6, .int (nI (by2 f p))), (7, .int (nI a)), (9, .int (nI i9)), (10, .int (nI d)), (11, .int (nI (f0 + k))), (12, .int (nI (f0 + j)))], [.int (nI (E1 k))], M573) _
            have hh1 := maS_h (by decide) q462_s
            obtain ⟨y9, hy9, hyc⟩ := CX.val hC_608
            refine ps_st (S' := (467, [(12, .int (nI (E1 k))), (0, .ref m0), (1, .int (nI p)), (2, .int (nI (by2 f pM))), (3, .int (nI f0)), (4, .int (nI ib)), (5, .int (nI k)), (6, .int (nI (by2 f p))), (7, .int (nI a)), (9, .int (nI i9)), (10, .int (nI d)), (11, .int (nI (f0 + k)))], [], M573)) rfl rfl rfl ?_
            refine ps_st (S' := (469, [(12, .int (nI (E1 k))), (0, .ref m0), (1, .int (nI p)), (2, .int (nI (by2 f pM))), (3, .int (nI f0)), (4, .int (nI ib)), (5, .int (nI k)), (6, .int (nI (by2 f p))), (7, .int (nI a)), (9, .int (nI i9)), (10, .int (nI d)), (11, .int (nI (f0 + k)))], [.int (nI (E1 k))], M573)) rfl rfl rfl ?_
            refine ps_if (S1 := (474, [(12, .int (nI (E1 k))), (0, .ref m0), (1, .int (nI p)), (2, .int (nI (by2 f pM))), (3, .int (nI f0)), (4, .int (nI ib)), (5, .int (nI k)), (6, .int (nI (by2 f p))), (7, .int (nI a)), (9, .int (nI i9)), (10, .int (nI d)), (11, .int (nI (f0 + k)))], [], M573)) (S2 := (472, [(12, .int (nI (E1 k))), (0, .ref m0), (1, .int (nI p)), (2, .int (nI (by2 f pM))), (3, .int (nI f0)), (4, .int (nI ib)), (5, .int (nI k)), (6, .int (nI (by2 f p))), (7, .int (nI a)), (9, .int (nI i9)), (10, .int (nI d)), (11, .int (nI (f0 + k)))], [], M573)) rfl rfl rfl (fun c_469 => ?_) (fun c_469 => ?_)
            rotate_left
            · exact absurd ((le_nI (p := 0) (n := E1 k) (by decide) (by omega)).mpr (by omega)) (of_decide_eq_false c_469)
            refine ps_st (S' := (476, [(12, .int (nI (E1 k))), (0, .ref m0), (1, .int (nI p)), (2, .int (nI (by2 f pM))), (3, .int (nI f0)), (4, .int (nI ib)), (5, .int (nI k)), (6, .int (nI (by2 f p))), (7, .int (nI a)), (9, .int (nI i9)), (10, .int (nI d)), (11, .int (nI (f0 + k)))], [.int (nI (by2 f p))], M573)) rfl rfl rfl ?_
            refine ps_st (S' := (479, [(12, .int (nI (E1 k))), (0, .ref m0), (1, .int (nI p)), (2, .int (nI (by2 f pM))), (3, .int (nI f0)), (4, .int (nI ib)), (5, .int (nI k)), (6, .int (nI (by2 f p))), (7, .int (nI a)), (9, .int (nI i9)), (10, .int (nI d)), (11, .int (nI (f0 + k)))], [.int 1280, .int (nI (by2 f p))], M573)) rfl rfl rfl ?_
            refine ps_st (S' := (480, [(12, .int (nI (E1 k))), (0, .ref m0), (1, .int (nI p)), (2, .int (nI (by2 f pM))), (3, .int (nI f0)), (4, .int (nI ib)), (5, .int (nI k)), (6, .int (nI (by2 f p))), (7, .int (nI a)), (9, .int (nI i9)), (10, .int (nI d)), (11, .int (nI (f0 + k)))], [.int ((nI (by2 f p)) &&& 1280)], M573)) rfl rfl rfl ?_
            rw [nI_an (p := by2 f p) (k := 1280) (x := 1280) rfl]
            show pl _ _ _ (_, [(12, .int (nI (E1 k))), (0, .ref m0), (1, .int (nI p)), (2, .int (nI (by2 f pM))), (3, .int (nI f0)), (4, .int (nI ib)), (5, .int (nI k)), (6, .int (nI (by2 f p))), (7, .int (nI a)), (9, .int (nI i9)), (10, .int (nI d)), (11, .int (nI (f0 + k)))], [.int (nI (aN (by2 f p) 1280))], M573) _
            refine ps_if (S1 := (492, [(0, .ref m0), (1, .int (nI p)), (2, .int (nI (by2 f pM))), (3, .int (nI f0)), (4, .int (nI ib)), (5, .int (nI k)), (11, .int (nI (f0 + k))), (12, .int (nI (E1 k)))], [], M573)) (S2 := (483, [(12, .int (nI (E1 k))), (0, .ref m0), (1, .int (nI p)), (2, .int (nI (by2 f pM))), (3, .int (nI f0)), (4, .int (nI ib)), (5, .int (nI k)), (6, .int (nI (by2 f p))), (7, .int (nI a)), (9, .int (nI i9)), (10, .int (nI d)), (11, .int (nI (f0 + k)))], [], M573)) rfl rfl rfl (fun c_480 => ?_) (fun c_480 => ?_)
            · have c_480 : (nI (aN (by2 f p) 1280)) = 0 := of_decide_eq_true c_480
              have n_480 : aN (by2 f p) 1280 = 0 := (eq_nI (p := aN (by2 f p) 1280) (n := 0) (Nat.lt_of_le_of_lt (an_le _ _) (by decide)) (by decide)).mp c_480
              refine ps_st (S' := (493, [(0, .ref m0), (1, .int (nI p)), (2, .int (nI (by2 f pM))), (3, .int (nI f0)), (4, .int (nI ib)), (5, .int (nI k)), (11, .int (nI (f0 + k))), (12, .int (nI (E1 k)))], [.int 0], M573)) rfl rfl rfl ?_
              refine ps_st (S' := (495, [(13, .int 0), (0, .ref m0), (1, .int (nI p)), (2, .int (nI (by2 f pM))), (3, .int (nI f0)), (4, .int (nI ib)), (5, .int (nI k)), (11, .int (nI (f0 + k))), (12, .int (nI (E1 k)))], [], M573)) rfl rfl rfl ?_
              refine ps_st (S' := (496, [(13, .int 0), (0, .ref m0), (1, .int (nI p)), (2, .int (nI (by2 f pM))), (3, .int (nI f0)), (4, .int (nI ib)), (5, .int (nI k)), (11, .int (nI (f0 + k))), (12, .int (nI (E1 k)))], [.ref m0], M573)) rfl rfl rfl ?_
              refine pr_ref (j := 37) (S' := (499, [(13, .int 0), (0, .ref m0), (1, .int (nI p)), (2, .int (nI (by2 f pM))), (3, .int (nI f0)), (4, .int (nI ib)), (5, .int (nI k)), (11, .int (nI (f0 + k))), (12, .int (nI (E1 k)))], [.ref (q 37)], M573)) rfl hR605 rfl rfl ?_
              refine ps_st (S' := (501, [(13, .int 0), (0, .ref m0), (1, .int (nI p)), (2, .int (nI (by2 f pM))), (3, .int (nI f0)), (4, .int (nI ib)), (5, .int (nI k)), (11, .int (nI (f0 + k))), (12, .int (nI (E1 k)))], [.int (nI (f0 + k)), .ref (q 37)], M573)) rfl rfl rfl ?_
              refine pr_ld (a := 37) (j := f0 + k) (y := y9) (S' := (502, [(13, .int 0), (0, .ref m0), (1, .int (nI p)), (2, .int (nI (by2 f pM))), (3, .int (nI f0)), (4, .int (nI ib)), (5, .int (nI k)), (11, .int (nI (f0 + k))), (12, .int (nI (E1 k)))], [.int y9], M573)) rfl hR605 rfl (by omega) (fun _ => hy9) rfl (fun i1_501 => ?_)
              refine ps_if (S1 := (509, [(13, .int 0), (0, .ref m0), (1, .int (nI p)), (2, .int (nI (by2 f pM))), (3, .int (nI f0)), (4, .int (nI ib)), (5, .int (nI k)), (11, .int (nI (f0 + k))), (12, .int (nI (E1 k)))], [], M573)) (S2 := (505, [(13, .int 0), (0, .ref m0), (1, .int (nI p)), (2, .int (nI (by2 f pM))), (3, .int (nI f0)), (4, .int (nI ib)), (5, .int (nI k)), (11, .int (nI (f0 + k))), (12, .int (nI (E1 k)))], [], M573)) rfl rfl rfl (fun c_502 => ?_) (fun c_502 => ?_)
              · have c_502 : 0 ≤ y9 := of_decide_eq_true c_502
                have hh9 : ¬ h9602 = 0 := by rcases hyc with h8 | h8; exact absurd h8.2 (Int32.not_lt.mpr c_502); exact h8.1
                refine ps_st (S' := (510, [(0, .ref m0), (1, .int (nI p)), (2, .int (nI (by2 f pM))), (3, .int (nI f0)), (4, .int (nI ib)), (5, .int (nI k)), (12, .int (nI (E1 k))), (13, .int 0)], [.int 0], M573)) rfl rfl rfl ?_
                refine ps_st (S' := (512, [(0, .ref m0), (1, .int (nI p)), (2, .int (nI (by2 f pM))), (3, .int (nI f0)), (4, .int (nI ib)), (5, .int (nI k)), (12, .int (nI (E1 k))), (13, .int 0)], [.int 0, .int 0], M573)) rfl rfl rfl ?_
                refine ps_if2 (S1 := (523, [(0, .ref m0), (1, .int (nI p)), (2, .int (nI (by2 f pM))), (3, .int (nI f0)), (4, .int (nI ib)), (5, .int (nI k)), (12, .int (nI (E1 k))), (13, .int 0)], [], M573)) (S2 := (515, [(0, .ref m0), (1, .int (nI p)), (2, .int (nI (by2 f pM))), (3, .int (nI f0)), (4, .int (nI ib)), (5, .int (nI k)), (12, .int (nI (E1 k))), (13, .int 0)], [], M573)) rfl rfl rfl (fun c_512 => ?_) (fun c_512 => ?_)
                rotate_left
                · exact absurd (by decide) (of_decide_eq_false c_512)
                refine ps_st (S' := (525, [(0, .ref m0), (1, .int (nI p)), (2, .int (nI (by2 f pM))), (3, .int (nI f0)), (4, .int (nI ib)), (5, .int (nI k)), (12, .int (nI (E1 k))), (13, .int 0)], [.int (nI (E1 k))], M573)) rfl rfl rfl ?_
                refine ps_st (S' := (526, [(1, .int (nI (E1 k))), (0, .ref m0), (2, .int (nI (by2 f pM))), (3, .int (nI f0)), (4, .int (nI ib)), (5, .int (nI k)), (12, .int (nI (E1 k))), (13, .int 0)], [], M573)) rfl rfl rfl ?_
                refine ps_st (S' := (529, [(5, .int ((nI k) + 1)), (1, .int (nI (E1 k))), (0, .ref m0), (2, .int (nI (by2 f pM))), (3, .int (nI f0)), (4, .int (nI ib)), (12, .int (nI (E1 k))), (13, .int 0)], [], M573)) rfl rfl rfl ?_
                rw [nI_add1 (p := k) (k := 1) (x := 1) rfl (by omega)]
                show pl _ _ _ (_, [(5, .int (nI (k + 1))), (1, .int (nI (E1 k))), (0, .ref m0), (2, .int (nI (by2 f pM))), (3, .int (nI f0)), (4, .int (nI ib)), (12, .int (nI (E1 k))), (13, .int 0)], [], M573) _
                refine ps_st (S' := (40, [(0, .ref m0), (1, .int (nI (E1 k))), (2, .int (nI (by2 f pM))), (3, .int (nI f0)), (4, .int (nI ib)), (5, .int (nI (k + 1)))], [], M573)) rfl rfl rfl ?_
                have hN8 := FN.more hN9_621 hpk c35_623 c36_624 hsa hsd ht1 ht2
                exact ih.1 (k + 1) (E1 k) (ib) M573 I603 R604 hR605 hEI626 hER627 hi609 hi610 hi611 hi612 hi613 hi616 hi614 hi615 hF_617 hY_618 hP_619 hK_620 hN8 (by omega) (fun h9 => (hm9.2.2.2 (by omega)).symm) (hm9.2.1) (by
                    rw [← hs, mtS_st (i := k) (by omega), ← hpk, mh_n hnm hfl hds (by rw [← hd9, show k - j = 0 by omega]; rfl), q462_s]
                    dsimp only
                    rw [cdu_0, if_pos (by omega), if_pos (by omega)]) (hib)
              · have c_502 : ¬ (0 ≤ y9) := of_decide_eq_false c_502
                have hh9 : h9602 = 0 := by rcases hyc with h8 | h8; exact h8.1; exact absurd (Int32.not_le.mp c_502) h8.2
                refine ps_st (S' := (506, [(13, .int 0), (0, .ref m0), (1, .int (nI p)), (2, .int (nI (by2 f pM))), (3, .int (nI f0)), (4, .int (nI ib)), (5, .int (nI k)), (11, .int (nI (f0 + k))), (12, .int (nI (E1 k)))], [.int 1], M573)) rfl rfl rfl ?_
                refine ps_st (S' := (510, [(0, .ref m0), (1, .int (nI p)), (2, .int (nI (by2 f pM))), (3, .int (nI f0)), (4, .int (nI ib)), (5, .int (nI k)), (12, .int (nI (E1 k))), (13, .int 0)], [.int 1], M573)) rfl rfl rfl ?_
                refine ps_st (S' := (512, [(0, .ref m0), (1, .int (nI p)), (2, .int (nI (by2 f pM))), (3, .int (nI f0)), (4, .int (nI ib)), (5, .int (nI k)), (12, .int (nI (E1 k))), (13, .int 0)], [.int 0, .int 1], M573)) rfl rfl rfl ?_
                refine ps_if2 (S1 := (523, [(0, .ref m0), (1, .int (nI p)), (2, .int (nI (by2 f pM))), (3, .int (nI f0)), (4, .int (nI ib)), (5, .int (nI k)), (12, .int (nI (E1 k))), (13, .int 0)], [], M573)) (S2 := (515, [(0, .ref m0), (1, .int (nI p)), (2, .int (nI (by2 f pM))), (3, .int (nI f0)), (4, .int (nI ib)), (5, .int (nI k)), (12, .int (nI (E1 k))), (13, .int 0)], [], M573)) rfl rfl rfl (fun c_512 => ?_) (fun c_512 => ?_)
                · exact absurd (of_decide_eq_true c_512) (by decide)
                refine ps_st (S' := (516, [(0, .ref m0), (1, .int (nI p)), (2, .int (nI (by2 f pM))), (3, .int (nI f0)), (4, .int (nI ib)), (5, .int (nI k)), (12, .int (nI (E1 k))), (13, .int 0)], [.ref m0], M573)) rfl rfl rfl ?_
                refine ps_st (S' := (518, [(0, .ref m0), (1, .int (nI p)), (2, .int (nI (by2 f pM))), (3, .int (nI f0)), (4, .int (nI ib)), (5, .int (nI k)), (12, .int (nI (E1 k))), (13, .int 0)], [.int 27, .ref m0], M573)) rfl rfl rfl ?_
                refine ps_st (S' := (519, [(0, .ref m0), (1, .int (nI p)), (2, .int (nI (by2 f pM))), (3, .int (nI f0)), (4, .int (nI ib)), (5, .int (nI k)), (12, .int (nI (E1 k))), (13, .int 0)], [.int (nI p), .int 27, .ref m0], M573)) rfl rfl rfl ?_
                refine pl_call (a := [.ref m0, .int 27, .int (nI p)]) (rest := []) rfl rfl rfl (rd_wrong (x1 := 27) (x2 := (nI p)) hR605) (fun v628 M629 q630 => ?_)
                obtain ⟨I631, R632, rfl, hR633, hI634, hX635, hi636, hi637⟩ := q630
                have hi638 := (hI634 51 (by decide)).trans hi609
                have hi639 := (hI634 52 (by decide)).trans hi610
                have hi640 := (hI634 53 (by decide)).trans hi611
                have hi641 := (hI634 58 (by decide)).trans hi612
                have hi642 := (hI634 56 (by decide)).trans hi613
                have hi643 := (hI634 9 (by decide)).trans hi614
                have hi644 := (hI634 10 (by decide)).trans hi615
                have hi645 := (hI634 26 (by decide)).trans hi616
                have hF_646 := hF_617.mono (cIx hI634 (by decide)) (cRx hX635 (by decide))
                have hY_647 := hY_618.mono (cIx hI634 (by decide)) (cRx hX635 (by decide))
                have hP_648 := hP_619.mono (cIx hI634 (by decide)) (cRx hX635 (by decide))
                have hK_649 := hK_620.mono (cIx hI634 (by decide)) (cRx hX635 (by decide))
                have hN9_650 := hN9_621.mono (cIx hI634 (by decide)) (cRx hX635 (by decide))
                have c34_651 := c34_622.mono (cIx hI634 (by decide)) (cRx hX635 (by decide))
                have c35_652 := c35_623.mono (cIx hI634 (by decide)) (cRx hX635 (by decide))
                have c36_653 := c36_624.mono (cIx hI634 (by decide)) (cRx hX635 (by decide))
                have hX_654 := hX_625.mono (cIx hI634 (by decide)) (cRx hX635 (by decide))
                have hC_655 := hC_608.mono (cIx hI634 (by decide)) (cRx hX635 (by decide))
                have hEI656 := hEI626.tr hI634 (by decide)
                have hER657 := hER627.tr hX635 (by decide)
                show pl _ _ _ (522, [(0, .ref m0), (1, .int (nI p)), (2, .int (nI (by2 f pM))), (3, .int (nI f0)), (4, .int (nI ib)), (5, .int (nI k)), (12, .int (nI (E1 k))), (13, .int 0)], [.int 0], M629) _
                exact ps_ret rfl rfl (Or.inr ⟨(27, p), I631, R632, by
                    rw [← hs, mtS_st (i := k) (by omega), ← hpk, mh_n hnm hfl hds (by rw [← hd9, show k - j = 0 by omega]; rfl), q462_s]
                    dsimp only
                    rw [cdu_0, if_pos (by omega), if_neg (by omega)], rfl, hR633, hEI656, hER657, hi636, hi637⟩)
            · have c_480 : ¬ ((nI (aN (by2 f p) 1280)) = 0) := of_decide_eq_false c_480
              have n_480 : ¬ (aN (by2 f p) 1280 = 0) := fun h9 => c_480 ((eq_nI (p := aN (by2 f p) 1280) (n := 0) (Nat.lt_of_le_of_lt (an_le _ _) (by decide)) (by decide)).mpr h9)
              refine ps_st (S' := (485, [(12, .int (nI (E1 k))), (0, .ref m0), (1, .int (nI p)), (2, .int (nI (by2 f pM))), (3, .int (nI f0)), (4, .int (nI ib)), (5, .int (nI k)), (6, .int (nI (by2 f p))), (7, .int (nI a)), (9, .int (nI i9)), (10, .int (nI d)), (11, .int (nI (f0 + k)))], [.int (nI i9)], M573)) rfl rfl rfl ?_
              refine ps_if (S1 := (492, [(0, .ref m0), (1, .int (nI p)), (2, .int (nI (by2 f pM))), (3, .int (nI f0)), (4, .int (nI ib)), (5, .int (nI k)), (11, .int (nI (f0 + k))), (12, .int (nI (E1 k)))], [], M573)) (S2 := (488, [(12, .int (nI (E1 k))), (0, .ref m0), (1, .int (nI p)), (2, .int (nI (by2 f pM))), (3, .int (nI f0)), (4, .int (nI ib)), (5, .int (nI k)), (6, .int (nI (by2 f p))), (7, .int (nI a)), (9, .int (nI i9)), (10, .int (nI d)), (11, .int (nI (f0 + k)))], [], M573)) rfl rfl rfl (fun c_485 => ?_) (fun c_485 => ?_)
              · have c_485 : ¬ (nI i9) = 0 := of_decide_eq_true c_485
                have n_485 : ¬ (i9 = 0) := fun h9 => c_485 ((eq_nI (p := i9) (n := 0) (by omega) (by decide)).mpr h9)
                refine ps_st (S' := (493, [(0, .ref m0), (1, .int (nI p)), (2, .int (nI (by2 f pM))), (3, .int (nI f0)), (4, .int (nI ib)), (5, .int (nI k)), (11, .int (nI (f0 + k))), (12, .int (nI (E1 k)))], [.int 0], M573)) rfl rfl rfl ?_
                refine ps_st (S' := (495, [(13, .int 0), (0, .ref m0), (1, .int (nI p)), (2, .int (nI (by2 f pM))), (3, .int (nI f0)), (4, .int (nI ib)), (5, .int (nI k)), (11, .int (nI (f0 + k))), (12, .int (nI (E1 k)))], [], M573)) rfl rfl rfl ?_
                refine ps_st (S' := (496, [(13, .int 0), (0, .ref m0), (1, .int (nI p)), (2, .int (nI (by2 f pM))), (3, .int (nI f0)), (4, .int (nI ib)), (5, .int (nI k)), (11, .int (nI (f0 + k))), (12, .int (nI (E1 k)))], [.ref m0], M573)) rfl rfl rfl ?_
                refine pr_ref (j := 37) (S' := (499, [(13, .int 0), (0, .ref m0), (1, .int (nI p)), (2, .int (nI (by2 f pM))), (3, .int (nI f0)), (4, .int (nI ib)), (5, .int (nI k)), (11, .int (nI (f0 + k))), (12, .int (nI (E1 k)))], [.ref (q 37)], M573)) rfl hR605 rfl rfl ?_
                refine ps_st (S' := (501, [(13, .int 0), (0, .ref m0), (1, .int (nI p)), (2, .int (nI (by2 f pM))), (3, .int (nI f0)), (4, .int (nI ib)), (5, .int (nI k)), (11, .int (nI (f0 + k))), (12, .int (nI (E1 k)))], [.int (nI (f0 + k)), .ref (q 37)], M573)) rfl rfl rfl ?_
                refine pr_ld (a := 37) (j := f0 + k) (y := y9) (S' := (502, [(13, .int 0), (0, .ref m0), (1, .int (nI p)), (2, .int (nI (by2 f pM))), (3, .int (nI f0)), (4, .int (nI ib)), (5, .int (nI k)), (11, .int (nI (f0 + k))), (12, .int (nI (E1 k)))], [.int y9], M573)) rfl hR605 rfl (by omega) (fun _ => hy9) rfl (fun i1_501 => ?_)
                refine ps_if (S1 := (509, [(13, .int 0), (0, .ref m0), (1, .int (nI p)), (2, .int (nI (by2 f pM))), (3, .int (nI f0)), (4, .int (nI ib)), (5, .int (nI k)), (11, .int (nI (f0 + k))), (12, .int (nI (E1 k)))], [], M573)) (S2 := (505, [(13, .int 0), (0, .ref m0), (1, .int (nI p)), (2, .int (nI (by2 f pM))), (3, .int (nI f0)), (4, .int (nI ib)), (5, .int (nI k)), (11, .int (nI (f0 + k))), (12, .int (nI (E1 k)))], [], M573)) rfl rfl rfl (fun c_502 => ?_) (fun c_502 => ?_)
                · have c_502 : 0 ≤ y9 := of_decide_eq_true c_502
                  have hh9 : ¬ h9602 = 0 := by rcases hyc with h8 | h8; exact absurd h8.2 (Int32.not_lt.mpr c_502); exact h8.1
                  refine ps_st (S' := (510, [(0, .ref m0), (1, .int (nI p)), (2, .int (nI (by2 f pM))), (3, .int (nI f0)), (4, .int (nI ib)), (5, .int (nI k)), (12, .int (nI (E1 k))), (13, .int 0)], [.int 0], M573)) rfl rfl rfl ?_
                  refine ps_st (S' := (512, [(0, .ref m0), (1, .int (nI p)), (2, .int (nI (by2 f pM))), (3, .int (nI f0)), (4, .int (nI ib)), (5, .int (nI k)), (12, .int (nI (E1 k))), (13, .int 0)], [.int 0, .int 0], M573)) rfl rfl rfl ?_
                  refine ps_if2 (S1 := (523, [(0, .ref m0), (1, .int (nI p)), (2, .int (nI (by2 f pM))), (3, .int (nI f0)), (4, .int (nI ib)), (5, .int (nI k)), (12, .int (nI (E1 k))), (13, .int 0)], [], M573)) (S2 := (515, [(0, .ref m0), (1, .int (nI p)), (2, .int (nI (by2 f pM))), (3, .int (nI f0)), (4, .int (nI ib)), (5, .int (nI k)), (12, .int (nI (E1 k))), (13, .int 0)], [], M573)) rfl rfl rfl (fun c_512 => ?_) (fun c_512 => ?_)
                  rotate_left
                  · exact absurd (by decide) (of_decide_eq_false c_512)
                  refine ps_st (S' := (525, [(0, .ref m0), (1, .int (nI p)), (2, .int (nI (by2 f pM))), (3, .int (nI f0)), (4, .int (nI ib)), (5, .int (nI k)), (12, .int (nI (E1 k))), (13, .int 0)], [.int (nI (E1 k))], M573)) rfl rfl rfl ?_
                  refine ps_st (S' := (526, [(1, .int (nI (E1 k))), (0, .ref m0), (2, .int (nI (by2 f pM))), (3, .int (nI f0)), (4, .int (nI ib)), (5, .int (nI k)), (12, .int (nI (E1 k))), (13, .int 0)], [], M573)) rfl rfl rfl ?_
                  refine ps_st (S' := (529, [(5, .int ((nI k) + 1)), (1, .int (nI (E1 k))), (0, .ref m0), (2, .int (nI (by2 f pM))), (3, .int (nI f0)), (4, .int (nI ib)), (12, .int (nI (E1 k))), (13, .int 0)], [], M573)) rfl rfl rfl ?_
                  rw [nI_add1 (p := k) (k := 1) (x := 1) rfl (by omega)]
                  show pl _ _ _ (_, [(5, .int (nI (k + 1))), (1, .int (nI (E1 k))), (0, .ref m0), (2, .int (nI (by2 f pM))), (3, .int (nI f0)), (4, .int (nI ib)), (12, .int (nI (E1 k))), (13, .int 0)], [], M573) _
                  refine ps_st (S' := (40, [(0, .ref m0), (1, .int (nI (E1 k))), (2, .int (nI (by2 f pM))), (3, .int (nI f0)), (4, .int (nI ib)), (5, .int (nI (k + 1)))], [], M573)) rfl rfl rfl ?_
                  have hN8 := FN.more hN9_621 hpk c35_623 c36_624 hsa hsd ht1 ht2
                  exact ih.1 (k + 1) (E1 k) (ib) M573 I603 R604 hR605 hEI626 hER627 hi609 hi610 hi611 hi612 hi613 hi616 hi614 hi615 hF_617 hY_618 hP_619 hK_620 hN8 (by omega) (fun h9 => (hm9.2.2.2 (by omega)).symm) (hm9.2.1) (by
                      rw [← hs, mtS_st (i := k) (by omega), ← hpk, mh_n hnm hfl hds (by rw [← hd9, show k - j = 0 by omega]; rfl), q462_s]
                      dsimp only
                      rw [cdu_0, if_pos (by omega), if_pos (by omega)]) (hib)
                · have c_502 : ¬ (0 ≤ y9) := of_decide_eq_false c_502
                  have hh9 : h9602 = 0 := by rcases hyc with h8 | h8; exact h8.1; exact absurd (Int32.not_le.mp c_502) h8.2
                  refine ps_st (S' := (506, [(13, .int 0), (0, .ref m0), (1, .int (nI p)), (2, .int (nI (by2 f pM))), (3, .int (nI f0)), (4, .int (nI ib)), (5, .int (nI k)), (11, .int (nI (f0 + k))), (12, .int (nI (E1 k)))], [.int 1], M573)) rfl rfl rfl ?_
                  refine ps_st (S' := (510, [(0, .ref m0), (1, .int (nI p)), (2, .int (nI (by2 f pM))), (3, .int (nI f0)), (4, .int (nI ib)), (5, .int (nI k)), (12, .int (nI (E1 k))), (13, .int 0)], [.int 1], M573)) rfl rfl rfl ?_
                  refine ps_st (S' := (512, [(0, .ref m0), (1, .int (nI p)), (2, .int (nI (by2 f pM))), (3, .int (nI f0)), (4, .int (nI ib)), (5, .int (nI k)), (12, .int (nI (E1 k))), (13, .int 0)], [.int 0, .int 1], M573)) rfl rfl rfl ?_
                  refine ps_if2 (S1 := (523, [(0, .ref m0), (1, .int (nI p)), (2, .int (nI (by2 f pM))), (3, .int (nI f0)), (4, .int (nI ib)), (5, .int (nI k)), (12, .int (nI (E1 k))), (13, .int 0)], [], M573)) (S2 := (515, [(0, .ref m0), (1, .int (nI p)), (2, .int (nI (by2 f pM))), (3, .int (nI f0)), (4, .int (nI ib)), (5, .int (nI k)), (12, .int (nI (E1 k))), (13, .int 0)], [], M573)) rfl rfl rfl (fun c_512 => ?_) (fun c_512 => ?_)
                  · exact absurd (of_decide_eq_true c_512) (by decide)
                  refine ps_st (S' := (516, [(0, .ref m0), (1, .int (nI p)), (2, .int (nI (by2 f pM))), (3, .int (nI f0)), (4, .int (nI ib)), (5, .int (nI k)), (12, .int (nI (E1 k))), (13, .int 0)], [.ref m0], M573)) rfl rfl rfl ?_
                  refine ps_st (S' := (518, [(0, .ref m0), (1, .int (nI p)), (2, .int (nI (by2 f pM))), (3, .int (nI f0)), (4, .int (nI ib)), (5, .int (nI k)), (12, .int (nI (E1 k))), (13, .int 0)], [.int 27, .ref m0], M573)) rfl rfl rfl ?_
                  refine ps_st (S' := (519, [(0, .ref m0), (1, .int (nI p)), (2, .int (nI (by2 f pM))), (3, .int (nI f0)), (4, .int (nI ib)), (5, .int (nI k)), (12, .int (nI (E1 k))), (13, .int 0)], [.int (nI p), .int 27, .ref m0], M573)) rfl rfl rfl ?_
                  refine pl_call (a := [.ref m0, .int 27, .int (nI p)]) (rest := []) rfl rfl rfl (rd_wrong (x1 := 27) (x2 := (nI p)) hR605) (fun v658 M659 q660 => ?_)
                  obtain ⟨I661, R662, rfl, hR663, hI664, hX665, hi666, hi667⟩ := q660
                  have hi668 := (hI664 51 (by decide)).trans hi609
                  have hi669 := (hI664 52 (by decide)).trans hi610
                  have hi670 := (hI664 53 (by decide)).trans hi611
                  have hi671 := (hI664 58 (by decide)).trans hi612
                  have hi672 := (hI664 56 (by decide)).trans hi613
                  have hi673 := (hI664 9 (by decide)).trans hi614
                  have hi674 := (hI664 10 (by decide)).trans hi615
                  have hi675 := (hI664 26 (by decide)).trans hi616
                  have hF_676 := hF_617.mono (cIx hI664 (by decide)) (cRx hX665 (by decide))
                  have hY_677 := hY_618.mono (cIx hI664 (by decide)) (cRx hX665 (by decide))
                  have hP_678 := hP_619.mono (cIx hI664 (by decide)) (cRx hX665 (by decide))
                  have hK_679 := hK_620.mono (cIx hI664 (by decide)) (cRx hX665 (by decide))
                  have hN9_680 := hN9_621.mono (cIx hI664 (by decide)) (cRx hX665 (by decide))
                  have c34_681 := c34_622.mono (cIx hI664 (by decide)) (cRx hX665 (by decide))
                  have c35_682 := c35_623.mono (cIx hI664 (by decide)) (cRx hX665 (by decide))
                  have c36_683 := c36_624.mono (cIx hI664 (by decide)) (cRx hX665 (by decide))
                  have hX_684 := hX_625.mono (cIx hI664 (by decide)) (cRx hX665 (by decide))
                  have hC_685 := hC_608.mono (cIx hI664 (by decide)) (cRx hX665 (by decide))
                  have hEI686 := hEI626.tr hI664 (by decide)
                  have hER687 := hER627.tr hX665 (by decide)
                  show pl _ _ _ (522, [(0, .ref m0), (1, .int (nI p)), (2, .int (nI (by2 f pM))), (3, .int (nI f0)), (4, .int (nI ib)), (5, .int (nI k)), (12, .int (nI (E1 k))), (13, .int 0)], [.int 0], M659) _
                  exact ps_ret rfl rfl (Or.inr ⟨(27, p), I661, R662, by
                      rw [← hs, mtS_st (i := k) (by omega), ← hpk, mh_n hnm hfl hds (by rw [← hd9, show k - j = 0 by omega]; rfl), q462_s]
                      dsimp only
                      rw [cdu_0, if_pos (by omega), if_neg (by omega)], rfl, hR663, hEI686, hER687, hi666, hi667⟩)
              · have c_485 : ¬ (¬ (nI i9) = 0) := of_decide_eq_false c_485
                have n_485 : i9 = 0 := (eq_nI (p := i9) (n := 0) (by omega) (by decide)).mp (Decidable.not_not.mp c_485)
                refine ps_st (S' := (489, [(12, .int (nI (E1 k))), (0, .ref m0), (1, .int (nI p)), (2, .int (nI (by2 f pM))), (3, .int (nI f0)), (4, .int (nI ib)), (5, .int (nI k)), (6, .int (nI (by2 f p))), (7, .int (nI a)), (9, .int (nI i9)), (10, .int (nI d)), (11, .int (nI (f0 + k)))], [.int 1], M573)) rfl rfl rfl ?_
                refine ps_st (S' := (493, [(0, .ref m0), (1, .int (nI p)), (2, .int (nI (by2 f pM))), (3, .int (nI f0)), (4, .int (nI ib)), (5, .int (nI k)), (11, .int (nI (f0 + k))), (12, .int (nI (E1 k)))], [.int 1], M573)) rfl rfl rfl ?_
                refine ps_st (S' := (495, [(13, .int 1), (0, .ref m0), (1, .int (nI p)), (2, .int (nI (by2 f pM))), (3, .int (nI f0)), (4, .int (nI ib)), (5, .int (nI k)), (11, .int (nI (f0 + k))), (12, .int (nI (E1 k)))], [], M573)) rfl rfl rfl ?_
                refine ps_st (S' := (496, [(13, .int 1), (0, .ref m0), (1, .int (nI p)), (2, .int (nI (by2 f pM))), (3, .int (nI f0)), (4, .int (nI ib)), (5, .int (nI k)), (11, .int (nI (f0 + k))), (12, .int (nI (E1 k)))], [.ref m0], M573)) rfl rfl rfl ?_
                refine pr_ref (j := 37) (S' := (499, [(13, .int 1), (0, .ref m0), (1, .int (nI p)), (2, .int (nI (by2 f pM))), (3, .int (nI f0)), (4, .int (nI ib)), (5, .int (nI k)), (11, .int (nI (f0 + k))), (12, .int (nI (E1 k)))], [.ref (q 37)], M573)) rfl hR605 rfl rfl ?_
                refine ps_st (S' := (501, [(13, .int 1), (0, .ref m0), (1, .int (nI p)), (2, .int (nI (by2 f pM))), (3, .int (nI f0)), (4, .int (nI ib)), (5, .int (nI k)), (11, .int (nI (f0 + k))), (12, .int (nI (E1 k)))], [.int (nI (f0 + k)), .ref (q 37)], M573)) rfl rfl rfl ?_
                refine pr_ld (a := 37) (j := f0 + k) (y := y9) (S' := (502, [(13, .int 1), (0, .ref m0), (1, .int (nI p)), (2, .int (nI (by2 f pM))), (3, .int (nI f0)), (4, .int (nI ib)), (5, .int (nI k)), (11, .int (nI (f0 + k))), (12, .int (nI (E1 k)))], [.int y9], M573)) rfl hR605 rfl (by omega) (fun _ => hy9) rfl (fun i1_501 => ?_)
                refine ps_if (S1 := (509, [(13, .int 1), (0, .ref m0), (1, .int (nI p)), (2, .int (nI (by2 f pM))), (3, .int (nI f0)), (4, .int (nI ib)), (5, .int (nI k)), (11, .int (nI (f0 + k))), (12, .int (nI (E1 k)))], [], M573)) (S2 := (505, [(13, .int 1), (0, .ref m0), (1, .int (nI p)), (2, .int (nI (by2 f pM))), (3, .int (nI f0)), (4, .int (nI ib)), (5, .int (nI k)), (11, .int (nI (f0 + k))), (12, .int (nI (E1 k)))], [], M573)) rfl rfl rfl (fun c_502 => ?_) (fun c_502 => ?_)
                · have c_502 : 0 ≤ y9 := of_decide_eq_true c_502
                  have hh9 : ¬ h9602 = 0 := by rcases hyc with h8 | h8; exact absurd h8.2 (Int32.not_lt.mpr c_502); exact h8.1
                  refine ps_st (S' := (510, [(0, .ref m0), (1, .int (nI p)), (2, .int (nI (by2 f pM))), (3, .int (nI f0)), (4, .int (nI ib)), (5, .int (nI k)), (12, .int (nI (E1 k))), (13, .int 1)], [.int 0], M573)) rfl rfl rfl ?_
                  refine ps_st (S' := (512, [(0, .ref m0), (1, .int (nI p)), (2, .int (nI (by2 f pM))), (3, .int (nI f0)), (4, .int (nI ib)), (5, .int (nI k)), (12, .int (nI (E1 k))), (13, .int 1)], [.int 1, .int 0], M573)) rfl rfl rfl ?_
                  refine ps_if2 (S1 := (523, [(0, .ref m0), (1, .int (nI p)), (2, .int (nI (by2 f pM))), (3, .int (nI f0)), (4, .int (nI ib)), (5, .int (nI k)), (12, .int (nI (E1 k))), (13, .int 1)], [], M573)) (S2 := (515, [(0, .ref m0), (1, .int (nI p)), (2, .int (nI (by2 f pM))), (3, .int (nI f0)), (4, .int (nI ib)), (5, .int (nI k)), (12, .int (nI (E1 k))), (13, .int 1)], [], M573)) rfl rfl rfl (fun c_512 => ?_) (fun c_512 => ?_)
                  · exact absurd (of_decide_eq_true c_512) (by decide)
                  refine ps_st (S' := (516, [(0, .ref m0), (1, .int (nI p)), (2, .int (nI (by2 f pM))), (3, .int (nI f0)), (4, .int (nI ib)), (5, .int (nI k)), (12, .int (nI (E1 k))), (13, .int 1)], [.ref m0], M573)) rfl rfl rfl ?_
                  refine ps_st (S' := (518, [(0, .ref m0), (1, .int (nI p)), (2, .int (nI (by2 f pM))), (3, .int (nI f0)), (4, .int (nI ib)), (5, .int (nI k)), (12, .int (nI (E1 k))), (13, .int 1)], [.int 27, .ref m0], M573)) rfl rfl rfl ?_
                  refine ps_st (S' := (519, [(0, .ref m0), (1, .int (nI p)), (2, .int (nI (by2 f pM))), (3, .int (nI f0)), (4, .int (nI ib)), (5, .int (nI k)), (12, .int (nI (E1 k))), (13, .int 1)], [.int (nI p), .int 27, .ref m0], M573)) rfl rfl rfl ?_
                  refine pl_call (a := [.ref m0, .int 27, .int (nI p)]) (rest := []) rfl rfl rfl (rd_wrong (x1 := 27) (x2 := (nI p)) hR605) (fun v688 M689 q690 => ?_)
                  obtain ⟨I691, R692, rfl, hR693, hI694, hX695, hi696, hi697⟩ := q690
                  have hi698 := (hI694 51 (by decide)).trans hi609
                  have hi699 := (hI694 52 (by decide)).trans hi610
                  have hi700 := (hI694 53 (by decide)).trans hi611
                  have hi701 := (hI694 58 (by decide)).trans hi612
                  have hi702 := (hI694 56 (by decide)).trans hi613
                  have hi703 := (hI694 9 (by decide)).trans hi614
                  have hi704 := (hI694 10 (by decide)).trans hi615
                  have hi705 := (hI694 26 (by decide)).trans hi616
                  have hF_706 := hF_617.mono (cIx hI694 (by decide)) (cRx hX695 (by decide))
                  have hY_707 := hY_618.mono (cIx hI694 (by decide)) (cRx hX695 (by decide))
                  have hP_708 := hP_619.mono (cIx hI694 (by decide)) (cRx hX695 (by decide))
                  have hK_709 := hK_620.mono (cIx hI694 (by decide)) (cRx hX695 (by decide))
                  have hN9_710 := hN9_621.mono (cIx hI694 (by decide)) (cRx hX695 (by decide))
                  have c34_711 := c34_622.mono (cIx hI694 (by decide)) (cRx hX695 (by decide))
                  have c35_712 := c35_623.mono (cIx hI694 (by decide)) (cRx hX695 (by decide))
                  have c36_713 := c36_624.mono (cIx hI694 (by decide)) (cRx hX695 (by decide))
                  have hX_714 := hX_625.mono (cIx hI694 (by decide)) (cRx hX695 (by decide))
                  have hC_715 := hC_608.mono (cIx hI694 (by decide)) (cRx hX695 (by decide))
                  have hEI716 := hEI626.tr hI694 (by decide)
                  have hER717 := hER627.tr hX695 (by decide)
                  show pl _ _ _ (522, [(0, .ref m0), (1, .int (nI p)), (2, .int (nI (by2 f pM))), (3, .int (nI f0)), (4, .int (nI ib)), (5, .int (nI k)), (12, .int (nI (E1 k))), (13, .int 1)], [.int 0], M689) _
                  exact ps_ret rfl rfl (Or.inr ⟨(27, p), I691, R692, by
                      rw [← hs, mtS_st (i := k) (by omega), ← hpk, mh_n hnm hfl hds (by rw [← hd9, show k - j = 0 by omega]; rfl), q462_s]
                      dsimp only
                      rw [cdu_0, if_neg (by omega), if_neg (by omega)], rfl, hR693, hEI716, hER717, hi696, hi697⟩)
                · have c_502 : ¬ (0 ≤ y9) := of_decide_eq_false c_502
                  have hh9 : h9602 = 0 := by rcases hyc with h8 | h8; exact h8.1; exact absurd (Int32.not_le.mp c_502) h8.2
                  refine ps_st (S' := (506, [(13, .int 1), (0, .ref m0), (1, .int (nI p)), (2, .int (nI (by2 f pM))), (3, .int (nI f0)), (4, .int (nI ib)), (5, .int (nI k)), (11, .int (nI (f0 + k))), (12, .int (nI (E1 k)))], [.int 1], M573)) rfl rfl rfl ?_
                  refine ps_st (S' := (510, [(0, .ref m0), (1, .int (nI p)), (2, .int (nI (by2 f pM))), (3, .int (nI f0)), (4, .int (nI ib)), (5, .int (nI k)), (12, .int (nI (E1 k))), (13, .int 1)], [.int 1], M573)) rfl rfl rfl ?_
                  refine ps_st (S' := (512, [(0, .ref m0), (1, .int (nI p)), (2, .int (nI (by2 f pM))), (3, .int (nI f0)), (4, .int (nI ib)), (5, .int (nI k)), (12, .int (nI (E1 k))), (13, .int 1)], [.int 1, .int 1], M573)) rfl rfl rfl ?_
                  refine ps_if2 (S1 := (523, [(0, .ref m0), (1, .int (nI p)), (2, .int (nI (by2 f pM))), (3, .int (nI f0)), (4, .int (nI ib)), (5, .int (nI k)), (12, .int (nI (E1 k))), (13, .int 1)], [], M573)) (S2 := (515, [(0, .ref m0), (1, .int (nI p)), (2, .int (nI (by2 f pM))), (3, .int (nI f0)), (4, .int (nI ib)), (5, .int (nI k)), (12, .int (nI (E1 k))), (13, .int 1)], [], M573)) rfl rfl rfl (fun c_512 => ?_) (fun c_512 => ?_)
                  rotate_left
                  · exact absurd (by decide) (of_decide_eq_false c_512)
                  refine ps_st (S' := (525, [(0, .ref m0), (1, .int (nI p)), (2, .int (nI (by2 f pM))), (3, .int (nI f0)), (4, .int (nI ib)), (5, .int (nI k)), (12, .int (nI (E1 k))), (13, .int 1)], [.int (nI (E1 k))], M573)) rfl rfl rfl ?_
                  refine ps_st (S' := (526, [(1, .int (nI (E1 k))), (0, .ref m0), (2, .int (nI (by2 f pM))), (3, .int (nI f0)), (4, .int (nI ib)), (5, .int (nI k)), (12, .int (nI (E1 k))), (13, .int 1)], [], M573)) rfl rfl rfl ?_
                  refine ps_st (S' := (529, [(5, .int ((nI k) + 1)), (1, .int (nI (E1 k))), (0, .ref m0), (2, .int (nI (by2 f pM))), (3, .int (nI f0)), (4, .int (nI ib)), (12, .int (nI (E1 k))), (13, .int 1)], [], M573)) rfl rfl rfl ?_
                  rw [nI_add1 (p := k) (k := 1) (x := 1) rfl (by omega)]
                  show pl _ _ _ (_, [(5, .int (nI (k + 1))), (1, .int (nI (E1 k))), (0, .ref m0), (2, .int (nI (by2 f pM))), (3, .int (nI f0)), (4, .int (nI ib)), (12, .int (nI (E1 k))), (13, .int 1)], [], M573) _
                  refine ps_st (S' := (40, [(0, .ref m0), (1, .int (nI (E1 k))), (2, .int (nI (by2 f pM))), (3, .int (nI f0)), (4, .int (nI ib)), (5, .int (nI (k + 1)))], [], M573)) rfl rfl rfl ?_
                  have hN8 := FN.more hN9_621 hpk c35_623 c36_624 hsa hsd ht1 ht2
                  exact ih.1 (k + 1) (E1 k) (ib) M573 I603 R604 hR605 hEI626 hER627 hi609 hi610 hi611 hi612 hi613 hi616 hi614 hi615 hF_617 hY_618 hP_619 hK_620 hN8 (by omega) (fun h9 => (hm9.2.2.2 (by omega)).symm) (hm9.2.1) (by
                      rw [← hs, mtS_st (i := k) (by omega), ← hpk, mh_n hnm hfl hds (by rw [← hd9, show k - j = 0 by omega]; rfl), q462_s]
                      dsimp only
                      rw [cdu_0, if_neg (by omega), if_pos (by omega)]) (hib)
        · have c_403 : ¬ ((nI (f0 + k)) ≤ (nI (f0 + j))) := of_decide_eq_false c_403
          have n_403 : ¬ (f0 + k ≤ f0 + j) := fun h9 => c_403 ((le_nI (p := f0 + k) (n := f0 + j) (by omega) (by omega)).mpr h9)
          obtain ⟨a9, d9, g1, g2, g3, g4, g5, g6⟩ := hN91 j (by omega)
          have g7 := g3.1
          have g8 := g4.1
          have sm1 := sm_sym (k := by2 f (B.getD j 0 + 2)) (m := by2 f (p + 2)) hY1 g3 hsa g5 ht1
          have sm2 := sm_sym (k := by2 f (B.getD j 0 + 4)) (m := by2 f (p + 4)) hY1 g4 hsd g6 ht2
          refine ps_st (S' := (407, [(0, .ref m0), (1, .int (nI p)), (2, .int (nI (by2 f pM))), (3, .int (nI f0)), (4, .int (nI ib)), (5, .int (nI k)), (6, .int (nI (by2 f p))), (7, .int (nI a)), (9, .int (nI i9)), (10, .int (nI d)), (11, .int (nI (f0 + k))), (12, .int (nI (f0 + j)))], [.ref m0], M1)) rfl rfl rfl ?_
          refine pr_ref (j := 35) (S' := (410, [(0, .ref m0), (1, .int (nI p)), (2, .int (nI (by2 f pM))), (3, .int (nI f0)), (4, .int (nI ib)), (5, .int (nI k)), (6, .int (nI (by2 f p))), (7, .int (nI a)), (9, .int (nI i9)), (10, .int (nI d)), (11, .int (nI (f0 + k))), (12, .int (nI (f0 + j)))], [.ref (q 35)], M1)) rfl hR1 rfl rfl ?_
          refine ps_st (S' := (412, [(0, .ref m0), (1, .int (nI p)), (2, .int (nI (by2 f pM))), (3, .int (nI f0)), (4, .int (nI ib)), (5, .int (nI k)), (6, .int (nI (by2 f p))), (7, .int (nI a)), (9, .int (nI i9)), (10, .int (nI d)), (11, .int (nI (f0 + k))), (12, .int (nI (f0 + j)))], [.int (nI (f0 + j)), .ref (q 35)], M1)) rfl rfl rfl ?_
          refine pr_ld (a := 35) (j := f0 + j) (y := (nI a9)) (S' := (413, [(0, .ref m0), (1, .int (nI p)), (2, .int (nI (by2 f pM))), (3, .int (nI f0)), (4, .int (nI ib)), (5, .int (nI k)), (6, .int (nI (by2 f p))), (7, .int (nI a)), (9, .int (nI i9)), (10, .int (nI d)), (11, .int (nI (f0 + k))), (12, .int (nI (f0 + j)))], [.int (nI a9)], M1)) rfl hR1 rfl (by omega) (fun _ => g1) rfl (fun i1_412 => ?_)
          refine ps_st (S' := (415, [(0, .ref m0), (1, .int (nI p)), (2, .int (nI (by2 f pM))), (3, .int (nI f0)), (4, .int (nI ib)), (5, .int (nI k)), (6, .int (nI (by2 f p))), (7, .int (nI a)), (9, .int (nI i9)), (10, .int (nI d)), (11, .int (nI (f0 + k))), (12, .int (nI (f0 + j)))], [.int (nI a), .int (nI a9)], M1)) rfl rfl rfl ?_
          refine ps_if2 (S1 := (438, [(0, .ref m0), (1, .int (nI p)), (2, .int (nI (by2 f pM))), (3, .int (nI f0)), (4, .int (nI ib)), (5, .int (nI k)), (6, .int (nI (by2 f p))), (7, .int (nI a)), (9, .int (nI i9)), (10, .int (nI d)), (11, .int (nI (f0 + k))), (12, .int (nI (f0 + j)))], [], M1)) (S2 := (418, [(0, .ref m0), (1, .int (nI p)), (2, .int (nI (by2 f pM))), (3, .int (nI f0)), (4, .int (nI ib)), (5, .int (nI k)), (6, .int (nI (by2 f p))), (7, .int (nI a)), (9, .int (nI i9)), (10, .int (nI d)), (11, .int (nI (f0 + k))), (12, .int (nI (f0 + j)))], [], M1)) rfl rfl rfl (fun c_415 => ?_) (fun c_415 => ?_)
          · have c_415 : ¬ (nI a9) = (nI a) := of_decide_eq_true c_415
            have n_415 : ¬ (a9 = a) := fun h9 => c_415 ((eq_nI (p := a9) (n := a) (by omega) (by omega)).mpr h9)
            refine ps_st (S' := (441, [(12, .int ((nI (f0 + j)) + 1)), (0, .ref m0), (1, .int (nI p)), (2, .int (nI (by2 f pM))), (3, .int (nI f0)), (4, .int (nI ib)), (5, .int (nI k)), (6, .int (nI (by2 f p))), (7, .int (nI a)), (9, .int (nI i9)), (10, .int (nI d)), (11, .int (nI (f0 + k)))], [], M1)) rfl rfl rfl ?_
            rw [nI_add1 (p := f0 + j) (k := 1) (x := 1) rfl (by omega)]
            show pl _ _ _ (_, [(12, .int (nI (f0 + j + 1))), (0, .ref m0), (1, .int (nI p)), (2, .int (nI (by2 f pM))), (3, .int (nI f0)), (4, .int (nI ib)), (5, .int (nI k)), (6, .int (nI (by2 f p))), (7, .int (nI a)), (9, .int (nI i9)), (10, .int (nI d)), (11, .int (nI (f0 + k)))], [], M1) _
            refine ps_st (S' := (399, [(0, .ref m0), (1, .int (nI p)), (2, .int (nI (by2 f pM))), (3, .int (nI f0)), (4, .int (nI ib)), (5, .int (nI k)), (6, .int (nI (by2 f p))), (7, .int (nI a)), (9, .int (nI i9)), (10, .int (nI d)), (11, .int (nI (f0 + k))), (12, .int (nI (f0 + j + 1)))], [], M1)) rfl rfl rfl ?_
            exact ih.2.2.2 (k) (p) (ib) (a) (i9) (d) (j + 1) M1 I1 R1 hR1 hEI1 hER1 hl51 hl52 hl53 hl58 hl56 hl26 hl9 hl10 hF1 hY1 hP1 hK1 hN91 c341 c351 c361 hC1 (hk0) (hpk) (hpe) (hs) (hib) (hsa) (ht1) (hnm) (hfl) (h9c) (hsd) (ht2) (hmt) (hds) (by omega) (hx) (by
                rw [← hd9, smeS_st (i := j) (by omega), if_neg (by omega)])
          · have c_415 : ¬ (¬ (nI a9) = (nI a)) := of_decide_eq_false c_415
            have n_415 : a9 = a := (eq_nI (p := a9) (n := a) (by omega) (by omega)).mp (Decidable.not_not.mp c_415)
            refine ps_st (S' := (419, [(0, .ref m0), (1, .int (nI p)), (2, .int (nI (by2 f pM))), (3, .int (nI f0)), (4, .int (nI ib)), (5, .int (nI k)), (6, .int (nI (by2 f p))), (7, .int (nI a)), (9, .int (nI i9)), (10, .int (nI d)), (11, .int (nI (f0 + k))), (12, .int (nI (f0 + j)))], [.ref m0], M1)) rfl rfl rfl ?_
            refine pr_ref (j := 36) (S' := (422, [(0, .ref m0), (1, .int (nI p)), (2, .int (nI (by2 f pM))), (3, .int (nI f0)), (4, .int (nI ib)), (5, .int (nI k)), (6, .int (nI (by2 f p))), (7, .int (nI a)), (9, .int (nI i9)), (10, .int (nI d)), (11, .int (nI (f0 + k))), (12, .int (nI (f0 + j)))], [.ref (q 36)], M1)) rfl hR1 rfl rfl ?_
            refine ps_st (S' := (424, [(0, .ref m0), (1, .int (nI p)), (2, .int (nI (by2 f pM))), (3, .int (nI f0)), (4, .int (nI ib)), (5, .int (nI k)), (6, .int (nI (by2 f p))), (7, .int (nI a)), (9, .int (nI i9)), (10, .int (nI d)), (11, .int (nI (f0 + k))), (12, .int (nI (f0 + j)))], [.int (nI (f0 + j)), .ref (q 36)], M1)) rfl rfl rfl ?_
            refine pr_ld (a := 36) (j := f0 + j) (y := (nI d9)) (S' := (425, [(0, .ref m0), (1, .int (nI p)), (2, .int (nI (by2 f pM))), (3, .int (nI f0)), (4, .int (nI ib)), (5, .int (nI k)), (6, .int (nI (by2 f p))), (7, .int (nI a)), (9, .int (nI i9)), (10, .int (nI d)), (11, .int (nI (f0 + k))), (12, .int (nI (f0 + j)))], [.int (nI d9)], M1)) rfl hR1 rfl (by omega) (fun _ => g2) rfl (fun i1_424 => ?_)
            refine ps_st (S' := (427, [(0, .ref m0), (1, .int (nI p)), (2, .int (nI (by2 f pM))), (3, .int (nI f0)), (4, .int (nI ib)), (5, .int (nI k)), (6, .int (nI (by2 f p))), (7, .int (nI a)), (9, .int (nI i9)), (10, .int (nI d)), (11, .int (nI (f0 + k))), (12, .int (nI (f0 + j)))], [.int (nI d), .int (nI d9)], M1)) rfl rfl rfl ?_
            refine ps_if2 (S1 := (438, [(0, .ref m0), (1, .int (nI p)), (2, .int (nI (by2 f pM))), (3, .int (nI f0)), (4, .int (nI ib)), (5, .int (nI k)), (6, .int (nI (by2 f p))), (7, .int (nI a)), (9, .int (nI i9)), (10, .int (nI d)), (11, .int (nI (f0 + k))), (12, .int (nI (f0 + j)))], [], M1)) (S2 := (430, [(0, .ref m0), (1, .int (nI p)), (2, .int (nI (by2 f pM))), (3, .int (nI f0)), (4, .int (nI ib)), (5, .int (nI k)), (6, .int (nI (by2 f p))), (7, .int (nI a)), (9, .int (nI i9)), (10, .int (nI d)), (11, .int (nI (f0 + k))), (12, .int (nI (f0 + j)))], [], M1)) rfl rfl rfl (fun c_427 => ?_) (fun c_427 => ?_)
            · have c_427 : ¬ (nI d9) = (nI d) := of_decide_eq_true c_427
              have n_427 : ¬ (d9 = d) := fun h9 => c_427 ((eq_nI (p := d9) (n := d) (by omega) (by omega)).mpr h9)
              refine ps_st (S' := (441, [(12, .int ((nI (f0 + j)) + 1)), (0, .ref m0), (1, .int (nI p)), (2, .int (nI (by2 f pM))), (3, .int (nI f0)), (4, .int (nI ib)), (5, .int (nI k)), (6, .int (nI (by2 f p))), (7, .int (nI a)), (9, .int (nI i9)), (10, .int (nI d)), (11, .int (nI (f0 + k)))], [], M1)) rfl rfl rfl ?_
              rw [nI_add1 (p := f0 + j) (k := 1) (x := 1) rfl (by omega)]
              show pl _ _ _ (_, [(12, .int (nI (f0 + j + 1))), (0, .ref m0), (1, .int (nI p)), (2, .int (nI (by2 f pM))), (3, .int (nI f0)), (4, .int (nI ib)), (5, .int (nI k)), (6, .int (nI (by2 f p))), (7, .int (nI a)), (9, .int (nI i9)), (10, .int (nI d)), (11, .int (nI (f0 + k)))], [], M1) _
              refine ps_st (S' := (399, [(0, .ref m0), (1, .int (nI p)), (2, .int (nI (by2 f pM))), (3, .int (nI f0)), (4, .int (nI ib)), (5, .int (nI k)), (6, .int (nI (by2 f p))), (7, .int (nI a)), (9, .int (nI i9)), (10, .int (nI d)), (11, .int (nI (f0 + k))), (12, .int (nI (f0 + j + 1)))], [], M1)) rfl rfl rfl ?_
              exact ih.2.2.2 (k) (p) (ib) (a) (i9) (d) (j + 1) M1 I1 R1 hR1 hEI1 hER1 hl51 hl52 hl53 hl58 hl56 hl26 hl9 hl10 hF1 hY1 hP1 hK1 hN91 c341 c351 c361 hC1 (hk0) (hpk) (hpe) (hs) (hib) (hsa) (ht1) (hnm) (hfl) (h9c) (hsd) (ht2) (hmt) (hds) (by omega) (hx) (by
                  rw [← hd9, smeS_st (i := j) (by omega), if_neg (by omega)])
            · have c_427 : ¬ (¬ (nI d9) = (nI d)) := of_decide_eq_false c_427
              have n_427 : d9 = d := (eq_nI (p := d9) (n := d) (by omega) (by omega)).mp (Decidable.not_not.mp c_427)
              refine ps_st (S' := (431, [(0, .ref m0), (1, .int (nI p)), (2, .int (nI (by2 f pM))), (3, .int (nI f0)), (4, .int (nI ib)), (5, .int (nI k)), (6, .int (nI (by2 f p))), (7, .int (nI a)), (9, .int (nI i9)), (10, .int (nI d)), (11, .int (nI (f0 + k))), (12, .int (nI (f0 + j)))], [.ref m0], M1)) rfl rfl rfl ?_
              refine ps_st (S' := (433, [(0, .ref m0), (1, .int (nI p)), (2, .int (nI (by2 f pM))), (3, .int (nI f0)), (4, .int (nI ib)), (5, .int (nI k)), (6, .int (nI (by2 f p))), (7, .int (nI a)), (9, .int (nI i9)), (10, .int (nI d)), (11, .int (nI (f0 + k))), (12, .int (nI (f0 + j)))], [.int 26, .ref m0], M1)) rfl rfl rfl ?_
              refine ps_st (S' := (434, [(0, .ref m0), (1, .int (nI p)), (2, .int (nI (by2 f pM))), (3, .int (nI f0)), (4, .int (nI ib)), (5, .int (nI k)), (6, .int (nI (by2 f p))), (7, .int (nI a)), (9, .int (nI i9)), (10, .int (nI d)), (11, .int (nI (f0 + k))), (12, .int (nI (f0 + j)))], [.int (nI p), .int 26, .ref m0], M1)) rfl rfl rfl ?_
              refine pl_call (a := [.ref m0, .int 26, .int (nI p)]) (rest := []) rfl rfl rfl (rd_wrong (x1 := 26) (x2 := (nI p)) hR1) (fun v718 M719 q720 => ?_)
              obtain ⟨I721, R722, rfl, hR723, hI724, hX725, hi726, hi727⟩ := q720
              have hi728 := (hI724 51 (by decide)).trans hl51
              have hi729 := (hI724 52 (by decide)).trans hl52
              have hi730 := (hI724 53 (by decide)).trans hl53
              have hi731 := (hI724 58 (by decide)).trans hl58
              have hi732 := (hI724 56 (by decide)).trans hl56
              have hi733 := (hI724 26 (by decide)).trans hl26
              have hi734 := (hI724 9 (by decide)).trans hl9
              have hi735 := (hI724 10 (by decide)).trans hl10
              have hF_736 := hF1.mono (cIx hI724 (by decide)) (cRx hX725 (by decide))
              have hY_737 := hY1.mono (cIx hI724 (by decide)) (cRx hX725 (by decide))
              have hP_738 := hP1.mono (cIx hI724 (by decide)) (cRx hX725 (by decide))
              have hK_739 := hK1.mono (cIx hI724 (by decide)) (cRx hX725 (by decide))
              have hN9_740 := hN91.mono (cIx hI724 (by decide)) (cRx hX725 (by decide))
              have c34_741 := c341.mono (cIx hI724 (by decide)) (cRx hX725 (by decide))
              have c35_742 := c351.mono (cIx hI724 (by decide)) (cRx hX725 (by decide))
              have c36_743 := c361.mono (cIx hI724 (by decide)) (cRx hX725 (by decide))
              have hC_744 := hC1.mono (cIx hI724 (by decide)) (cRx hX725 (by decide))
              have hEI745 := hEI1.tr hI724 (by decide)
              have hER746 := hER1.tr hX725 (by decide)
              show pl _ _ _ (437, [(0, .ref m0), (1, .int (nI p)), (2, .int (nI (by2 f pM))), (3, .int (nI f0)), (4, .int (nI ib)), (5, .int (nI k)), (6, .int (nI (by2 f p))), (7, .int (nI a)), (9, .int (nI i9)), (10, .int (nI d)), (11, .int (nI (f0 + k))), (12, .int (nI (f0 + j)))], [.int 0], M719) _
              exact ps_ret rfl rfl (Or.inr ⟨(26, p), I721, R722, by
                  rw [← hs, mtS_st (i := k) (by omega), ← hpk, mh_26 hnm hfl hds (by rw [← hd9, smeS_st (i := j) (by omega), if_pos (by omega)]; exact fun h9 => by cases h9)], rfl, hR723, hEI745, hER746, hi726, hi727⟩)
  refine ps_st (S' := (1, [(0, .ref m0)], [.ref m0], M)) rfl rfl rfl ?_
  refine pr_int (j := 56) (S' := (4, [(0, .ref m0)], [.int (nI pM)], M)) rfl hR rfl hi56 rfl ?_
  refine ps_st (S' := (5, [(1, .int (nI pM)), (0, .ref m0)], [], M)) rfl rfl rfl ?_
  refine ps_st (S' := (6, [(1, .int (nI pM)), (0, .ref m0)], [.ref m0], M)) rfl rfl rfl ?_
  refine ps_st (S' := (7, [(1, .int (nI pM)), (0, .ref m0)], [.int (nI pM), .ref m0], M)) rfl rfl rfl ?_
  refine pl_call (a := [.ref m0, .int (nI pM)]) (rest := []) rfl rfl rfl (rd_u2 (n := n) (f := f) (p := pM) hR hF (by omega)) (fun v747 M748 q749 => ?_)
  obtain ⟨rfl, rfl⟩ := q749
  show pl _ _ _ (10, [(1, .int (nI pM)), (0, .ref m0)], [.int (nI (by2 f pM))], M) _
  have hu_7 := by2_lt f pM
  refine ps_st (S' := (11, [(2, .int (nI (by2 f pM))), (1, .int (nI pM)), (0, .ref m0)], [], M)) rfl rfl rfl ?_
  refine ps_st (S' := (14, [(1, .int ((nI pM) + 2)), (2, .int (nI (by2 f pM))), (0, .ref m0)], [], M)) rfl rfl rfl ?_
  rw [nI_add1 (p := pM) (k := 2) (x := 2) rfl (by omega)]
  show pl _ _ _ (_, [(1, .int (nI (pM + 2))), (2, .int (nI (by2 f pM))), (0, .ref m0)], [], M) _
  refine ps_st (S' := (15, [(1, .int (nI (pM + 2))), (2, .int (nI (by2 f pM))), (0, .ref m0)], [.ref m0], M)) rfl rfl rfl ?_
  refine pr_int (j := 26) (S' := (18, [(1, .int (nI (pM + 2))), (2, .int (nI (by2 f pM))), (0, .ref m0)], [.int (nI f0)], M)) rfl hR rfl hi26 rfl ?_
  refine ps_st (S' := (19, [(3, .int (nI f0)), (1, .int (nI (pM + 2))), (2, .int (nI (by2 f pM))), (0, .ref m0)], [], M)) rfl rfl rfl ?_
  refine ps_st (S' := (20, [(3, .int (nI f0)), (1, .int (nI (pM + 2))), (2, .int (nI (by2 f pM))), (0, .ref m0)], [.ref m0], M)) rfl rfl rfl ?_
  refine pr_int (j := 58) (S' := (23, [(3, .int (nI f0)), (1, .int (nI (pM + 2))), (2, .int (nI (by2 f pM))), (0, .ref m0)], [.int (nI cf)], M)) rfl hR rfl hi58 rfl ?_
  refine ps_st (S' := (26, [(3, .int (nI f0)), (1, .int (nI (pM + 2))), (2, .int (nI (by2 f pM))), (0, .ref m0)], [.int 512, .int (nI cf)], M)) rfl rfl rfl ?_
  refine ps_st (S' := (27, [(3, .int (nI f0)), (1, .int (nI (pM + 2))), (2, .int (nI (by2 f pM))), (0, .ref m0)], [.int ((nI cf) &&& 512)], M)) rfl rfl rfl ?_
  rw [nI_an (p := cf) (k := 512) (x := 512) rfl]
  show pl _ _ _ (_, [(3, .int (nI f0)), (1, .int (nI (pM + 2))), (2, .int (nI (by2 f pM))), (0, .ref m0)], [.int (nI (aN cf 512))], M) _
  refine ps_if (S1 := (34, [(3, .int (nI f0)), (1, .int (nI (pM + 2))), (2, .int (nI (by2 f pM))), (0, .ref m0)], [], M)) (S2 := (30, [(3, .int (nI f0)), (1, .int (nI (pM + 2))), (2, .int (nI (by2 f pM))), (0, .ref m0)], [], M)) rfl rfl rfl (fun c_27 => ?_) (fun c_27 => ?_)
  · have c_27 : (nI (aN cf 512)) = 0 := of_decide_eq_true c_27
    have n_27 : aN cf 512 = 0 := (eq_nI (p := aN cf 512) (n := 0) (Nat.lt_of_le_of_lt (an_le _ _) (by decide)) (by decide)).mp c_27
    refine ps_st (S' := (35, [(0, .ref m0), (1, .int (nI (pM + 2))), (2, .int (nI (by2 f pM))), (3, .int (nI f0))], [.int 0], M)) rfl rfl rfl ?_
    refine ps_st (S' := (37, [(4, .int 0), (0, .ref m0), (1, .int (nI (pM + 2))), (2, .int (nI (by2 f pM))), (3, .int (nI f0))], [], M)) rfl rfl rfl ?_
    refine ps_st (S' := (38, [(4, .int 0), (0, .ref m0), (1, .int (nI (pM + 2))), (2, .int (nI (by2 f pM))), (3, .int (nI f0))], [.int 0], M)) rfl rfl rfl ?_
    refine ps_st (S' := (40, [(0, .ref m0), (1, .int (nI (pM + 2))), (2, .int (nI (by2 f pM))), (3, .int (nI f0)), (4, .int 0), (5, .int 0)], [], M)) rfl rfl rfl ?_
    exact (LL kf).1 (0) (pM + 2) (0) M I R hR hEI hER hi51 hi52 hi53 hi58 hi56 hi26 hi9 hi10 hF hY hP hK hFN0 (by omega) (fun h9 => (hMB.2.2.1 (by omega)).symm) (by omega) (rfl) (by omega)
  · have c_27 : ¬ ((nI (aN cf 512)) = 0) := of_decide_eq_false c_27
    have n_27 : ¬ (aN cf 512 = 0) := fun h9 => c_27 ((eq_nI (p := aN cf 512) (n := 0) (Nat.lt_of_le_of_lt (an_le _ _) (by decide)) (by decide)).mpr h9)
    refine ps_st (S' := (31, [(3, .int (nI f0)), (1, .int (nI (pM + 2))), (2, .int (nI (by2 f pM))), (0, .ref m0)], [.int 1], M)) rfl rfl rfl ?_
    refine ps_st (S' := (35, [(0, .ref m0), (1, .int (nI (pM + 2))), (2, .int (nI (by2 f pM))), (3, .int (nI f0))], [.int 1], M)) rfl rfl rfl ?_
    refine ps_st (S' := (37, [(4, .int 1), (0, .ref m0), (1, .int (nI (pM + 2))), (2, .int (nI (by2 f pM))), (3, .int (nI f0))], [], M)) rfl rfl rfl ?_
    refine ps_st (S' := (38, [(4, .int 1), (0, .ref m0), (1, .int (nI (pM + 2))), (2, .int (nI (by2 f pM))), (3, .int (nI f0))], [.int 0], M)) rfl rfl rfl ?_
    refine ps_st (S' := (40, [(0, .ref m0), (1, .int (nI (pM + 2))), (2, .int (nI (by2 f pM))), (3, .int (nI f0)), (4, .int 1), (5, .int 0)], [], M)) rfl rfl rfl ?_
    exact (LL kf).1 (0) (pM + 2) (1) M I R hR hEI hER hi51 hi52 hi53 hi58 hi56 hi26 hi9 hi10 hF hY hP hK hFN0 (by omega) (fun h9 => (hMB.2.2.1 (by omega)).symm) (by omega) (rfl) (by omega)
