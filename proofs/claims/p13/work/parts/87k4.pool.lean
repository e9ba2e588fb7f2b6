/-! the reference reads the pool (laid by wip/p4/e4.py) -/
set_option maxHeartbeats 1000000 in
theorem rd_readPool {g : xe_G} {m0 : Nat} {q : Nat → Nat} {z : Nat × Nat} {I : rI} {R : rR} {M : mi_H} {n : Nat} {f : Nat → Int32} {tx : List (List Nat)} {cN : Nat} {A : Nat → Nat} {N mj : Nat} (hR : RS g m0 q z I R M) (hi20 : I 20 = some 0) (hi50 : I 50 = some (nI 10)) (hi52 : I 52 = some (nI N)) (hi53 : I 53 = some (nI mj)) (hF : FK n f I R) (hY : SYT tx cN A I R) (hN : 1 ≤ N ∧ N < 65536) (hmj : mj < 65536) (h10 : 10 ≤ n) : pt (mT g) 238 [.ref m0] M (fun v M' => (∃ (p' : Nat) (E : List (Nat × Nat)) (tx1 : List (List Nat)) (cN1 : Nat) (A1 : Nat → Nat) (I' : rI) (R' : rR), (s_ents f n mj N (N - 1) 1 10 [] = .inr (p', E)) ∧ (tx.length ≤ tx1.length ∧ ∀ s, s < tx.length → tx1.getD s [] = tx.getD s []) ∧ (p' ≤ n) ∧ v = some (.int 1) ∧ RS g m0 q z I' R' M' ∧ eqI [3, 8, 20, 47, 48, 50, 51] I I' ∧ eqR [1, 2, 4, 5, 6, 7, 21, 22] R R' ∧ I' 50 = some (nI p') ∧ I' 51 = some 0 ∧ SYT tx1 cN1 A1 I' R' ∧ RPV f n E tx1 N I' R') ∨ (∃ (e : Nat × Nat) (I' : rI) (R' : rR), (s_ents f n mj N (N - 1) 1 10 [] = .inl e) ∧ v = some (.int 0) ∧ RS g m0 q z I' R' M' ∧ eqI [3, 8, 20, 47, 48, 50, 51] I I' ∧ eqR [1, 2, 4, 5, 6, 7, 21, 22] R R' ∧ I' 47 = some (nI e.1) ∧ I' 48 = some (nI e.2))) := by
  refine pt_in (b := mb_238 g) rfl (fun kf => ?_)
  show pl (mT g) kf (mb_238 g).2 (0, [(0, .ref m0)], [], M) _
  have hEI : eqI [3, 8, 20, 47, 48, 50, 51] I I := eqI.rf
  have hER : eqR [1, 2, 4, 5, 6, 7, 21, 22] R R := eqR.rf
  have hn := hF.1
  have LL : ∀ (kf : Nat), (∀ (k p1 : Nat) (E : List (Nat × Nat)) (tx1 : List (List Nat)) (cN1 : Nat) (A1 : Nat → Nat) (M1 : mi_H) (I1 : rI) (R1 : rR), (RS g m0 q z I1 R1 M1) → (eqI [3, 8, 20, 47, 48, 50, 51] I I1) → (eqR [1, 2, 4, 5, 6, 7, 21, 22] R R1) → (I1 50 = some (nI p1)) → (I1 51 = some 0) → (I1 52 = some (nI N)) → (I1 53 = some (nI mj)) → (FK n f I1 R1) → (SYT tx1 cN1 A1 I1 R1) → (RPV f n E tx1 k I1 R1) → (1 ≤ k ∧ k ≤ N) → (p1 ≤ n) → (tx.length ≤ tx1.length ∧ ∀ s, s < tx.length → tx1.getD s [] = tx.getD s []) → (s_ents f n mj N (N - k) k p1 E = s_ents f n mj N (N - 1) 1 10 []) →  pl (mT g) kf (mb_238 g).2 (20, [(0, .ref m0), (1, .int (nI k))], [], M1) (fun v M' => (∃ (p' : Nat) (E : List (Nat × Nat)) (tx1 : List (List Nat)) (cN1 : Nat) (A1 : Nat → Nat) (I' : rI) (R' : rR), (s_ents f n mj N (N - 1) 1 10 [] = .inr (p', E)) ∧ (tx.length ≤ tx1.length ∧ ∀ s, s < tx.length → tx1.getD s [] = tx.getD s []) ∧ (p' ≤ n) ∧ v = some (.int 1) ∧ RS g m0 q z I' R' M' ∧ eqI [3, 8, 20, 47, 48, 50, 51] I I' ∧ eqR [1, 2, 4, 5, 6, 7, 21, 22] R R' ∧ I' 50 = some (nI p') ∧ I' 51 = some 0 ∧ SYT tx1 cN1 A1 I' R' ∧ RPV f n E tx1 N I' R') ∨ (∃ (e : Nat × Nat) (I' : rI) (R' : rR), (s_ents f n mj N (N - 1) 1 10 [] = .inl e) ∧ v = some (.int 0) ∧ RS g m0 q z I' R' M' ∧ eqI [3, 8, 20, 47, 48, 50, 51] I I' ∧ eqR [1, 2, 4, 5, 6, 7, 21, 22] R R' ∧ I' 47 = some (nI e.1) ∧ I' 48 = some (nI e.2)))) ∧ (∀ (k p1 b : Nat) (E : List (Nat × Nat)) (tx1 : List (List Nat)) (cN1 : Nat) (A1 : Nat → Nat) (M1 : mi_H) (I1 : rI) (R1 : rR), (RS g m0 q z I1 R1 M1) → (eqI [3, 8, 20, 47, 48, 50, 51] I I1) → (eqR [1, 2, 4, 5, 6, 7, 21, 22] R R1) → (I1 50 = some (nI p1)) → (I1 51 = some 0) → (I1 52 = some (nI N)) → (I1 53 = some (nI mj)) → (FK n f I1 R1) → (SYT tx1 cN1 A1 I1 R1) → (RPD f n E tx1 k p1 I1 R1) → (1 ≤ k ∧ k < N) → (p1 + 1 ≤ n) → (tx.length ≤ tx1.length ∧ ∀ s, s < tx.length → tx1.getD s [] = tx.getD s []) → (s_ents f n mj N (N - k) k p1 E = s_ents f n mj N (N - 1) 1 10 []) → ((b = 1 ∧ tgOk mj (by1 f p1)) ∨ (b = 0 ∧ ¬ tgOk mj (by1 f p1))) →  pl (mT g) kf (mb_238 g).2 (160, [(0, .ref m0), (1, .int (nI k)), (2, .int (nI (by1 f p1))), (3, .int (nI p1))], [.int (nI b)], M1) (fun v M' => (∃ (p' : Nat) (E : List (Nat × Nat)) (tx1 : List (List Nat)) (cN1 : Nat) (A1 : Nat → Nat) (I' : rI) (R' : rR), (s_ents f n mj N (N - 1) 1 10 [] = .inr (p', E)) ∧ (tx.length ≤ tx1.length ∧ ∀ s, s < tx.length → tx1.getD s [] = tx.getD s []) ∧ (p' ≤ n) ∧ v = some (.int 1) ∧ RS g m0 q z I' R' M' ∧ eqI [3, 8, 20, 47, 48, 50, 51] I I' ∧ eqR [1, 2, 4, 5, 6, 7, 21, 22] R R' ∧ I' 50 = some (nI p') ∧ I' 51 = some 0 ∧ SYT tx1 cN1 A1 I' R' ∧ RPV f n E tx1 N I' R') ∨ (∃ (e : Nat × Nat) (I' : rI) (R' : rR), (s_ents f n mj N (N - 1) 1 10 [] = .inl e) ∧ v = some (.int 0) ∧ RS g m0 q z I' R' M' ∧ eqI [3, 8, 20, 47, 48, 50, 51] I I' ∧ eqR [1, 2, 4, 5, 6, 7, 21, 22] R R' ∧ I' 47 = some (nI e.1) ∧ I' 48 = some (nI e.2)))) ∧ (∀ (k p1 j : Nat) (E : List (Nat × Nat)) (tx1 : List (List Nat)) (cN1 : Nat) (A1 : Nat → Nat) (M1 : mi_H) (I1 : rI) (R1 : rR), (RS g m0 q z I1 R1 M1) → (eqI [3, 8, 20, 47, 48, 50, 51] I I1) → (eqR [1, 2, 4, 5, 6, 7, 21, 22] R R1) → (I1 50 = some (nI (p1 + 1 + 4 * j))) → (I1 51 = some 0) → (I1 52 = some (nI N)) → (I1 53 = some (nI mj)) → (FK n f I1 R1) → (SYT tx1 cN1 A1 I1 R1) → (RPD f n E tx1 k p1 I1 R1) → (1 ≤ k ∧ k < N) → (p1 + 1 ≤ n) → (tx.length ≤ tx1.length ∧ ∀ s, s < tx.length → tx1.getD s [] = tx.getD s []) → (s_ents f n mj N (N - k) k p1 E = s_ents f n mj N (N - 1) 1 10 []) → (tgOk mj (by1 f p1)) → (by1 f p1 = 5 ∨ by1 f p1 = 6) → (¬ N ≤ k + 1) → (j ≤ 2 ∧ p1 + 1 + 4 * j ≤ n) →  pl (mT g) kf (mb_238 g).2 (397, [(0, .ref m0), (1, .int (nI k)), (2, .int (nI (by1 f p1))), (5, .int (nI j))], [], M1) (fun v M' => (∃ (p' : Nat) (E : List (Nat × Nat)) (tx1 : List (List Nat)) (cN1 : Nat) (A1 : Nat → Nat) (I' : rI) (R' : rR), (s_ents f n mj N (N - 1) 1 10 [] = .inr (p', E)) ∧ (tx.length ≤ tx1.length ∧ ∀ s, s < tx.length → tx1.getD s [] = tx.getD s []) ∧ (p' ≤ n) ∧ v = some (.int 1) ∧ RS g m0 q z I' R' M' ∧ eqI [3, 8, 20, 47, 48, 50, 51] I I' ∧ eqR [1, 2, 4, 5, 6, 7, 21, 22] R R' ∧ I' 50 = some (nI p') ∧ I' 51 = some 0 ∧ SYT tx1 cN1 A1 I' R' ∧ RPV f n E tx1 N I' R') ∨ (∃ (e : Nat × Nat) (I' : rI) (R' : rR), (s_ents f n mj N (N - 1) 1 10 [] = .inl e) ∧ v = some (.int 0) ∧ RS g m0 q z I' R' M' ∧ eqI [3, 8, 20, 47, 48, 50, 51] I I' ∧ eqR [1, 2, 4, 5, 6, 7, 21, 22] R R' ∧ I' 47 = some (nI e.1) ∧ I' 48 = some (nI e.2)))) ∧ (∀ (k p1 j : Nat) (E : List (Nat × Nat)) (tx1 : List (List Nat)) (cN1 : Nat) (A1 : Nat → Nat) (M1 : mi_H) (I1 : rI) (R1 : rR), (RS g m0 q z I1 R1 M1) → (eqI [3, 8, 20, 47, 48, 50, 51] I I1) → (eqR [1, 2, 4, 5, 6, 7, 21, 22] R R1) → (I1 50 = some (nI (p1 + 1 + 2 * j))) → (I1 51 = some 0) → (I1 52 = some (nI N)) → (I1 53 = some (nI mj)) → (FK n f I1 R1) → (SYT tx1 cN1 A1 I1 R1) → (RPD f n E tx1 k p1 I1 R1) → (1 ≤ k ∧ k < N) → (p1 + 1 ≤ n) → (tx.length ≤ tx1.length ∧ ∀ s, s < tx.length → tx1.getD s [] = tx.getD s []) → (s_ents f n mj N (N - k) k p1 E = s_ents f n mj N (N - 1) 1 10 []) → (tgOk mj (by1 f p1)) → (¬ (by1 f p1 = 1 ∨ by1 f p1 = 3 ∨ by1 f p1 = 4 ∨ by1 f p1 = 5 ∨ by1 f p1 = 6 ∨ by1 f p1 = 15)) → (j ≤ 2 ∧ p1 + 1 + 2 * j ≤ n ∧ (by1 f p1 = 7 ∨ by1 f p1 = 8 ∨ by1 f p1 = 16 ∨ by1 f p1 = 19 ∨ by1 f p1 = 20 → j ≤ 1)) →  pl (mT g) kf (mb_238 g).2 (437, [(0, .ref m0), (1, .int (nI k)), (2, .int (nI (by1 f p1))), (5, .int (nI j))], [], M1) (fun v M' => (∃ (p' : Nat) (E : List (Nat × Nat)) (tx1 : List (List Nat)) (cN1 : Nat) (A1 : Nat → Nat) (I' : rI) (R' : rR), (s_ents f n mj N (N - 1) 1 10 [] = .inr (p', E)) ∧ (tx.length ≤ tx1.length ∧ ∀ s, s < tx.length → tx1.getD s [] = tx.getD s []) ∧ (p' ≤ n) ∧ v = some (.int 1) ∧ RS g m0 q z I' R' M' ∧ eqI [3, 8, 20, 47, 48, 50, 51] I I' ∧ eqR [1, 2, 4, 5, 6, 7, 21, 22] R R' ∧ I' 50 = some (nI p') ∧ I' 51 = some 0 ∧ SYT tx1 cN1 A1 I' R' ∧ RPV f n E tx1 N I' R') ∨ (∃ (e : Nat × Nat) (I' : rI) (R' : rR), (s_ents f n mj N (N - 1) 1 10 [] = .inl e) ∧ v = some (.int 0) ∧ RS g m0 q z I' R' M' ∧ eqI [3, 8, 20, 47, 48, 50, 51] I I' ∧ eqR [1, 2, 4, 5, 6, 7, 21, 22] R R' ∧ I' 47 = some (nI e.1) ∧ I' 48 = some (nI e.2)))) ∧ (∀ (k p1 p2 : Nat) (E : List (Nat × Nat)) (tx1 : List (List Nat)) (cN1 : Nat) (A1 : Nat → Nat) (M1 : mi_H) (I1 : rI) (R1 : rR), (RS g m0 q z I1 R1 M1) → (eqI [3, 8, 20, 47, 48, 50, 51] I I1) → (eqR [1, 2, 4, 5, 6, 7, 21, 22] R R1) → (I1 50 = some (nI p2)) → (I1 51 = some 0) → (I1 52 = some (nI N)) → (I1 53 = some (nI mj)) → (FK n f I1 R1) → (SYT tx1 cN1 A1 I1 R1) → (RPE f n E tx1 k p1 I1 R1) → (1 ≤ k ∧ k < N) → (p1 + 1 ≤ n) → (tx.length ≤ tx1.length ∧ ∀ s, s < tx.length → tx1.getD s [] = tx.getD s []) → (s_ents f n mj N (N - k) k p1 E = s_ents f n mj N (N - 1) 1 10 []) → (tgOk mj (by1 f p1)) → (∃ x, s_entry f n mj N k p1 = .inr (p2, x)) → (p2 ≤ n) → ((by1 f p1 = 5 ∨ by1 f p1 = 6) → k + 1 < N) →  pl (mT g) kf (mb_238 g).2 (499, [(0, .ref m0), (1, .int (nI k)), (2, .int (nI (by1 f p1)))], [], M1) (fun v M' => (∃ (p' : Nat) (E : List (Nat × Nat)) (tx1 : List (List Nat)) (cN1 : Nat) (A1 : Nat → Nat) (I' : rI) (R' : rR), (s_ents f n mj N (N - 1) 1 10 [] = .inr (p', E)) ∧ (tx.length ≤ tx1.length ∧ ∀ s, s < tx.length → tx1.getD s [] = tx.getD s []) ∧ (p' ≤ n) ∧ v = some (.int 1) ∧ RS g m0 q z I' R' M' ∧ eqI [3, 8, 20, 47, 48, 50, 51] I I' ∧ eqR [1, 2, 4, 5, 6, 7, 21, 22] R R' ∧ I' 50 = some (nI p') ∧ I' 51 = some 0 ∧ SYT tx1 cN1 A1 I' R' ∧ RPV f n E tx1 N I' R') ∨ (∃ (e : Nat × Nat) (I' : rI) (R' : rR), (s_ents f n mj N (N - 1) 1 10 [] = .inl e) ∧ v = some (.int 0) ∧ RS g m0 q z I' R' M' ∧ eqI [3, 8, 20, 47, 48, 50, 51] I I' ∧ eqR [1, 2, 4, 5, 6, 7, 21, 22] R R' ∧ I' 47 = some (nI e.1) ∧ I' 48 = some (nI e.2)))) := by
    intro kf
    induction kf with
    | zero => exact ⟨by intros; exact pl_0, by intros; exact pl_0, by intros; exact pl_0, by intros; exact pl_0, by intros; exact pl_0⟩
    | succ kf ih =>
      refine ⟨?_, ?_, ?_, ?_, ?_⟩
      · skip
        intro k p1 E tx1 cN1 A1 M1 I1 R1 hR1 hEI1 hER1 hl50 hl51 hl52 hl53 hF1 hY1 hP1 hk hp1 htx hs
        have hn := hF1.1
        have hu9 := by1_lt f p1
        refine ps_st1 (S' := (21, [(0, .ref m0), (1, .int (nI k))], [.int (nI k)], M1)) rfl rfl rfl ?_
        refine ps_st (S' := (22, [(0, .ref m0), (1, .int (nI k))], [.ref m0, .int (nI k)], M1)) rfl rfl rfl ?_
        refine pr_int (j := 52) (S' := (25, [(0, .ref m0), (1, .int (nI k))], [.int (nI N), .int (nI k)], M1)) rfl hR1 rfl hl52 rfl ?_
        refine ps_if2 (S1 := (531, [(0, .ref m0), (1, .int (nI k))], [], M1)) (S2 := (28, [(0, .ref m0), (1, .int (nI k))], [], M1)) rfl rfl rfl (fun c_25 => ?_) (fun c_25 => ?_)
        · have c_25 : (nI N) ≤ (nI k) := of_decide_eq_true c_25
          have n_25 : N ≤ k := (le_nI (p := N) (n := k) (by omega) (by omega)).mp c_25
          refine ps_st (S' := (532, [(0, .ref m0), (1, .int (nI k))], [.ref m0], M1)) rfl rfl rfl ?_
          refine ps_st (S' := (533, [(0, .ref m0), (1, .int (nI k))], [.ref m0, .ref m0], M1)) rfl rfl rfl ?_
          refine pr_int (j := 51) (S' := (536, [(0, .ref m0), (1, .int (nI k))], [.int 0, .ref m0], M1)) rfl hR1 rfl hl51 rfl ?_
          refine ps_st (S' := (537, [(0, .ref m0), (1, .int (nI k))], [.ref m0, .int 0, .ref m0], M1)) rfl rfl rfl ?_
          refine pr_int (j := 52) (S' := (540, [(0, .ref m0), (1, .int (nI k))], [.int (nI N), .int 0, .ref m0], M1)) rfl hR1 rfl hl52 rfl ?_
          refine ps_st (S' := (541, [(0, .ref m0), (1, .int (nI k))], [.int (0 + (nI N)), .ref m0], M1)) rfl rfl rfl ?_
          rw [show (0 : Int32) + (nI N) = (nI N) from Int32.zero_add _]
          show pl _ _ _ (_, [(0, .ref m0), (1, .int (nI k))], [.int (nI N), .ref m0], M1) _
          refine pr_put (j := 20) rfl hR1 rfl (fun M1 I2 hR3 hi4 hI5 => ?_)
          have hi6 := (hI5 50 (by decide)).trans hl50
          have hi7 := (hI5 51 (by decide)).trans hl51
          have hi8 := (hI5 52 (by decide)).trans hl52
          have hi9 := (hI5 53 (by decide)).trans hl53
          have hF_10 := hF1.mono (pIx hI5 (by decide)) (fun _ _ => rfl)
          have hY_11 := hY1.mono (pIx hI5 (by decide)) (fun _ _ => rfl)
          have hP_12 := hP1.mono (pIx hI5 (by decide)) (fun _ _ => rfl)
          have hEI13 := hEI1.put hI5 (by decide)
          show pl _ _ _ (544, [(0, .ref m0), (1, .int (nI k))], [], M1) _
          refine ps_st (S' := (545, [(0, .ref m0), (1, .int (nI k))], [.int 1], M1)) rfl rfl rfl ?_
          exact ps_ret rfl rfl (Or.inl ⟨p1, E, tx1, cN1, A1, I2, R1, by
              rw [← hs, show N - k = 0 by omega]
              rfl, htx, hp1, rfl, hR3, hEI13, hER1, hi6, hi7, hY_11, by rw [← show k = N by omega]; exact hP_12⟩)
        · have c_25 : ¬ ((nI N) ≤ (nI k)) := of_decide_eq_false c_25
          have n_25 : ¬ (N ≤ k) := fun h9 => c_25 ((le_nI (p := N) (n := k) (by omega) (by omega)).mpr h9)
          refine ps_st (S' := (29, [(0, .ref m0), (1, .int (nI k))], [.ref m0], M1)) rfl rfl rfl ?_
          refine ps_st (S' := (30, [(0, .ref m0), (1, .int (nI k))], [.long 1, .ref m0], M1)) rfl rfl rfl ?_
          refine pl_call (a := [.ref m0, .long 1]) (rest := []) rfl rfl rfl (rd_item (n := n) (f := f) (p := p1) (k := 1) hR1 hl50 hF1 (by omega) (by decide)) (fun v14 M15 q16 => ?_)
          rcases q16 with q16 | q16
          · skip
            obtain ⟨I17, R18, q30_s, rfl, hR19, hI20, hX21⟩ := q16
            have hi22 := (hI20 50 (by decide)).trans hl50
            have hi23 := (hI20 51 (by decide)).trans hl51
            have hi24 := (hI20 52 (by decide)).trans hl52
            have hi25 := (hI20 53 (by decide)).trans hl53
            have hF_26 := hF1.mono (cIx hI20 (by decide)) (cRx hX21 (by decide))
            have hY_27 := hY1.mono (cIx hI20 (by decide)) (cRx hX21 (by decide))
            have hP_28 := hP1.mono (cIx hI20 (by decide)) (cRx hX21 (by decide))
            have hEI29 := hEI1.tr hI20 (by decide)
            have hER30 := hER1.tr hX21 (by decide)
            show pl _ _ _ (33, [(0, .ref m0), (1, .int (nI k))], [.int 1], M15) _
            refine ps_if (S1 := (38, [(0, .ref m0), (1, .int (nI k))], [], M15)) (S2 := (36, [(0, .ref m0), (1, .int (nI k))], [], M15)) rfl rfl rfl (fun c_33 => ?_) (fun c_33 => ?_)
            rotate_left
            · exact absurd (by decide) (of_decide_eq_false c_33)
            refine ps_st (S' := (39, [(0, .ref m0), (1, .int (nI k))], [.ref m0], M15)) rfl rfl rfl ?_
            refine ps_st (S' := (40, [(0, .ref m0), (1, .int (nI k))], [.ref m0, .ref m0], M15)) rfl rfl rfl ?_
            refine pr_int (j := 50) (S' := (43, [(0, .ref m0), (1, .int (nI k))], [.int (nI p1), .ref m0], M15)) rfl hR19 rfl hi22 rfl ?_
            refine pl_call (a := [.ref m0, .int (nI p1)]) (rest := []) rfl rfl rfl (rd_u1 (n := n) (f := f) (p := p1) hR19 hF_26 (by omega)) (fun v31 M32 q33 => ?_)
            obtain ⟨rfl, rfl⟩ := q33
            show pl _ _ _ (46, [(0, .ref m0), (1, .int (nI k))], [.int (nI (by1 f p1))], M15) _
            have hu_43 := by1_lt f p1
            refine ps_st (S' := (47, [(2, .int (nI (by1 f p1))), (0, .ref m0), (1, .int (nI k))], [], M15)) rfl rfl rfl ?_
            refine ps_st (S' := (48, [(2, .int (nI (by1 f p1))), (0, .ref m0), (1, .int (nI k))], [.ref m0], M15)) rfl rfl rfl ?_
            refine pr_int (j := 50) (S' := (51, [(2, .int (nI (by1 f p1))), (0, .ref m0), (1, .int (nI k))], [.int (nI p1)], M15)) rfl hR19 rfl hi22 rfl ?_
            refine ps_st (S' := (52, [(3, .int (nI p1)), (2, .int (nI (by1 f p1))), (0, .ref m0), (1, .int (nI k))], [], M15)) rfl rfl rfl ?_
            refine ps_st (S' := (53, [(3, .int (nI p1)), (2, .int (nI (by1 f p1))), (0, .ref m0), (1, .int (nI k))], [.ref m0], M15)) rfl rfl rfl ?_
            refine pr_ref (j := 21) (S' := (56, [(3, .int (nI p1)), (2, .int (nI (by1 f p1))), (0, .ref m0), (1, .int (nI k))], [.ref (q 21)], M15)) rfl hR19 rfl rfl ?_
            refine ps_st (S' := (57, [(3, .int (nI p1)), (2, .int (nI (by1 f p1))), (0, .ref m0), (1, .int (nI k))], [.ref m0, .ref (q 21)], M15)) rfl rfl rfl ?_
            refine pr_int (j := 51) (S' := (60, [(3, .int (nI p1)), (2, .int (nI (by1 f p1))), (0, .ref m0), (1, .int (nI k))], [.int 0, .ref (q 21)], M15)) rfl hR19 rfl hi23 rfl ?_
            refine ps_st (S' := (61, [(3, .int (nI p1)), (2, .int (nI (by1 f p1))), (0, .ref m0), (1, .int (nI k))], [.int (nI k), .int 0, .ref (q 21)], M15)) rfl rfl rfl ?_
            refine ps_st (S' := (62, [(3, .int (nI p1)), (2, .int (nI (by1 f p1))), (0, .ref m0), (1, .int (nI k))], [.int (0 + (nI k)), .ref (q 21)], M15)) rfl rfl rfl ?_
            rw [show (0 : Int32) + (nI k) = (nI k) from Int32.zero_add _]
            show pl _ _ _ (_, [(3, .int (nI p1)), (2, .int (nI (by1 f p1))), (0, .ref m0), (1, .int (nI k))], [.int (nI k), .ref (q 21)], M15) _
            refine ps_st (S' := (63, [(3, .int (nI p1)), (2, .int (nI (by1 f p1))), (0, .ref m0), (1, .int (nI k))], [.int (nI p1), .int (nI k), .ref (q 21)], M15)) rfl rfl rfl ?_
            refine pr_st (a := 21) (j := k) rfl hR19 rfl (by omega) (fun M34 R35 i1_63 hR36 hS37 => ?_)
            have hF_38 := hF_26.mono (fun _ _ => rfl) (rRx hS37 (by decide))
            have hY_39 := hY_27.mono (fun _ _ => rfl) (rRx hS37 (by decide))
            have hER40 := hER30.st hS37 (by decide)
            show pl _ _ _ (64, [(3, .int (nI p1)), (2, .int (nI (by1 f p1))), (0, .ref m0), (1, .int (nI k))], [], M34) _
            have hD_41 := hP_28.ent hS37
            refine ps_st (S' := (65, [(3, .int (nI p1)), (2, .int (nI (by1 f p1))), (0, .ref m0), (1, .int (nI k))], [.ref m0], M34)) rfl rfl rfl ?_
            refine pr_ref (j := 22) (S' := (68, [(3, .int (nI p1)), (2, .int (nI (by1 f p1))), (0, .ref m0), (1, .int (nI k))], [.ref (q 22)], M34)) rfl hR36 rfl rfl ?_
            refine ps_st (S' := (69, [(3, .int (nI p1)), (2, .int (nI (by1 f p1))), (0, .ref m0), (1, .int (nI k))], [.ref m0, .ref (q 22)], M34)) rfl rfl rfl ?_
            refine pr_int (j := 51) (S' := (72, [(3, .int (nI p1)), (2, .int (nI (by1 f p1))), (0, .ref m0), (1, .int (nI k))], [.int 0, .ref (q 22)], M34)) rfl hR36 rfl hi23 rfl ?_
            refine ps_st (S' := (73, [(3, .int (nI p1)), (2, .int (nI (by1 f p1))), (0, .ref m0), (1, .int (nI k))], [.int (nI k), .int 0, .ref (q 22)], M34)) rfl rfl rfl ?_
            refine ps_st (S' := (74, [(3, .int (nI p1)), (2, .int (nI (by1 f p1))), (0, .ref m0), (1, .int (nI k))], [.int (0 + (nI k)), .ref (q 22)], M34)) rfl rfl rfl ?_
            rw [show (0 : Int32) + (nI k) = (nI k) from Int32.zero_add _]
            show pl _ _ _ (_, [(3, .int (nI p1)), (2, .int (nI (by1 f p1))), (0, .ref m0), (1, .int (nI k))], [.int (nI k), .ref (q 22)], M34) _
            refine ps_st (S' := (75, [(3, .int (nI p1)), (2, .int (nI (by1 f p1))), (0, .ref m0), (1, .int (nI k))], [.int (-1), .int (nI k), .ref (q 22)], M34)) rfl rfl rfl ?_
            refine pr_st (a := 22) (j := k) rfl hR36 rfl (by omega) (fun M42 R43 i1_75 hR44 hS45 => ?_)
            have hF_46 := hF_38.mono (fun _ _ => rfl) (rRx hS45 (by decide))
            have hY_47 := hY_39.mono (fun _ _ => rfl) (rRx hS45 (by decide))
            have hER48 := hER40.st hS45 (by decide)
            show pl _ _ _ (76, [(3, .int (nI p1)), (2, .int (nI (by1 f p1))), (0, .ref m0), (1, .int (nI k))], [], M42) _
            have hD_49 := hD_41.w22 hS45
            refine ps_st (S' := (77, [(3, .int (nI p1)), (2, .int (nI (by1 f p1))), (0, .ref m0), (1, .int (nI k))], [.int (nI (by1 f p1))], M42)) rfl rfl rfl ?_
            refine ps_st (S' := (78, [(3, .int (nI p1)), (2, .int (nI (by1 f p1))), (0, .ref m0), (1, .int (nI k))], [.int 1, .int (nI (by1 f p1))], M42)) rfl rfl rfl ?_
            refine ps_if2 (S1 := (155, [(0, .ref m0), (1, .int (nI k)), (2, .int (nI (by1 f p1))), (3, .int (nI p1))], [], M42)) (S2 := (81, [(3, .int (nI p1)), (2, .int (nI (by1 f p1))), (0, .ref m0), (1, .int (nI k))], [], M42)) rfl rfl rfl (fun c_78 => ?_) (fun c_78 => ?_)
            · have c_78 : (nI (by1 f p1)) = 1 := of_decide_eq_true c_78
              have n_78 : by1 f p1 = 1 := (eq_nI (p := by1 f p1) (n := 1) (Nat.lt_trans (by1_lt _ _) (by decide)) (by decide)).mp c_78
              refine ps_st (S' := (156, [(0, .ref m0), (1, .int (nI k)), (2, .int (nI (by1 f p1))), (3, .int (nI p1))], [.int 1], M42)) rfl rfl rfl ?_
              refine ps_st (S' := (160, [(0, .ref m0), (1, .int (nI k)), (2, .int (nI (by1 f p1))), (3, .int (nI p1))], [.int 1], M42)) rfl rfl rfl ?_
              exact ih.2.1 (k) (p1) (1) (E) (tx1) (cN1) (A1) M42 I17 R43 hR44 hEI29 hER48 hi22 hi23 hi24 hi25 hF_46 hY_47 hD_49 (by omega) (by omega) (htx) (hs) (Or.inl ⟨rfl, by unfold tgOk; omega⟩)
            · have c_78 : ¬ ((nI (by1 f p1)) = 1) := of_decide_eq_false c_78
              have n_78 : ¬ (by1 f p1 = 1) := fun h9 => c_78 ((eq_nI (p := by1 f p1) (n := 1) (Nat.lt_trans (by1_lt _ _) (by decide)) (by decide)).mpr h9)
              refine ps_st (S' := (82, [(3, .int (nI p1)), (2, .int (nI (by1 f p1))), (0, .ref m0), (1, .int (nI k))], [.int (nI (by1 f p1))], M42)) rfl rfl rfl ?_
              refine ps_st (S' := (83, [(3, .int (nI p1)), (2, .int (nI (by1 f p1))), (0, .ref m0), (1, .int (nI k))], [.int 3, .int (nI (by1 f p1))], M42)) rfl rfl rfl ?_
              refine ps_if2 (S1 := (92, [(0, .ref m0), (1, .int (nI k)), (2, .int (nI (by1 f p1))), (3, .int (nI p1))], [], M42)) (S2 := (86, [(3, .int (nI p1)), (2, .int (nI (by1 f p1))), (0, .ref m0), (1, .int (nI k))], [], M42)) rfl rfl rfl (fun c_83 => ?_) (fun c_83 => ?_)
              · have c_83 : (nI (by1 f p1)) < 3 := of_decide_eq_true c_83
                have n_83 : by1 f p1 < 3 := (lt_nI (p := by1 f p1) (n := 3) (Nat.lt_trans (by1_lt _ _) (by decide)) (by decide)).mp c_83
                refine ps_st (S' := (93, [(0, .ref m0), (1, .int (nI k)), (2, .int (nI (by1 f p1))), (3, .int (nI p1))], [.int (nI (by1 f p1))], M42)) rfl rfl rfl ?_
                refine ps_st (S' := (95, [(0, .ref m0), (1, .int (nI k)), (2, .int (nI (by1 f p1))), (3, .int (nI p1))], [.int 15, .int (nI (by1 f p1))], M42)) rfl rfl rfl ?_
                refine ps_if2 (S1 := (110, [(0, .ref m0), (1, .int (nI k)), (2, .int (nI (by1 f p1))), (3, .int (nI p1))], [], M42)) (S2 := (98, [(0, .ref m0), (1, .int (nI k)), (2, .int (nI (by1 f p1))), (3, .int (nI p1))], [], M42)) rfl rfl rfl (fun c_95 => ?_) (fun c_95 => ?_)
                · have c_95 : (nI (by1 f p1)) = 15 := of_decide_eq_true c_95
                  have n_95 : by1 f p1 = 15 := (eq_nI (p := by1 f p1) (n := 15) (Nat.lt_trans (by1_lt _ _) (by decide)) (by decide)).mp c_95
                  refine ps_st (S' := (111, [(0, .ref m0), (1, .int (nI k)), (2, .int (nI (by1 f p1))), (3, .int (nI p1))], [.ref m0], M42)) rfl rfl rfl ?_
                  refine pr_int (j := 53) (S' := (114, [(0, .ref m0), (1, .int (nI k)), (2, .int (nI (by1 f p1))), (3, .int (nI p1))], [.int (nI mj)], M42)) rfl hR44 rfl hi25 rfl ?_
                  refine ps_st (S' := (116, [(0, .ref m0), (1, .int (nI k)), (2, .int (nI (by1 f p1))), (3, .int (nI p1))], [.int 51, .int (nI mj)], M42)) rfl rfl rfl ?_
                  refine ps_if2 (S1 := (155, [(0, .ref m0), (1, .int (nI k)), (2, .int (nI (by1 f p1))), (3, .int (nI p1))], [], M42)) (S2 := (119, [(0, .ref m0), (1, .int (nI k)), (2, .int (nI (by1 f p1))), (3, .int (nI p1))], [], M42)) rfl rfl rfl (fun c_116 => ?_) (fun c_116 => ?_)
                  · have c_116 : 51 ≤ (nI mj) := of_decide_eq_true c_116
                    have n_116 : 51 ≤ mj := (le_nI (p := 51) (n := mj) (by decide) (by omega)).mp c_116
                    refine ps_st (S' := (156, [(0, .ref m0), (1, .int (nI k)), (2, .int (nI (by1 f p1))), (3, .int (nI p1))], [.int 1], M42)) rfl rfl rfl ?_
                    refine ps_st (S' := (160, [(0, .ref m0), (1, .int (nI k)), (2, .int (nI (by1 f p1))), (3, .int (nI p1))], [.int 1], M42)) rfl rfl rfl ?_
                    exact ih.2.1 (k) (p1) (1) (E) (tx1) (cN1) (A1) M42 I17 R43 hR44 hEI29 hER48 hi22 hi23 hi24 hi25 hF_46 hY_47 hD_49 (by omega) (by omega) (htx) (hs) (Or.inl ⟨rfl, by unfold tgOk; omega⟩)
                  · have c_116 : ¬ (51 ≤ (nI mj)) := of_decide_eq_false c_116
                    have n_116 : ¬ (51 ≤ mj) := fun h9 => c_116 ((le_nI (p := 51) (n := mj) (by decide) (by omega)).mpr h9)
                    refine ps_st (S' := (120, [(0, .ref m0), (1, .int (nI k)), (2, .int (nI (by1 f p1))), (3, .int (nI p1))], [.int (nI (by1 f p1))], M42)) rfl rfl rfl ?_
                    refine ps_st (S' := (122, [(0, .ref m0), (1, .int (nI k)), (2, .int (nI (by1 f p1))), (3, .int (nI p1))], [.int 19, .int (nI (by1 f p1))], M42)) rfl rfl rfl ?_
                    refine ps_if2 (S1 := (131, [(0, .ref m0), (1, .int (nI k)), (2, .int (nI (by1 f p1))), (3, .int (nI p1))], [], M42)) (S2 := (125, [(0, .ref m0), (1, .int (nI k)), (2, .int (nI (by1 f p1))), (3, .int (nI p1))], [], M42)) rfl rfl rfl (fun c_122 => ?_) (fun c_122 => ?_)
                    · have c_122 : (nI (by1 f p1)) = 19 := of_decide_eq_true c_122
                      have n_122 : by1 f p1 = 19 := (eq_nI (p := by1 f p1) (n := 19) (Nat.lt_trans (by1_lt _ _) (by decide)) (by decide)).mp c_122
                      refine ps_st (S' := (132, [(0, .ref m0), (1, .int (nI k)), (2, .int (nI (by1 f p1))), (3, .int (nI p1))], [.ref m0], M42)) rfl rfl rfl ?_
                      refine pr_int (j := 53) (S' := (135, [(0, .ref m0), (1, .int (nI k)), (2, .int (nI (by1 f p1))), (3, .int (nI p1))], [.int (nI mj)], M42)) rfl hR44 rfl hi25 rfl ?_
                      refine ps_st (S' := (137, [(0, .ref m0), (1, .int (nI k)), (2, .int (nI (by1 f p1))), (3, .int (nI p1))], [.int 53, .int (nI mj)], M42)) rfl rfl rfl ?_
                      refine ps_if2 (S1 := (155, [(0, .ref m0), (1, .int (nI k)), (2, .int (nI (by1 f p1))), (3, .int (nI p1))], [], M42)) (S2 := (140, [(0, .ref m0), (1, .int (nI k)), (2, .int (nI (by1 f p1))), (3, .int (nI p1))], [], M42)) rfl rfl rfl (fun c_137 => ?_) (fun c_137 => ?_)
                      · have c_137 : 53 ≤ (nI mj) := of_decide_eq_true c_137
                        have n_137 : 53 ≤ mj := (le_nI (p := 53) (n := mj) (by decide) (by omega)).mp c_137
                        refine ps_st (S' := (156, [(0, .ref m0), (1, .int (nI k)), (2, .int (nI (by1 f p1))), (3, .int (nI p1))], [.int 1], M42)) rfl rfl rfl ?_
                        refine ps_st (S' := (160, [(0, .ref m0), (1, .int (nI k)), (2, .int (nI (by1 f p1))), (3, .int (nI p1))], [.int 1], M42)) rfl rfl rfl ?_
                        exact ih.2.1 (k) (p1) (1) (E) (tx1) (cN1) (A1) M42 I17 R43 hR44 hEI29 hER48 hi22 hi23 hi24 hi25 hF_46 hY_47 hD_49 (by omega) (by omega) (htx) (hs) (Or.inl ⟨rfl, by unfold tgOk; omega⟩)
                      · have c_137 : ¬ (53 ≤ (nI mj)) := of_decide_eq_false c_137
                        have n_137 : ¬ (53 ≤ mj) := fun h9 => c_137 ((le_nI (p := 53) (n := mj) (by decide) (by omega)).mpr h9)
                        refine ps_st (S' := (141, [(0, .ref m0), (1, .int (nI k)), (2, .int (nI (by1 f p1))), (3, .int (nI p1))], [.int (nI (by1 f p1))], M42)) rfl rfl rfl ?_
                        refine ps_st (S' := (143, [(0, .ref m0), (1, .int (nI k)), (2, .int (nI (by1 f p1))), (3, .int (nI p1))], [.int 17, .int (nI (by1 f p1))], M42)) rfl rfl rfl ?_
                        refine ps_if2 (S1 := (159, [(0, .ref m0), (1, .int (nI k)), (2, .int (nI (by1 f p1))), (3, .int (nI p1))], [], M42)) (S2 := (146, [(0, .ref m0), (1, .int (nI k)), (2, .int (nI (by1 f p1))), (3, .int (nI p1))], [], M42)) rfl rfl rfl (fun c_143 => ?_) (fun c_143 => ?_)
                        · have c_143 : ¬ (nI (by1 f p1)) = 17 := of_decide_eq_true c_143
                          have n_143 : ¬ (by1 f p1 = 17) := fun h9 => c_143 ((eq_nI (p := by1 f p1) (n := 17) (Nat.lt_trans (by1_lt _ _) (by decide)) (by decide)).mpr h9)
                          refine ps_st (S' := (160, [(0, .ref m0), (1, .int (nI k)), (2, .int (nI (by1 f p1))), (3, .int (nI p1))], [.int 0], M42)) rfl rfl rfl ?_
                          exact ih.2.1 (k) (p1) (0) (E) (tx1) (cN1) (A1) M42 I17 R43 hR44 hEI29 hER48 hi22 hi23 hi24 hi25 hF_46 hY_47 hD_49 (by omega) (by omega) (htx) (hs) (Or.inr ⟨rfl, by unfold tgOk; omega⟩)
                        · have c_143 : ¬ (¬ (nI (by1 f p1)) = 17) := of_decide_eq_false c_143
                          have n_143 : by1 f p1 = 17 := (eq_nI (p := by1 f p1) (n := 17) (Nat.lt_trans (by1_lt _ _) (by decide)) (by decide)).mp (Decidable.not_not.mp c_143)
                          refine ps_st (S' := (147, [(0, .ref m0), (1, .int (nI k)), (2, .int (nI (by1 f p1))), (3, .int (nI p1))], [.ref m0], M42)) rfl rfl rfl ?_
                          refine pr_int (j := 53) (S' := (150, [(0, .ref m0), (1, .int (nI k)), (2, .int (nI (by1 f p1))), (3, .int (nI p1))], [.int (nI mj)], M42)) rfl hR44 rfl hi25 rfl ?_
                          refine ps_st (S' := (152, [(0, .ref m0), (1, .int (nI k)), (2, .int (nI (by1 f p1))), (3, .int (nI p1))], [.int 55, .int (nI mj)], M42)) rfl rfl rfl ?_
                          refine ps_if2 (S1 := (159, [(0, .ref m0), (1, .int (nI k)), (2, .int (nI (by1 f p1))), (3, .int (nI p1))], [], M42)) (S2 := (155, [(0, .ref m0), (1, .int (nI k)), (2, .int (nI (by1 f p1))), (3, .int (nI p1))], [], M42)) rfl rfl rfl (fun c_152 => ?_) (fun c_152 => ?_)
                          · have c_152 : (nI mj) < 55 := of_decide_eq_true c_152
                            have n_152 : mj < 55 := (lt_nI (p := mj) (n := 55) (by omega) (by decide)).mp c_152
                            refine ps_st (S' := (160, [(0, .ref m0), (1, .int (nI k)), (2, .int (nI (by1 f p1))), (3, .int (nI p1))], [.int 0], M42)) rfl rfl rfl ?_
                            exact ih.2.1 (k) (p1) (0) (E) (tx1) (cN1) (A1) M42 I17 R43 hR44 hEI29 hER48 hi22 hi23 hi24 hi25 hF_46 hY_47 hD_49 (by omega) (by omega) (htx) (hs) (Or.inr ⟨rfl, by unfold tgOk; omega⟩)
                          · have c_152 : ¬ ((nI mj) < 55) := of_decide_eq_false c_152
                            have n_152 : ¬ (mj < 55) := fun h9 => c_152 ((lt_nI (p := mj) (n := 55) (by omega) (by decide)).mpr h9)
                            refine ps_st (S' := (156, [(0, .ref m0), (1, .int (nI k)), (2, .int (nI (by1 f p1))), (3, .int (nI p1))], [.int 1], M42)) rfl rfl rfl ?_
                            refine ps_st (S' := (160, [(0, .ref m0), (1, .int (nI k)), (2, .int (nI (by1 f p1))), (3, .int (nI p1))], [.int 1], M42)) rfl rfl rfl ?_
                            exact ih.2.1 (k) (p1) (1) (E) (tx1) (cN1) (A1) M42 I17 R43 hR44 hEI29 hER48 hi22 hi23 hi24 hi25 hF_46 hY_47 hD_49 (by omega) (by omega) (htx) (hs) (Or.inl ⟨rfl, by unfold tgOk; omega⟩)
                    · have c_122 : ¬ ((nI (by1 f p1)) = 19) := of_decide_eq_false c_122
                      have n_122 : ¬ (by1 f p1 = 19) := fun h9 => c_122 ((eq_nI (p := by1 f p1) (n := 19) (Nat.lt_trans (by1_lt _ _) (by decide)) (by decide)).mpr h9)
                      refine ps_st (S' := (126, [(0, .ref m0), (1, .int (nI k)), (2, .int (nI (by1 f p1))), (3, .int (nI p1))], [.int (nI (by1 f p1))], M42)) rfl rfl rfl ?_
                      refine ps_st (S' := (128, [(0, .ref m0), (1, .int (nI k)), (2, .int (nI (by1 f p1))), (3, .int (nI p1))], [.int 20, .int (nI (by1 f p1))], M42)) rfl rfl rfl ?_
                      refine ps_if2 (S1 := (140, [(0, .ref m0), (1, .int (nI k)), (2, .int (nI (by1 f p1))), (3, .int (nI p1))], [], M42)) (S2 := (131, [(0, .ref m0), (1, .int (nI k)), (2, .int (nI (by1 f p1))), (3, .int (nI p1))], [], M42)) rfl rfl rfl (fun c_128 => ?_) (fun c_128 => ?_)
                      · have c_128 : ¬ (nI (by1 f p1)) = 20 := of_decide_eq_true c_128
                        have n_128 : ¬ (by1 f p1 = 20) := fun h9 => c_128 ((eq_nI (p := by1 f p1) (n := 20) (Nat.lt_trans (by1_lt _ _) (by decide)) (by decide)).mpr h9)
                        refine ps_st (S' := (141, [(0, .ref m0), (1, .int (nI k)), (2, .int (nI (by1 f p1))), (3, .int (nI p1))], [.int (nI (by1 f p1))], M42)) rfl rfl rfl ?_
                        refine ps_st (S' := (143, [(0, .ref m0), (1, .int (nI k)), (2, .int (nI (by1 f p1))), (3, .int (nI p1))], [.int 17, .int (nI (by1 f p1))], M42)) rfl rfl rfl ?_
                        refine ps_if2 (S1 := (159, [(0, .ref m0), (1, .int (nI k)), (2, .int (nI (by1 f p1))), (3, .int (nI p1))], [], M42)) (S2 := (146, [(0, .ref m0), (1, .int (nI k)), (2, .int (nI (by1 f p1))), (3, .int (nI p1))], [], M42)) rfl rfl rfl (fun c_143 => ?_) (fun c_143 => ?_)
                        · have c_143 : ¬ (nI (by1 f p1)) = 17 := of_decide_eq_true c_143
                          have n_143 : ¬ (by1 f p1 = 17) := fun h9 => c_143 ((eq_nI (p := by1 f p1) (n := 17) (Nat.lt_trans (by1_lt _ _) (by decide)) (by decide)).mpr h9)
                          refine ps_st (S' := (160, [(0, .ref m0), (1, .int (nI k)), (2, .int (nI (by1 f p1))), (3, .int (nI p1))], [.int 0], M42)) rfl rfl rfl ?_
                          exact ih.2.1 (k) (p1) (0) (E) (tx1) (cN1) (A1) M42 I17 R43 hR44 hEI29 hER48 hi22 hi23 hi24 hi25 hF_46 hY_47 hD_49 (by omega) (by omega) (htx) (hs) (Or.inr ⟨rfl, by unfold tgOk; omega⟩)
                        · have c_143 : ¬ (¬ (nI (by1 f p1)) = 17) := of_decide_eq_false c_143
                          have n_143 : by1 f p1 = 17 := (eq_nI (p := by1 f p1) (n := 17) (Nat.lt_trans (by1_lt _ _) (by decide)) (by decide)).mp (Decidable.not_not.mp c_143)
                          refine ps_st (S' := (147, [(0, .ref m0), (1, .int (nI k)), (2, .int (nI (by1 f p1))), (3, .int (nI p1))], [.ref m0], M42)) rfl rfl rfl ?_
                          refine pr_int (j := 53) (S' := (150, [(0, .ref m0), (1, .int (nI k)), (2, .int (nI (by1 f p1))), (3, .int (nI p1))], [.int (nI mj)], M42)) rfl hR44 rfl hi25 rfl ?_
                          refine ps_st (S' := (152, [(0, .ref m0), (1, .int (nI k)), (2, .int (nI (by1 f p1))), (3, .int (nI p1))], [.int 55, .int (nI mj)], M42)) rfl rfl rfl ?_
                          refine ps_if2 (S1 := (159, [(0, .ref m0), (1, .int (nI k)), (2, .int (nI (by1 f p1))), (3, .int (nI p1))], [], M42)) (S2 := (155, [(0, .ref m0), (1, .int (nI k)), (2, .int (nI (by1 f p1))), (3, .int (nI p1))], [], M42)) rfl rfl rfl (fun c_152 => ?_) (fun c_152 => ?_)
                          · have c_152 : (nI mj) < 55 := of_decide_eq_true c_152
                            have n_152 : mj < 55 := (lt_nI (p := mj) (n := 55) (by omega) (by decide)).mp c_152
                            refine ps_st (S' := (160, [(0, .ref m0), (1, .int (nI k)), (2, .int (nI (by1 f p1))), (3, .int (nI p1))], [.int 0], M42)) rfl rfl rfl ?_
                            exact ih.2.1 (k) (p1) (0) (E) (tx1) (cN1) (A1) M42 I17 R43 hR44 hEI29 hER48 hi22 hi23 hi24 hi25 hF_46 hY_47 hD_49 (by omega) (by omega) (htx) (hs) (Or.inr ⟨rfl, by unfold tgOk; omega⟩)
                          · have c_152 : ¬ ((nI mj) < 55) := of_decide_eq_false c_152
                            have n_152 : ¬ (mj < 55) := fun h9 => c_152 ((lt_nI (p := mj) (n := 55) (by omega) (by decide)).mpr h9)
                            refine ps_st (S' := (156, [(0, .ref m0), (1, .int (nI k)), (2, .int (nI (by1 f p1))), (3, .int (nI p1))], [.int 1], M42)) rfl rfl rfl ?_
                            refine ps_st (S' := (160, [(0, .ref m0), (1, .int (nI k)), (2, .int (nI (by1 f p1))), (3, .int (nI p1))], [.int 1], M42)) rfl rfl rfl ?_
                            exact ih.2.1 (k) (p1) (1) (E) (tx1) (cN1) (A1) M42 I17 R43 hR44 hEI29 hER48 hi22 hi23 hi24 hi25 hF_46 hY_47 hD_49 (by omega) (by omega) (htx) (hs) (Or.inl ⟨rfl, by unfold tgOk; omega⟩)
                      · have c_128 : ¬ (¬ (nI (by1 f p1)) = 20) := of_decide_eq_false c_128
                        have n_128 : by1 f p1 = 20 := (eq_nI (p := by1 f p1) (n := 20) (Nat.lt_trans (by1_lt _ _) (by decide)) (by decide)).mp (Decidable.not_not.mp c_128)
                        refine ps_st (S' := (132, [(0, .ref m0), (1, .int (nI k)), (2, .int (nI (by1 f p1))), (3, .int (nI p1))], [.ref m0], M42)) rfl rfl rfl ?_
                        refine pr_int (j := 53) (S' := (135, [(0, .ref m0), (1, .int (nI k)), (2, .int (nI (by1 f p1))), (3, .int (nI p1))], [.int (nI mj)], M42)) rfl hR44 rfl hi25 rfl ?_
                        refine ps_st (S' := (137, [(0, .ref m0), (1, .int (nI k)), (2, .int (nI (by1 f p1))), (3, .int (nI p1))], [.int 53, .int (nI mj)], M42)) rfl rfl rfl ?_
                        refine ps_if2 (S1 := (155, [(0, .ref m0), (1, .int (nI k)), (2, .int (nI (by1 f p1))), (3, .int (nI p1))], [], M42)) (S2 := (140, [(0, .ref m0), (1, .int (nI k)), (2, .int (nI (by1 f p1))), (3, .int (nI p1))], [], M42)) rfl rfl rfl (fun c_137 => ?_) (fun c_137 => ?_)
                        · have c_137 : 53 ≤ (nI mj) := of_decide_eq_true c_137
                          have n_137 : 53 ≤ mj := (le_nI (p := 53) (n := mj) (by decide) (by omega)).mp c_137
                          refine ps_st (S' := (156, [(0, .ref m0), (1, .int (nI k)), (2, .int (nI (by1 f p1))), (3, .int (nI p1))], [.int 1], M42)) rfl rfl rfl ?_
                          refine ps_st (S' := (160, [(0, .ref m0), (1, .int (nI k)), (2, .int (nI (by1 f p1))), (3, .int (nI p1))], [.int 1], M42)) rfl rfl rfl ?_
                          exact ih.2.1 (k) (p1) (1) (E) (tx1) (cN1) (A1) M42 I17 R43 hR44 hEI29 hER48 hi22 hi23 hi24 hi25 hF_46 hY_47 hD_49 (by omega) (by omega) (htx) (hs) (Or.inl ⟨rfl, by unfold tgOk; omega⟩)
                        · have c_137 : ¬ (53 ≤ (nI mj)) := of_decide_eq_false c_137
                          have n_137 : ¬ (53 ≤ mj) := fun h9 => c_137 ((le_nI (p := 53) (n := mj) (by decide) (by omega)).mpr h9)
                          refine ps_st (S' := (141, [(0, .ref m0), (1, .int (nI k)), (2, .int (nI (by1 f p1))), (3, .int (nI p1))], [.int (nI (by1 f p1))], M42)) rfl rfl rfl ?_
                          refine ps_st (S' := (143, [(0, .ref m0), (1, .int (nI k)), (2, .int (nI (by1 f p1))), (3, .int (nI p1))], [.int 17, .int (nI (by1 f p1))], M42)) rfl rfl rfl ?_
                          refine ps_if2 (S1 := (159, [(0, .ref m0), (1, .int (nI k)), (2, .int (nI (by1 f p1))), (3, .int (nI p1))], [], M42)) (S2 := (146, [(0, .ref m0), (1, .int (nI k)), (2, .int (nI (by1 f p1))), (3, .int (nI p1))], [], M42)) rfl rfl rfl (fun c_143 => ?_) (fun c_143 => ?_)
                          · have c_143 : ¬ (nI (by1 f p1)) = 17 := of_decide_eq_true c_143
                            have n_143 : ¬ (by1 f p1 = 17) := fun h9 => c_143 ((eq_nI (p := by1 f p1) (n := 17) (Nat.lt_trans (by1_lt _ _) (by decide)) (by decide)).mpr h9)
                            refine ps_st (S' := (160, [(0, .ref m0), (1, .int (nI k)), (2, .int (nI (by1 f p1))), (3, .int (nI p1))], [.int 0], M42)) rfl rfl rfl ?_
                            exact ih.2.1 (k) (p1) (0) (E) (tx1) (cN1) (A1) M42 I17 R43 hR44 hEI29 hER48 hi22 hi23 hi24 hi25 hF_46 hY_47 hD_49 (by omega) (by omega) (htx) (hs) (Or.inr ⟨rfl, by unfold tgOk; omega⟩)
                          · have c_143 : ¬ (¬ (nI (by1 f p1)) = 17) := of_decide_eq_false c_143
                            have n_143 : by1 f p1 = 17 := (eq_nI (p := by1 f p1) (n := 17) (Nat.lt_trans (by1_lt _ _) (by decide)) (by decide)).mp (Decidable.not_not.mp c_143)
                            refine ps_st (S' := (147, [(0, .ref m0), (1, .int (nI k)), (2, .int (nI (by1 f p1))), (3, .int (nI p1))], [.ref m0], M42)) rfl rfl rfl ?_
                            refine pr_int (j := 53) (S' := (150, [(0, .ref m0), (1, .int (nI k)), (2, .int (nI (by1 f p1))), (3, .int (nI p1))], [.int (nI mj)], M42)) rfl hR44 rfl hi25 rfl ?_
                            refine ps_st (S' := (152, [(0, .ref m0), (1, .int (nI k)), (2, .int (nI (by1 f p1))), (3, .int (nI p1))], [.int 55, .int (nI mj)], M42)) rfl rfl rfl ?_
                            refine ps_if2 (S1 := (159, [(0, .ref m0), (1, .int (nI k)), (2, .int (nI (by1 f p1))), (3, .int (nI p1))], [], M42)) (S2 := (155, [(0, .ref m0), (1, .int (nI k)), (2, .int (nI (by1 f p1))), (3, .int (nI p1))], [], M42)) rfl rfl rfl (fun c_152 => ?_) (fun c_152 => ?_)
                            · have c_152 : (nI mj) < 55 := of_decide_eq_true c_152
                              have n_152 : mj < 55 := (lt_nI (p := mj) (n := 55) (by omega) (by decide)).mp c_152
                              refine ps_st (S' := (160, [(0, .ref m0), (1, .int (nI k)), (2, .int (nI (by1 f p1))), (3, .int (nI p1))], [.int 0], M42)) rfl rfl rfl ?_
                              exact ih.2.1 (k) (p1) (0) (E) (tx1) (cN1) (A1) M42 I17 R43 hR44 hEI29 hER48 hi22 hi23 hi24 hi25 hF_46 hY_47 hD_49 (by omega) (by omega) (htx) (hs) (Or.inr ⟨rfl, by unfold tgOk; omega⟩)
                            · have c_152 : ¬ ((nI mj) < 55) := of_decide_eq_false c_152
                              have n_152 : ¬ (mj < 55) := fun h9 => c_152 ((lt_nI (p := mj) (n := 55) (by omega) (by decide)).mpr h9)
                              refine ps_st (S' := (156, [(0, .ref m0), (1, .int (nI k)), (2, .int (nI (by1 f p1))), (3, .int (nI p1))], [.int 1], M42)) rfl rfl rfl ?_
                              refine ps_st (S' := (160, [(0, .ref m0), (1, .int (nI k)), (2, .int (nI (by1 f p1))), (3, .int (nI p1))], [.int 1], M42)) rfl rfl rfl ?_
                              exact ih.2.1 (k) (p1) (1) (E) (tx1) (cN1) (A1) M42 I17 R43 hR44 hEI29 hER48 hi22 hi23 hi24 hi25 hF_46 hY_47 hD_49 (by omega) (by omega) (htx) (hs) (Or.inl ⟨rfl, by unfold tgOk; omega⟩)
                · have c_95 : ¬ ((nI (by1 f p1)) = 15) := of_decide_eq_false c_95
                  have n_95 : ¬ (by1 f p1 = 15) := fun h9 => c_95 ((eq_nI (p := by1 f p1) (n := 15) (Nat.lt_trans (by1_lt _ _) (by decide)) (by decide)).mpr h9)
                  refine ps_st (S' := (99, [(0, .ref m0), (1, .int (nI k)), (2, .int (nI (by1 f p1))), (3, .int (nI p1))], [.int (nI (by1 f p1))], M42)) rfl rfl rfl ?_
                  refine ps_st (S' := (101, [(0, .ref m0), (1, .int (nI k)), (2, .int (nI (by1 f p1))), (3, .int (nI p1))], [.int 16, .int (nI (by1 f p1))], M42)) rfl rfl rfl ?_
                  refine ps_if2 (S1 := (110, [(0, .ref m0), (1, .int (nI k)), (2, .int (nI (by1 f p1))), (3, .int (nI p1))], [], M42)) (S2 := (104, [(0, .ref m0), (1, .int (nI k)), (2, .int (nI (by1 f p1))), (3, .int (nI p1))], [], M42)) rfl rfl rfl (fun c_101 => ?_) (fun c_101 => ?_)
                  · have c_101 : (nI (by1 f p1)) = 16 := of_decide_eq_true c_101
                    have n_101 : by1 f p1 = 16 := (eq_nI (p := by1 f p1) (n := 16) (Nat.lt_trans (by1_lt _ _) (by decide)) (by decide)).mp c_101
                    refine ps_st (S' := (111, [(0, .ref m0), (1, .int (nI k)), (2, .int (nI (by1 f p1))), (3, .int (nI p1))], [.ref m0], M42)) rfl rfl rfl ?_
                    refine pr_int (j := 53) (S' := (114, [(0, .ref m0), (1, .int (nI k)), (2, .int (nI (by1 f p1))), (3, .int (nI p1))], [.int (nI mj)], M42)) rfl hR44 rfl hi25 rfl ?_
                    refine ps_st (S' := (116, [(0, .ref m0), (1, .int (nI k)), (2, .int (nI (by1 f p1))), (3, .int (nI p1))], [.int 51, .int (nI mj)], M42)) rfl rfl rfl ?_
                    refine ps_if2 (S1 := (155, [(0, .ref m0), (1, .int (nI k)), (2, .int (nI (by1 f p1))), (3, .int (nI p1))], [], M42)) (S2 := (119, [(0, .ref m0), (1, .int (nI k)), (2, .int (nI (by1 f p1))), (3, .int (nI p1))], [], M42)) rfl rfl rfl (fun c_116 => ?_) (fun c_116 => ?_)
                    · have c_116 : 51 ≤ (nI mj) := of_decide_eq_true c_116
                      have n_116 : 51 ≤ mj := (le_nI (p := 51) (n := mj) (by decide) (by omega)).mp c_116
                      refine ps_st (S' := (156, [(0, .ref m0), (1, .int (nI k)), (2, .int (nI (by1 f p1))), (3, .int (nI p1))], [.int 1], M42)) rfl rfl rfl ?_
                      refine ps_st (S' := (160, [(0, .ref m0), (1, .int (nI k)), (2, .int (nI (by1 f p1))), (3, .int (nI p1))], [.int 1], M42)) rfl rfl rfl ?_
                      exact ih.2.1 (k) (p1) (1) (E) (tx1) (cN1) (A1) M42 I17 R43 hR44 hEI29 hER48 hi22 hi23 hi24 hi25 hF_46 hY_47 hD_49 (by omega) (by omega) (htx) (hs) (Or.inl ⟨rfl, by unfold tgOk; omega⟩)
                    · have c_116 : ¬ (51 ≤ (nI mj)) := of_decide_eq_false c_116
                      have n_116 : ¬ (51 ≤ mj) := fun h9 => c_116 ((le_nI (p := 51) (n := mj) (by decide) (by omega)).mpr h9)
                      refine ps_st (S' := (120, [(0, .ref m0), (1, .int (nI k)), (2, .int (nI (by1 f p1))), (3, .int (nI p1))], [.int (nI (by1 f p1))], M42)) rfl rfl rfl ?_
                      refine ps_st (S' := (122, [(0, .ref m0), (1, .int (nI k)), (2, .int (nI (by1 f p1))), (3, .int (nI p1))], [.int 19, .int (nI (by1 f p1))], M42)) rfl rfl rfl ?_
                      refine ps_if2 (S1 := (131, [(0, .ref m0), (1, .int (nI k)), (2, .int (nI (by1 f p1))), (3, .int (nI p1))], [], M42)) (S2 := (125, [(0, .ref m0), (1, .int (nI k)), (2, .int (nI (by1 f p1))), (3, .int (nI p1))], [], M42)) rfl rfl rfl (fun c_122 => ?_) (fun c_122 => ?_)
                      · have c_122 : (nI (by1 f p1)) = 19 := of_decide_eq_true c_122
                        have n_122 : by1 f p1 = 19 := (eq_nI (p := by1 f p1) (n := 19) (Nat.lt_trans (by1_lt _ _) (by decide)) (by decide)).mp c_122
                        refine ps_st (S' := (132, [(0, .ref m0), (1, .int (nI k)), (2, .int (nI (by1 f p1))), (3, .int (nI p1))], [.ref m0], M42)) rfl rfl rfl ?_
                        refine pr_int (j := 53) (S' := (135, [(0, .ref m0), (1, .int (nI k)), (2, .int (nI (by1 f p1))), (3, .int (nI p1))], [.int (nI mj)], M42)) rfl hR44 rfl hi25 rfl ?_
                        refine ps_st (S' := (137, [(0, .ref m0), (1, .int (nI k)), (2, .int (nI (by1 f p1))), (3, .int (nI p1))], [.int 53, .int (nI mj)], M42)) rfl rfl rfl ?_
                        refine ps_if2 (S1 := (155, [(0, .ref m0), (1, .int (nI k)), (2, .int (nI (by1 f p1))), (3, .int (nI p1))], [], M42)) (S2 := (140, [(0, .ref m0), (1, .int (nI k)), (2, .int (nI (by1 f p1))), (3, .int (nI p1))], [], M42)) rfl rfl rfl (fun c_137 => ?_) (fun c_137 => ?_)
                        · have c_137 : 53 ≤ (nI mj) := of_decide_eq_true c_137
                          have n_137 : 53 ≤ mj := (le_nI (p := 53) (n := mj) (by decide) (by omega)).mp c_137
                          refine ps_st (S' := (156, [(0, .ref m0), (1, .int (nI k)), (2, .int (nI (by1 f p1))), (3, .int (nI p1))], [.int 1], M42)) rfl rfl rfl ?_
                          refine ps_st (S' := (160, [(0, .ref m0), (1, .int (nI k)), (2, .int (nI (by1 f p1))), (3, .int (nI p1))], [.int 1], M42)) rfl rfl rfl ?_
                          exact ih.2.1 (k) (p1) (1) (E) (tx1) (cN1) (A1) M42 I17 R43 hR44 hEI29 hER48 hi22 hi23 hi24 hi25 hF_46 hY_47 hD_49 (by omega) (by omega) (htx) (hs) (Or.inl ⟨rfl, by unfold tgOk; omega⟩)
                        · have c_137 : ¬ (53 ≤ (nI mj)) := of_decide_eq_false c_137
                          have n_137 : ¬ (53 ≤ mj) := fun h9 => c_137 ((le_nI (p := 53) (n := mj) (by decide) (by omega)).mpr h9)
                          refine ps_st (S' := (141, [(0, .ref m0), (1, .int (nI k)), (2, .int (nI (by1 f p1))), (3, .int (nI p1))], [.int (nI (by1 f p1))], M42)) rfl rfl rfl ?_
                          refine ps_st (S' := (143, [(0, .ref m0), (1, .int (nI k)), (2, .int (nI (by1 f p1))), (3, .int (nI p1))], [.int 17, .int (nI (by1 f p1))], M42)) rfl rfl rfl ?_
                          refine ps_if2 (S1 := (159, [(0, .ref m0), (1, .int (nI k)), (2, .int (nI (by1 f p1))), (3, .int (nI p1))], [], M42)) (S2 := (146, [(0, .ref m0), (1, .int (nI k)), (2, .int (nI (by1 f p1))), (3, .int (nI p1))], [], M42)) rfl rfl rfl (fun c_143 => ?_) (fun c_143 => ?_)
                          · have c_143 : ¬ (nI (by1 f p1)) = 17 := of_decide_eq_true c_143
                            have n_143 : ¬ (by1 f p1 = 17) := fun h9 => c_143 ((eq_nI (p := by1 f p1) (n := 17) (Nat.lt_trans (by1_lt _ _) (by decide)) (by decide)).mpr h9)
                            refine ps_st (S' := (160, [(0, .ref m0), (1, .int (nI k)), (2, .int (nI (by1 f p1))), (3, .int (nI p1))], [.int 0], M42)) rfl rfl rfl ?_
                            exact ih.2.1 (k) (p1) (0) (E) (tx1) (cN1) (A1) M42 I17 R43 hR44 hEI29 hER48 hi22 hi23 hi24 hi25 hF_46 hY_47 hD_49 (by omega) (by omega) (htx) (hs) (Or.inr ⟨rfl, by unfold tgOk; omega⟩)
                          · have c_143 : ¬ (¬ (nI (by1 f p1)) = 17) := of_decide_eq_false c_143
                            have n_143 : by1 f p1 = 17 := (eq_nI (p := by1 f p1) (n := 17) (Nat.lt_trans (by1_lt _ _) (by decide)) (by decide)).mp (Decidable.not_not.mp c_143)
                            refine ps_st (S' := (147, [(0, .ref m0), (1, .int (nI k)), (2, .int (nI (by1 f p1))), (3, .int (nI p1))], [.ref m0], M42)) rfl rfl rfl ?_
                            refine pr_int (j := 53) (S' := (150, [(0, .ref m0), (1, .int (nI k)), (2, .int (nI (by1 f p1))), (3, .int (nI p1))], [.int (nI mj)], M42)) rfl hR44 rfl hi25 rfl ?_
                            refine ps_st (S' := (152, [(0, .ref m0), (1, .int (nI k)), (2, .int (nI (by1 f p1))), (3, .int (nI p1))], [.int 55, .int (nI mj)], M42)) rfl rfl rfl ?_
                            refine ps_if2 (S1 := (159, [(0, .ref m0), (1, .int (nI k)), (2, .int (nI (by1 f p1))), (3, .int (nI p1))], [], M42)) (S2 := (155, [(0, .ref m0), (1, .int (nI k)), (2, .int (nI (by1 f p1))), (3, .int (nI p1))], [], M42)) rfl rfl rfl (fun c_152 => ?_) (fun c_152 => ?_)
                            · have c_152 : (nI mj) < 55 := of_decide_eq_true c_152
                              have n_152 : mj < 55 := (lt_nI (p := mj) (n := 55) (by omega) (by decide)).mp c_152
                              refine ps_st (S' := (160, [(0, .ref m0), (1, .int (nI k)), (2, .int (nI (by1 f p1))), (3, .int (nI p1))], [.int 0], M42)) rfl rfl rfl ?_
                              exact ih.2.1 (k) (p1) (0) (E) (tx1) (cN1) (A1) M42 I17 R43 hR44 hEI29 hER48 hi22 hi23 hi24 hi25 hF_46 hY_47 hD_49 (by omega) (by omega) (htx) (hs) (Or.inr ⟨rfl, by unfold tgOk; omega⟩)
                            · have c_152 : ¬ ((nI mj) < 55) := of_decide_eq_false c_152
                              have n_152 : ¬ (mj < 55) := fun h9 => c_152 ((lt_nI (p := mj) (n := 55) (by omega) (by decide)).mpr h9)
                              refine ps_st (S' := (156, [(0, .ref m0), (1, .int (nI k)), (2, .int (nI (by1 f p1))), (3, .int (nI p1))], [.int 1], M42)) rfl rfl rfl ?_
                              refine ps_st (S' := (160, [(0, .ref m0), (1, .int (nI k)), (2, .int (nI (by1 f p1))), (3, .int (nI p1))], [.int 1], M42)) rfl rfl rfl ?_
                              exact ih.2.1 (k) (p1) (1) (E) (tx1) (cN1) (A1) M42 I17 R43 hR44 hEI29 hER48 hi22 hi23 hi24 hi25 hF_46 hY_47 hD_49 (by omega) (by omega) (htx) (hs) (Or.inl ⟨rfl, by unfold tgOk; omega⟩)
                      · have c_122 : ¬ ((nI (by1 f p1)) = 19) := of_decide_eq_false c_122
                        have n_122 : ¬ (by1 f p1 = 19) := fun h9 => c_122 ((eq_nI (p := by1 f p1) (n := 19) (Nat.lt_trans (by1_lt _ _) (by decide)) (by decide)).mpr h9)
                        refine ps_st (S' := (126, [(0, .ref m0), (1, .int (nI k)), (2, .int (nI (by1 f p1))), (3, .int (nI p1))], [.int (nI (by1 f p1))], M42)) rfl rfl rfl ?_
                        refine ps_st (S' := (128, [(0, .ref m0), (1, .int (nI k)), (2, .int (nI (by1 f p1))), (3, .int (nI p1))], [.int 20, .int (nI (by1 f p1))], M42)) rfl rfl rfl ?_
                        refine ps_if2 (S1 := (140, [(0, .ref m0), (1, .int (nI k)), (2, .int (nI (by1 f p1))), (3, .int (nI p1))], [], M42)) (S2 := (131, [(0, .ref m0), (1, .int (nI k)), (2, .int (nI (by1 f p1))), (3, .int (nI p1))], [], M42)) rfl rfl rfl (fun c_128 => ?_) (fun c_128 => ?_)
                        · have c_128 : ¬ (nI (by1 f p1)) = 20 := of_decide_eq_true c_128
                          have n_128 : ¬ (by1 f p1 = 20) := fun h9 => c_128 ((eq_nI (p := by1 f p1) (n := 20) (Nat.lt_trans (by1_lt _ _) (by decide)) (by decide)).mpr h9)
                          refine ps_st (S' := (141, [(0, .ref m0), (1, .int (nI k)), (2, .int (nI (by1 f p1))), (3, .int (nI p1))], [.int (nI (by1 f p1))], M42)) rfl rfl rfl ?_
                          refine ps_st (S' := (143, [(0, .ref m0), (1, .int (nI k)), (2, .int (nI (by1 f p1))), (3, .int (nI p1))], [.int 17, .int (nI (by1 f p1))], M42)) rfl rfl rfl ?_
                          refine ps_if2 (S1 := (159, [(0, .ref m0), (1, .int (nI k)), (2, .int (nI (by1 f p1))), (3, .int (nI p1))], [], M42)) (S2 := (146, [(0, .ref m0), (1, .int (nI k)), (2, .int (nI (by1 f p1))), (3, .int (nI p1))], [], M42)) rfl rfl rfl (fun c_143 => ?_) (fun c_143 => ?_)
                          · have c_143 : ¬ (nI (by1 f p1)) = 17 := of_decide_eq_true c_143
                            have n_143 : ¬ (by1 f p1 = 17) := fun h9 => c_143 ((eq_nI (p := by1 f p1) (n := 17) (Nat.lt_trans (by1_lt _ _) (by decide)) (by decide)).mpr h9)
                            refine ps_st (S' := (160, [(0, .ref m0), (1, .int (nI k)), (2, .int (nI (by1 f p1))), (3, .int (nI p1))], [.int 0], M42)) rfl rfl rfl ?_
                            exact ih.2.1 (k) (p1) (0) (E) (tx1) (cN1) (A1) M42 I17 R43 hR44 hEI29 hER48 hi22 hi23 hi24 hi25 hF_46 hY_47 hD_49 (by omega) (by omega) (htx) (hs) (Or.inr ⟨rfl, by unfold tgOk; omega⟩)
                          · have c_143 : ¬ (¬ (nI (by1 f p1)) = 17) := of_decide_eq_false c_143
                            have n_143 : by1 f p1 = 17 := (eq_nI (p := by1 f p1) (n := 17) (Nat.lt_trans (by1_lt _ _) (by decide)) (by decide)).mp (Decidable.not_not.mp c_143)
                            refine ps_st (S' := (147, [(0, .ref m0), (1, .int (nI k)), (2, .int (nI (by1 f p1))), (3, .int (nI p1))], [.ref m0], M42)) rfl rfl rfl ?_
                            refine pr_int (j := 53) (S' := (150, [(0, .ref m0), (1, .int (nI k)), (2, .int (nI (by1 f p1))), (3, .int (nI p1))], [.int (nI mj)], M42)) rfl hR44 rfl hi25 rfl ?_
                            refine ps_st (S' := (152, [(0, .ref m0), (1, .int (nI k)), (2, .int (nI (by1 f p1))), (3, .int (nI p1))], [.int 55, .int (nI mj)], M42)) rfl rfl rfl ?_
                            refine ps_if2 (S1 := (159, [(0, .ref m0), (1, .int (nI k)), (2, .int (nI (by1 f p1))), (3, .int (nI p1))], [], M42)) (S2 := (155, [(0, .ref m0), (1, .int (nI k)), (2, .int (nI (by1 f p1))), (3, .int (nI p1))], [], M42)) rfl rfl rfl (fun c_152 => ?_) (fun c_152 => ?_)
                            · have c_152 : (nI mj) < 55 := of_decide_eq_true c_152
                              have n_152 : mj < 55 := (lt_nI (p := mj) (n := 55) (by omega) (by decide)).mp c_152
                              refine ps_st (S' := (160, [(0, .ref m0), (1, .int (nI k)), (2, .int (nI (by1 f p1))), (3, .int (nI p1))], [.int 0], M42)) rfl rfl rfl ?_
                              exact ih.2.1 (k) (p1) (0) (E) (tx1) (cN1) (A1) M42 I17 R43 hR44 hEI29 hER48 hi22 hi23 hi24 hi25 hF_46 hY_47 hD_49 (by omega) (by omega) (htx) (hs) (Or.inr ⟨rfl, by unfold tgOk; omega⟩)
                            · have c_152 : ¬ ((nI mj) < 55) := of_decide_eq_false c_152
                              have n_152 : ¬ (mj < 55) := fun h9 => c_152 ((lt_nI (p := mj) (n := 55) (by omega) (by decide)).mpr h9)
                              refine ps_st (S' := (156, [(0, .ref m0), (1, .int (nI k)), (2, .int (nI (by1 f p1))), (3, .int (nI p1))], [.int 1], M42)) rfl rfl rfl ?_
                              refine ps_st (S' := (160, [(0, .ref m0), (1, .int (nI k)), (2, .int (nI (by1 f p1))), (3, .int (nI p1))], [.int 1], M42)) rfl rfl rfl ?_
                              exact ih.2.1 (k) (p1) (1) (E) (tx1) (cN1) (A1) M42 I17 R43 hR44 hEI29 hER48 hi22 hi23 hi24 hi25 hF_46 hY_47 hD_49 (by omega) (by omega) (htx) (hs) (Or.inl ⟨rfl, by unfold tgOk; omega⟩)
                        · have c_128 : ¬ (¬ (nI (by1 f p1)) = 20) := of_decide_eq_false c_128
                          have n_128 : by1 f p1 = 20 := (eq_nI (p := by1 f p1) (n := 20) (Nat.lt_trans (by1_lt _ _) (by decide)) (by decide)).mp (Decidable.not_not.mp c_128)
                          refine ps_st (S' := (132, [(0, .ref m0), (1, .int (nI k)), (2, .int (nI (by1 f p1))), (3, .int (nI p1))], [.ref m0], M42)) rfl rfl rfl ?_
                          refine pr_int (j := 53) (S' := (135, [(0, .ref m0), (1, .int (nI k)), (2, .int (nI (by1 f p1))), (3, .int (nI p1))], [.int (nI mj)], M42)) rfl hR44 rfl hi25 rfl ?_
                          refine ps_st (S' := (137, [(0, .ref m0), (1, .int (nI k)), (2, .int (nI (by1 f p1))), (3, .int (nI p1))], [.int 53, .int (nI mj)], M42)) rfl rfl rfl ?_
                          refine ps_if2 (S1 := (155, [(0, .ref m0), (1, .int (nI k)), (2, .int (nI (by1 f p1))), (3, .int (nI p1))], [], M42)) (S2 := (140, [(0, .ref m0), (1, .int (nI k)), (2, .int (nI (by1 f p1))), (3, .int (nI p1))], [], M42)) rfl rfl rfl (fun c_137 => ?_) (fun c_137 => ?_)
                          · have c_137 : 53 ≤ (nI mj) := of_decide_eq_true c_137
                            have n_137 : 53 ≤ mj := (le_nI (p := 53) (n := mj) (by decide) (by omega)).mp c_137
                            refine ps_st (S' := (156, [(0, .ref m0), (1, .int (nI k)), (2, .int (nI (by1 f p1))), (3, .int (nI p1))], [.int 1], M42)) rfl rfl rfl ?_
                            refine ps_st (S' := (160, [(0, .ref m0), (1, .int (nI k)), (2, .int (nI (by1 f p1))), (3, .int (nI p1))], [.int 1], M42)) rfl rfl rfl ?_
                            exact ih.2.1 (k) (p1) (1) (E) (tx1) (cN1) (A1) M42 I17 R43 hR44 hEI29 hER48 hi22 hi23 hi24 hi25 hF_46 hY_47 hD_49 (by omega) (by omega) (htx) (hs) (Or.inl ⟨rfl, by unfold tgOk; omega⟩)
                          · have c_137 : ¬ (53 ≤ (nI mj)) := of_decide_eq_false c_137
                            have n_137 : ¬ (53 ≤ mj) := fun h9 => c_137 ((le_nI (p := 53) (n := mj) (by decide) (by omega)).mpr h9)
                            refine ps_st (S' := (141, [(0, .ref m0), (1, .int (nI k)), (2, .int (nI (by1 f p1))), (3, .int (nI p1))], [.int (nI (by1 f p1))], M42)) rfl rfl rfl ?_
                            refine ps_st (S' := (143, [(0, .ref m0), (1, .int (nI k)), (2, .int (nI (by1 f p1))), (3, .int (nI p1))], [.int 17, .int (nI (by1 f p1))], M42)) rfl rfl rfl ?_
                            refine ps_if2 (S1 := (159, [(0, .ref m0), (1, .int (nI k)), (2, .int (nI (by1 f p1))), (3, .int (nI p1))], [], M42)) (S2 := (146, [(0, .ref m0), (1, .int (nI k)), (2, .int (nI (by1 f p1))), (3, .int (nI p1))], [], M42)) rfl rfl rfl (fun c_143 => ?_) (fun c_143 => ?_)
                            · have c_143 : ¬ (nI (by1 f p1)) = 17 := of_decide_eq_true c_143
                              have n_143 : ¬ (by1 f p1 = 17) := fun h9 => c_143 ((eq_nI (p := by1 f p1) (n := 17) (Nat.lt_trans (by1_lt _ _) (by decide)) (by decide)).mpr h9)
                              refine ps_st (S' := (160, [(0, .ref m0), (1, .int (nI k)), (2, .int (nI (by1 f p1))), (3, .int (nI p1))], [.int 0], M42)) rfl rfl rfl ?_
                              exact ih.2.1 (k) (p1) (0) (E) (tx1) (cN1) (A1) M42 I17 R43 hR44 hEI29 hER48 hi22 hi23 hi24 hi25 hF_46 hY_47 hD_49 (by omega) (by omega) (htx) (hs) (Or.inr ⟨rfl, by unfold tgOk; omega⟩)
                            · have c_143 : ¬ (¬ (nI (by1 f p1)) = 17) := of_decide_eq_false c_143
                              have n_143 : by1 f p1 = 17 := (eq_nI (p := by1 f p1) (n := 17) (Nat.lt_trans (by1_lt _ _) (by decide)) (by decide)).mp (Decidable.not_not.mp c_143)
                              refine ps_st (S' := (147, [(0, .ref m0), (1, .int (nI k)), (2, .int (nI (by1 f p1))), (3, .int (nI p1))], [.ref m0], M42)) rfl rfl rfl ?_
                              refine pr_int (j := 53) (S' := (150, [(0, .ref m0), (1, .int (nI k)), (2, .int (nI (by1 f p1))), (3, .int (nI p1))], [.int (nI mj)], M42)) rfl hR44 rfl hi25 rfl ?_
                              refine ps_st (S' := (152, [(0, .ref m0), (1, .int (nI k)), (2, .int (nI (by1 f p1))), (3, .int (nI p1))], [.int 55, .int (nI mj)], M42)) rfl rfl rfl ?_
                              refine ps_if2 (S1 := (159, [(0, .ref m0), (1, .int (nI k)), (2, .int (nI (by1 f p1))), (3, .int (nI p1))], [], M42)) (S2 := (155, [(0, .ref m0), (1, .int (nI k)), (2, .int (nI (by1 f p1))), (3, .int (nI p1))], [], M42)) rfl rfl rfl (fun c_152 => ?_) (fun c_152 => ?_)
                              · have c_152 : (nI mj) < 55 := of_decide_eq_true c_152
                                have n_152 : mj < 55 := (lt_nI (p := mj) (n := 55) (by omega) (by decide)).mp c_152
                                refine ps_st (S' := (160, [(0, .ref m0), (1, .int (nI k)), (2, .int (nI (by1 f p1))), (3, .int (nI p1))], [.int 0], M42)) rfl rfl rfl ?_
                                exact ih.2.1 (k) (p1) (0) (E) (tx1) (cN1) (A1) M42 I17 R43 hR44 hEI29 hER48 hi22 hi23 hi24 hi25 hF_46 hY_47 hD_49 (by omega) (by omega) (htx) (hs) (Or.inr ⟨rfl, by unfold tgOk; omega⟩)
                              · have c_152 : ¬ ((nI mj) < 55) := of_decide_eq_false c_152
                                have n_152 : ¬ (mj < 55) := fun h9 => c_152 ((lt_nI (p := mj) (n := 55) (by omega) (by decide)).mpr h9)
                                refine ps_st (S' := (156, [(0, .ref m0), (1, .int (nI k)), (2, .int (nI (by1 f p1))), (3, .int (nI p1))], [.int 1], M42)) rfl rfl rfl ?_
                                refine ps_st (S' := (160, [(0, .ref m0), (1, .int (nI k)), (2, .int (nI (by1 f p1))), (3, .int (nI p1))], [.int 1], M42)) rfl rfl rfl ?_
                                exact ih.2.1 (k) (p1) (1) (E) (tx1) (cN1) (A1) M42 I17 R43 hR44 hEI29 hER48 hi22 hi23 hi24 hi25 hF_46 hY_47 hD_49 (by omega) (by omega) (htx) (hs) (Or.inl ⟨rfl, by unfold tgOk; omega⟩)
                  · have c_101 : ¬ ((nI (by1 f p1)) = 16) := of_decide_eq_false c_101
                    have n_101 : ¬ (by1 f p1 = 16) := fun h9 => c_101 ((eq_nI (p := by1 f p1) (n := 16) (Nat.lt_trans (by1_lt _ _) (by decide)) (by decide)).mpr h9)
                    refine ps_st (S' := (105, [(0, .ref m0), (1, .int (nI k)), (2, .int (nI (by1 f p1))), (3, .int (nI p1))], [.int (nI (by1 f p1))], M42)) rfl rfl rfl ?_
                    refine ps_st (S' := (107, [(0, .ref m0), (1, .int (nI k)), (2, .int (nI (by1 f p1))), (3, .int (nI p1))], [.int 18, .int (nI (by1 f p1))], M42)) rfl rfl rfl ?_
                    refine ps_if2 (S1 := (119, [(0, .ref m0), (1, .int (nI k)), (2, .int (nI (by1 f p1))), (3, .int (nI p1))], [], M42)) (S2 := (110, [(0, .ref m0), (1, .int (nI k)), (2, .int (nI (by1 f p1))), (3, .int (nI p1))], [], M42)) rfl rfl rfl (fun c_107 => ?_) (fun c_107 => ?_)
                    · have c_107 : ¬ (nI (by1 f p1)) = 18 := of_decide_eq_true c_107
                      have n_107 : ¬ (by1 f p1 = 18) := fun h9 => c_107 ((eq_nI (p := by1 f p1) (n := 18) (Nat.lt_trans (by1_lt _ _) (by decide)) (by decide)).mpr h9)
                      refine ps_st (S' := (120, [(0, .ref m0), (1, .int (nI k)), (2, .int (nI (by1 f p1))), (3, .int (nI p1))], [.int (nI (by1 f p1))], M42)) rfl rfl rfl ?_
                      refine ps_st (S' := (122, [(0, .ref m0), (1, .int (nI k)), (2, .int (nI (by1 f p1))), (3, .int (nI p1))], [.int 19, .int (nI (by1 f p1))], M42)) rfl rfl rfl ?_
                      refine ps_if2 (S1 := (131, [(0, .ref m0), (1, .int (nI k)), (2, .int (nI (by1 f p1))), (3, .int (nI p1))], [], M42)) (S2 := (125, [(0, .ref m0), (1, .int (nI k)), (2, .int (nI (by1 f p1))), (3, .int (nI p1))], [], M42)) rfl rfl rfl (fun c_122 => ?_) (fun c_122 => ?_)
                      · have c_122 : (nI (by1 f p1)) = 19 := of_decide_eq_true c_122
                        have n_122 : by1 f p1 = 19 := (eq_nI (p := by1 f p1) (n := 19) (Nat.lt_trans (by1_lt _ _) (by decide)) (by decide)).mp c_122
                        refine ps_st (S' := (132, [(0, .ref m0), (1, .int (nI k)), (2, .int (nI (by1 f p1))), (3, .int (nI p1))], [.ref m0], M42)) rfl rfl rfl ?_
                        refine pr_int (j := 53) (S' := (135, [(0, .ref m0), (1, .int (nI k)), (2, .int (nI (by1 f p1))), (3, .int (nI p1))], [.int (nI mj)], M42)) rfl hR44 rfl hi25 rfl ?_
                        refine ps_st (S' := (137, [(0, .ref m0), (1, .int (nI k)), (2, .int (nI (by1 f p1))), (3, .int (nI p1))], [.int 53, .int (nI mj)], M42)) rfl rfl rfl ?_
                        refine ps_if2 (S1 := (155, [(0, .ref m0), (1, .int (nI k)), (2, .int (nI (by1 f p1))), (3, .int (nI p1))], [], M42)) (S2 := (140, [(0, .ref m0), (1, .int (nI k)), (2, .int (nI (by1 f p1))), (3, .int (nI p1))], [], M42)) rfl rfl rfl (fun c_137 => ?_) (fun c_137 => ?_)
                        · have c_137 : 53 ≤ (nI mj) := of_decide_eq_true c_137
                          have n_137 : 53 ≤ mj := (le_nI (p := 53) (n := mj) (by decide) (by omega)).mp c_137
                          refine ps_st (S' := (156, [(0, .ref m0), (1, .int (nI k)), (2, .int (nI (by1 f p1))), (3, .int (nI p1))], [.int 1], M42)) rfl rfl rfl ?_
                          refine ps_st (S' := (160, [(0, .ref m0), (1, .int (nI k)), (2, .int (nI (by1 f p1))), (3, .int (nI p1))], [.int 1], M42)) rfl rfl rfl ?_
                          exact ih.2.1 (k) (p1) (1) (E) (tx1) (cN1) (A1) M42 I17 R43 hR44 hEI29 hER48 hi22 hi23 hi24 hi25 hF_46 hY_47 hD_49 (by omega) (by omega) (htx) (hs) (Or.inl ⟨rfl, by unfold tgOk; omega⟩)
                        · have c_137 : ¬ (53 ≤ (nI mj)) := of_decide_eq_false c_137
                          have n_137 : ¬ (53 ≤ mj) := fun h9 => c_137 ((le_nI (p := 53) (n := mj) (by decide) (by omega)).mpr h9)
                          refine ps_st (S' := (141, [(0, .ref m0), (1, .int (nI k)), (2, .int (nI (by1 f p1))), (3, .int (nI p1))], [.int (nI (by1 f p1))], M42)) rfl rfl rfl ?_
                          refine ps_st (S' := (143, [(0, .ref m0), (1, .int (nI k)), (2, .int (nI (by1 f p1))), (3, .int (nI p1))], [.int 17, .int (nI (by1 f p1))], M42)) rfl rfl rfl ?_
                          refine ps_if2 (S1 := (159, [(0, .ref m0), (1, .int (nI k)), (2, .int (nI (by1 f p1))), (3, .int (nI p1))], [], M42)) (S2 := (146, [(0, .ref m0), (1, .int (nI k)), (2, .int (nI (by1 f p1))), (3, .int (nI p1))], [], M42)) rfl rfl rfl (fun c_143 => ?_) (fun c_143 => ?_)
                          · have c_143 : ¬ (nI (by1 f p1)) = 17 := of_decide_eq_true c_143
                            have n_143 : ¬ (by1 f p1 = 17) := fun h9 => c_143 ((eq_nI (p := by1 f p1) (n := 17) (Nat.lt_trans (by1_lt _ _) (by decide)) (by decide)).mpr h9)
                            refine ps_st (S' := (160, [(0, .ref m0), (1, .int (nI k)), (2, .int (nI (by1 f p1))), (3, .int (nI p1))], [.int 0], M42)) rfl rfl rfl ?_
                            exact ih.2.1 (k) (p1) (0) (E) (tx1) (cN1) (A1) M42 I17 R43 hR44 hEI29 hER48 hi22 hi23 hi24 hi25 hF_46 hY_47 hD_49 (by omega) (by omega) (htx) (hs) (Or.inr ⟨rfl, by unfold tgOk; omega⟩)
                          · have c_143 : ¬ (¬ (nI (by1 f p1)) = 17) := of_decide_eq_false c_143
                            have n_143 : by1 f p1 = 17 := (eq_nI (p := by1 f p1) (n := 17) (Nat.lt_trans (by1_lt _ _) (by decide)) (by decide)).mp (Decidable.not_not.mp c_143)
                            refine ps_st (S' := (147, [(0, .ref m0), (1, .int (nI k)), (2, .int (nI (by1 f p1))), (3, .int (nI p1))], [.ref m0], M42)) rfl rfl rfl ?_
                            refine pr_int (j := 53) (S' := (150, [(0, .ref m0), (1, .int (nI k)), (2, .int (nI (by1 f p1))), (3, .int (nI p1))], [.int (nI mj)], M42)) rfl hR44 rfl hi25 rfl ?_
                            refine ps_st (S' := (152, [(0, .ref m0), (1, .int (nI k)), (2, .int (nI (by1 f p1))), (3, .int (nI p1))], [.int 55, .int (nI mj)], M42)) rfl rfl rfl ?_
                            refine ps_if2 (S1 := (159, [(0, .ref m0), (1, .int (nI k)), (2, .int (nI (by1 f p1))), (3, .int (nI p1))], [], M42)) (S2 := (155, [(0, .ref m0), (1, .int (nI k)), (2, .int (nI (by1 f p1))), (3, .int (nI p1))], [], M42)) rfl rfl rfl (fun c_152 => ?_) (fun c_152 => ?_)
                            · have c_152 : (nI mj) < 55 := of_decide_eq_true c_152
                              have n_152 : mj < 55 := (lt_nI (p := mj) (n := 55) (by omega) (by decide)).mp c_152
                              refine ps_st (S' := (160, [(0, .ref m0), (1, .int (nI k)), (2, .int (nI (by1 f p1))), (3, .int (nI p1))], [.int 0], M42)) rfl rfl rfl ?_
                              exact ih.2.1 (k) (p1) (0) (E) (tx1) (cN1) (A1) M42 I17 R43 hR44 hEI29 hER48 hi22 hi23 hi24 hi25 hF_46 hY_47 hD_49 (by omega) (by omega) (htx) (hs) (Or.inr ⟨rfl, by unfold tgOk; omega⟩)
                            · have c_152 : ¬ ((nI mj) < 55) := of_decide_eq_false c_152
                              have n_152 : ¬ (mj < 55) := fun h9 => c_152 ((lt_nI (p := mj) (n := 55) (by omega) (by decide)).mpr h9)
                              refine ps_st (S' := (156, [(0, .ref m0), (1, .int (nI k)), (2, .int (nI (by1 f p1))), (3, .int (nI p1))], [.int 1], M42)) rfl rfl rfl ?_
                              refine ps_st (S' := (160, [(0, .ref m0), (1, .int (nI k)), (2, .int (nI (by1 f p1))), (3, .int (nI p1))], [.int 1], M42)) rfl rfl rfl ?_
                              exact ih.2.1 (k) (p1) (1) (E) (tx1) (cN1) (A1) M42 I17 R43 hR44 hEI29 hER48 hi22 hi23 hi24 hi25 hF_46 hY_47 hD_49 (by omega) (by omega) (htx) (hs) (Or.inl ⟨rfl, by unfold tgOk; omega⟩)
                      · have c_122 : ¬ ((nI (by1 f p1)) = 19) := of_decide_eq_false c_122
                        have n_122 : ¬ (by1 f p1 = 19) := fun h9 => c_122 ((eq_nI (p := by1 f p1) (n := 19) (Nat.lt_trans (by1_lt _ _) (by decide)) (by decide)).mpr h9)
                        refine ps_st (S' := (126, [(0, .ref m0), (1, .int (nI k)), (2, .int (nI (by1 f p1))), (3, .int (nI p1))], [.int (nI (by1 f p1))], M42)) rfl rfl rfl ?_
                        refine ps_st (S' := (128, [(0, .ref m0), (1, .int (nI k)), (2, .int (nI (by1 f p1))), (3, .int (nI p1))], [.int 20, .int (nI (by1 f p1))], M42)) rfl rfl rfl ?_
                        refine ps_if2 (S1 := (140, [(0, .ref m0), (1, .int (nI k)), (2, .int (nI (by1 f p1))), (3, .int (nI p1))], [], M42)) (S2 := (131, [(0, .ref m0), (1, .int (nI k)), (2, .int (nI (by1 f p1))), (3, .int (nI p1))], [], M42)) rfl rfl rfl (fun c_128 => ?_) (fun c_128 => ?_)
                        · have c_128 : ¬ (nI (by1 f p1)) = 20 := of_decide_eq_true c_128
                          have n_128 : ¬ (by1 f p1 = 20) := fun h9 => c_128 ((eq_nI (p := by1 f p1) (n := 20) (Nat.lt_trans (by1_lt _ _) (by decide)) (by decide)).mpr h9)
                          refine ps_st (S' := (141, [(0, .ref m0), (1, .int (nI k)), (2, .int (nI (by1 f p1))), (3, .int (nI p1))], [.int (nI (by1 f p1))], M42)) rfl rfl rfl ?_
                          refine ps_st (S' := (143, [(0, .ref m0), (1, .int (nI k)), (2, .int (nI (by1 f p1))), (3, .int (nI p1))], [.int 17, .int (nI (by1 f p1))], M42)) rfl rfl rfl ?_
                          refine ps_if2 (S1 := (159, [(0, .ref m0), (1, .int (nI k)), (2, .int (nI (by1 f p1))), (3, .int (nI p1))], [], M42)) (S2 := (146, [(0, .ref m0), (1, .int (nI k)), (2, .int (nI (by1 f p1))), (3, .int (nI p1))], [], M42)) rfl rfl rfl (fun c_143 => ?_) (fun c_143 => ?_)
                          · have c_143 : ¬ (nI (by1 f p1)) = 17 := of_decide_eq_true c_143
                            have n_143 : ¬ (by1 f p1 = 17) := fun h9 => c_143 ((eq_nI (p := by1 f p1) (n := 17) (Nat.lt_trans (by1_lt _ _) (by decide)) (by decide)).mpr h9)
                            refine ps_st (S' := (160, [(0, .ref m0), (1, .int (nI k)), (2, .int (nI (by1 f p1))), (3, .int (nI p1))], [.int 0], M42)) rfl rfl rfl ?_
                            exact ih.2.1 (k) (p1) (0) (E) (tx1) (cN1) (A1) M42 I17 R43 hR44 hEI29 hER48 hi22 hi23 hi24 hi25 hF_46 hY_47 hD_49 (by omega) (by omega) (htx) (hs) (Or.inr ⟨rfl, by unfold tgOk; omega⟩)
                          · have c_143 : ¬ (¬ (nI (by1 f p1)) = 17) := of_decide_eq_false c_143
                            have n_143 : by1 f p1 = 17 := (eq_nI (p := by1 f p1) (n := 17) (Nat.lt_trans (by1_lt _ _) (by decide)) (by decide)).mp (Decidable.not_not.mp c_143)
                            refine ps_st (S' := (147, [(0, .ref m0), (1, .int (nI k)), (2, .int (nI (by1 f p1))), (3, .int (nI p1))], [.ref m0], M42)) rfl rfl rfl ?_
                            refine pr_int (j := 53) (S' := (150, [(0, .ref m0), (1, .int (nI k)), (2, .int (nI (by1 f p1))), (3, .int (nI p1))], [.int (nI mj)], M42)) rfl hR44 rfl hi25 rfl ?_
                            refine ps_st (S' := (152, [(0, .ref m0), (1, .int (nI k)), (2, .int (nI (by1 f p1))), (3, .int (nI p1))], [.int 55, .int (nI mj)], M42)) rfl rfl rfl ?_
                            refine ps_if2 (S1 := (159, [(0, .ref m0), (1, .int (nI k)), (2, .int (nI (by1 f p1))), (3, .int (nI p1))], [], M42)) (S2 := (155, [(0, .ref m0), (1, .int (nI k)), (2, .int (nI (by1 f p1))), (3, .int (nI p1))], [], M42)) rfl rfl rfl (fun c_152 => ?_) (fun c_152 => ?_)
                            · have c_152 : (nI mj) < 55 := of_decide_eq_true c_152
                              have n_152 : mj < 55 := (lt_nI (p := mj) (n := 55) (by omega) (by decide)).mp c_152
                              refine ps_st (S' := (160, [(0, .ref m0), (1, .int (nI k)), (2, .int (nI (by1 f p1))), (3, .int (nI p1))], [.int 0], M42)) rfl rfl rfl ?_
                              exact ih.2.1 (k) (p1) (0) (E) (tx1) (cN1) (A1) M42 I17 R43 hR44 hEI29 hER48 hi22 hi23 hi24 hi25 hF_46 hY_47 hD_49 (by omega) (by omega) (htx) (hs) (Or.inr ⟨rfl, by unfold tgOk; omega⟩)
                            · have c_152 : ¬ ((nI mj) < 55) := of_decide_eq_false c_152
                              have n_152 : ¬ (mj < 55) := fun h9 => c_152 ((lt_nI (p := mj) (n := 55) (by omega) (by decide)).mpr h9)
                              refine ps_st (S' := (156, [(0, .ref m0), (1, .int (nI k)), (2, .int (nI (by1 f p1))), (3, .int (nI p1))], [.int 1], M42)) rfl rfl rfl ?_
                              refine ps_st (S' := (160, [(0, .ref m0), (1, .int (nI k)), (2, .int (nI (by1 f p1))), (3, .int (nI p1))], [.int 1], M42)) rfl rfl rfl ?_
                              exact ih.2.1 (k) (p1) (1) (E) (tx1) (cN1) (A1) M42 I17 R43 hR44 hEI29 hER48 hi22 hi23 hi24 hi25 hF_46 hY_47 hD_49 (by omega) (by omega) (htx) (hs) (Or.inl ⟨rfl, by unfold tgOk; omega⟩)
                        · have c_128 : ¬ (¬ (nI (by1 f p1)) = 20) := of_decide_eq_false c_128
                          have n_128 : by1 f p1 = 20 := (eq_nI (p := by1 f p1) (n := 20) (Nat.lt_trans (by1_lt _ _) (by decide)) (by decide)).mp (Decidable.not_not.mp c_128)
                          refine ps_st (S' := (132, [(0, .ref m0), (1, .int (nI k)), (2, .int (nI (by1 f p1))), (3, .int (nI p1))], [.ref m0], M42)) rfl rfl rfl ?_
                          refine pr_int (j := 53) (S' := (135, [(0, .ref m0), (1, .int (nI k)), (2, .int (nI (by1 f p1))), (3, .int (nI p1))], [.int (nI mj)], M42)) rfl hR44 rfl hi25 rfl ?_
                          refine ps_st (S' := (137, [(0, .ref m0), (1, .int (nI k)), (2, .int (nI (by1 f p1))), (3, .int (nI p1))], [.int 53, .int (nI mj)], M42)) rfl rfl rfl ?_
                          refine ps_if2 (S1 := (155, [(0, .ref m0), (1, .int (nI k)), (2, .int (nI (by1 f p1))), (3, .int (nI p1))], [], M42)) (S2 := (140, [(0, .ref m0), (1, .int (nI k)), (2, .int (nI (by1 f p1))), (3, .int (nI p1))], [], M42)) rfl rfl rfl (fun c_137 => ?_) (fun c_137 => ?_)
                          · have c_137 : 53 ≤ (nI mj) := of_decide_eq_true c_137
                            have n_137 : 53 ≤ mj := (le_nI (p := 53) (n := mj) (by decide) (by omega)).mp c_137
                            refine ps_st (S' := (156, [(0, .ref m0), (1, .int (nI k)), (2, .int (nI (by1 f p1))), (3, .int (nI p1))], [.int 1], M42)) rfl rfl rfl ?_
                            refine ps_st (S' := (160, [(0, .ref m0), (1, .int (nI k)), (2, .int (nI (by1 f p1))), (3, .int (nI p1))], [.int 1], M42)) rfl rfl rfl ?_
                            exact ih.2.1 (k) (p1) (1) (E) (tx1) (cN1) (A1) M42 I17 R43 hR44 hEI29 hER48 hi22 hi23 hi24 hi25 hF_46 hY_47 hD_49 (by omega) (by omega) (htx) (hs) (Or.inl ⟨rfl, by unfold tgOk; omega⟩)
                          · have c_137 : ¬ (53 ≤ (nI mj)) := of_decide_eq_false c_137
                            have n_137 : ¬ (53 ≤ mj) := fun h9 => c_137 ((le_nI (p := 53) (n := mj) (by decide) (by omega)).mpr h9)
                            refine ps_st (S' := (141, [(0, .ref m0), (1, .int (nI k)), (2, .int (nI (by1 f p1))), (3, .int (nI p1))], [.int (nI (by1 f p1))], M42)) rfl rfl rfl ?_
                            refine ps_st (S' := (143, [(0, .ref m0), (1, .int (nI k)), (2, .int (nI (by1 f p1))), (3, .int (nI p1))], [.int 17, .int (nI (by1 f p1))], M42)) rfl rfl rfl ?_
                            refine ps_if2 (S1 := (159, [(0, .ref m0), (1, .int (nI k)), (2, .int (nI (by1 f p1))), (3, .int (nI p1))], [], M42)) (S2 := (146, [(0, .ref m0), (1, .int (nI k)), (2, .int (nI (by1 f p1))), (3, .int (nI p1))], [], M42)) rfl rfl rfl (fun c_143 => ?_) (fun c_143 => ?_)
                            · have c_143 : ¬ (nI (by1 f p1)) = 17 := of_decide_eq_true c_143
                              have n_143 : ¬ (by1 f p1 = 17) := fun h9 => c_143 ((eq_nI (p := by1 f p1) (n := 17) (Nat.lt_trans (by1_lt _ _) (by decide)) (by decide)).mpr h9)
                              refine ps_st (S' := (160, [(0, .ref m0), (1, .int (nI k)), (2, .int (nI (by1 f p1))), (3, .int (nI p1))], [.int 0], M42)) rfl rfl rfl ?_
                              exact ih.2.1 (k) (p1) (0) (E) (tx1) (cN1) (A1) M42 I17 R43 hR44 hEI29 hER48 hi22 hi23 hi24 hi25 hF_46 hY_47 hD_49 (by omega) (by omega) (htx) (hs) (Or.inr ⟨rfl, by unfold tgOk; omega⟩)
                            · have c_143 : ¬ (¬ (nI (by1 f p1)) = 17) := of_decide_eq_false c_143
                              have n_143 : by1 f p1 = 17 := (eq_nI (p := by1 f p1) (n := 17) (Nat.lt_trans (by1_lt _ _) (by decide)) (by decide)).mp (Decidable.not_not.mp c_143)
                              refine ps_st (S' := (147, [(0, .ref m0), (1, .int (nI k)), (2, .int (nI (by1 f p1))), (3, .int (nI p1))], [.ref m0], M42)) rfl rfl rfl ?_
                              refine pr_int (j := 53) (S' := (150, [(0, .ref m0), (1, .int (nI k)), (2, .int (nI (by1 f p1))), (3, .int (nI p1))], [.int (nI mj)], M42)) rfl hR44 rfl hi25 rfl ?_
                              refine ps_st (S' := (152, [(0, .ref m0), (1, .int (nI k)), (2, .int (nI (by1 f p1))), (3, .int (nI p1))], [.int 55, .int (nI mj)], M42)) rfl rfl rfl ?_
                              refine ps_if2 (S1 := (159, [(0, .ref m0), (1, .int (nI k)), (2, .int (nI (by1 f p1))), (3, .int (nI p1))], [], M42)) (S2 := (155, [(0, .ref m0), (1, .int (nI k)), (2, .int (nI (by1 f p1))), (3, .int (nI p1))], [], M42)) rfl rfl rfl (fun c_152 => ?_) (fun c_152 => ?_)
                              · have c_152 : (nI mj) < 55 := of_decide_eq_true c_152
                                have n_152 : mj < 55 := (lt_nI (p := mj) (n := 55) (by omega) (by decide)).mp c_152
                                refine ps_st (S' := (160, [(0, .ref m0), (1, .int (nI k)), (2, .int (nI (by1 f p1))), (3, .int (nI p1))], [.int 0], M42)) rfl rfl rfl ?_
                                exact ih.2.1 (k) (p1) (0) (E) (tx1) (cN1) (A1) M42 I17 R43 hR44 hEI29 hER48 hi22 hi23 hi24 hi25 hF_46 hY_47 hD_49 (by omega) (by omega) (htx) (hs) (Or.inr ⟨rfl, by unfold tgOk; omega⟩)
                              · have c_152 : ¬ ((nI mj) < 55) := of_decide_eq_false c_152
                                have n_152 : ¬ (mj < 55) := fun h9 => c_152 ((lt_nI (p := mj) (n := 55) (by omega) (by decide)).mpr h9)
                                refine ps_st (S' := (156, [(0, .ref m0), (1, .int (nI k)), (2, .int (nI (by1 f p1))), (3, .int (nI p1))], [.int 1], M42)) rfl rfl rfl ?_
                                refine ps_st (S' := (160, [(0, .ref m0), (1, .int (nI k)), (2, .int (nI (by1 f p1))), (3, .int (nI p1))], [.int 1], M42)) rfl rfl rfl ?_
                                exact ih.2.1 (k) (p1) (1) (E) (tx1) (cN1) (A1) M42 I17 R43 hR44 hEI29 hER48 hi22 hi23 hi24 hi25 hF_46 hY_47 hD_49 (by omega) (by omega) (htx) (hs) (Or.inl ⟨rfl, by unfold tgOk; omega⟩)
                    · have c_107 : ¬ (¬ (nI (by1 f p1)) = 18) := of_decide_eq_false c_107
                      have n_107 : by1 f p1 = 18 := (eq_nI (p := by1 f p1) (n := 18) (Nat.lt_trans (by1_lt _ _) (by decide)) (by decide)).mp (Decidable.not_not.mp c_107)
                      refine ps_st (S' := (111, [(0, .ref m0), (1, .int (nI k)), (2, .int (nI (by1 f p1))), (3, .int (nI p1))], [.ref m0], M42)) rfl rfl rfl ?_
                      refine pr_int (j := 53) (S' := (114, [(0, .ref m0), (1, .int (nI k)), (2, .int (nI (by1 f p1))), (3, .int (nI p1))], [.int (nI mj)], M42)) rfl hR44 rfl hi25 rfl ?_
                      refine ps_st (S' := (116, [(0, .ref m0), (1, .int (nI k)), (2, .int (nI (by1 f p1))), (3, .int (nI p1))], [.int 51, .int (nI mj)], M42)) rfl rfl rfl ?_
                      refine ps_if2 (S1 := (155, [(0, .ref m0), (1, .int (nI k)), (2, .int (nI (by1 f p1))), (3, .int (nI p1))], [], M42)) (S2 := (119, [(0, .ref m0), (1, .int (nI k)), (2, .int (nI (by1 f p1))), (3, .int (nI p1))], [], M42)) rfl rfl rfl (fun c_116 => ?_) (fun c_116 => ?_)
                      · have c_116 : 51 ≤ (nI mj) := of_decide_eq_true c_116
                        have n_116 : 51 ≤ mj := (le_nI (p := 51) (n := mj) (by decide) (by omega)).mp c_116
                        refine ps_st (S' := (156, [(0, .ref m0), (1, .int (nI k)), (2, .int (nI (by1 f p1))), (3, .int (nI p1))], [.int 1], M42)) rfl rfl rfl ?_
                        refine ps_st (S' := (160, [(0, .ref m0), (1, .int (nI k)), (2, .int (nI (by1 f p1))), (3, .int (nI p1))], [.int 1], M42)) rfl rfl rfl ?_
                        exact ih.2.1 (k) (p1) (1) (E) (tx1) (cN1) (A1) M42 I17 R43 hR44 hEI29 hER48 hi22 hi23 hi24 hi25 hF_46 hY_47 hD_49 (by omega) (by omega) (htx) (hs) (Or.inl ⟨rfl, by unfold tgOk; omega⟩)
                      · have c_116 : ¬ (51 ≤ (nI mj)) := of_decide_eq_false c_116
                        have n_116 : ¬ (51 ≤ mj) := fun h9 => c_116 ((le_nI (p := 51) (n := mj) (by decide) (by omega)).mpr h9)
                        refine ps_st (S' := (120, [(0, .ref m0), (1, .int (nI k)), (2, .int (nI (by1 f p1))), (3, .int (nI p1))], [.int (nI (by1 f p1))], M42)) rfl rfl rfl ?_
                        refine ps_st (S' := (122, [(0, .ref m0), (1, .int (nI k)), (2, .int (nI (by1 f p1))), (3, .int (nI p1))], [.int 19, .int (nI (by1 f p1))], M42)) rfl rfl rfl ?_
                        refine ps_if2 (S1 := (131, [(0, .ref m0), (1, .int (nI k)), (2, .int (nI (by1 f p1))), (3, .int (nI p1))], [], M42)) (S2 := (125, [(0, .ref m0), (1, .int (nI k)), (2, .int (nI (by1 f p1))), (3, .int (nI p1))], [], M42)) rfl rfl rfl (fun c_122 => ?_) (fun c_122 => ?_)
                        · have c_122 : (nI (by1 f p1)) = 19 := of_decide_eq_true c_122
                          have n_122 : by1 f p1 = 19 := (eq_nI (p := by1 f p1) (n := 19) (Nat.lt_trans (by1_lt _ _) (by decide)) (by decide)).mp c_122
                          refine ps_st (S' := (132, [(0, .ref m0), (1, .int (nI k)), (2, .int (nI (by1 f p1))), (3, .int (nI p1))], [.ref m0], M42)) rfl rfl rfl ?_
                          refine pr_int (j := 53) (S' := (135, [(0, .ref m0), (1, .int (nI k)), (2, .int (nI (by1 f p1))), (3, .int (nI p1))], [.int (nI mj)], M42)) rfl hR44 rfl hi25 rfl ?_
                          refine ps_st (S' := (137, [(0, .ref m0), (1, .int (nI k)), (2, .int (nI (by1 f p1))), (3, .int (nI p1))], [.int 53, .int (nI mj)], M42)) rfl rfl rfl ?_
                          refine ps_if2 (S1 := (155, [(0, .ref m0), (1, .int (nI k)), (2, .int (nI (by1 f p1))), (3, .int (nI p1))], [], M42)) (S2 := (140, [(0, .ref m0), (1, .int (nI k)), (2, .int (nI (by1 f p1))), (3, .int (nI p1))], [], M42)) rfl rfl rfl (fun c_137 => ?_) (fun c_137 => ?_)
                          · have c_137 : 53 ≤ (nI mj) := of_decide_eq_true c_137
                            have n_137 : 53 ≤ mj := (le_nI (p := 53) (n := mj) (by decide) (by omega)).mp c_137
                            refine ps_st (S' := (156, [(0, .ref m0), (1, .int (nI k)), (2, .int (nI (by1 f p1))), (3, .int (nI p1))], [.int 1], M42)) rfl rfl rfl ?_
                            refine ps_st (S' := (160, [(0, .ref m0), (1, .int (nI k)), (2, .int (nI (by1 f p1))), (3, .int (nI p1))], [.int 1], M42)) rfl rfl rfl ?_
                            exact ih.2.1 (k) (p1) (1) (E) (tx1) (cN1) (A1) M42 I17 R43 hR44 hEI29 hER48 hi22 hi23 hi24 hi25 hF_46 hY_47 hD_49 (by omega) (by omega) (htx) (hs) (Or.inl ⟨rfl, by unfold tgOk; omega⟩)
                          · have c_137 : ¬ (53 ≤ (nI mj)) := of_decide_eq_false c_137
                            have n_137 : ¬ (53 ≤ mj) := fun h9 => c_137 ((le_nI (p := 53) (n := mj) (by decide) (by omega)).mpr h9)
                            refine ps_st (S' := (141, [(0, .ref m0), (1, .int (nI k)), (2, .int (nI (by1 f p1))), (3, .int (nI p1))], [.int (nI (by1 f p1))], M42)) rfl rfl rfl ?_
                            refine ps_st (S' := (143, [(0, .ref m0), (1, .int (nI k)), (2, .int (nI (by1 f p1))), (3, .int (nI p1))], [.int 17, .int (nI (by1 f p1))], M42)) rfl rfl rfl ?_
                            refine ps_if2 (S1 := (159, [(0, .ref m0), (1, .int (nI k)), (2, .int (nI (by1 f p1))), (3, .int (nI p1))], [], M42)) (S2 := (146, [(0, .ref m0), (1, .int (nI k)), (2, .int (nI (by1 f p1))), (3, .int (nI p1))], [], M42)) rfl rfl rfl (fun c_143 => ?_) (fun c_143 => ?_)
                            · have c_143 : ¬ (nI (by1 f p1)) = 17 := of_decide_eq_true c_143
                              have n_143 : ¬ (by1 f p1 = 17) := fun h9 => c_143 ((eq_nI (p := by1 f p1) (n := 17) (Nat.lt_trans (by1_lt _ _) (by decide)) (by decide)).mpr h9)
                              refine ps_st (S' := (160, [(0, .ref m0), (1, .int (nI k)), (2, .int (nI (by1 f p1))), (3, .int (nI p1))], [.int 0], M42)) rfl rfl rfl ?_
                              exact ih.2.1 (k) (p1) (0) (E) (tx1) (cN1) (A1) M42 I17 R43 hR44 hEI29 hER48 hi22 hi23 hi24 hi25 hF_46 hY_47 hD_49 (by omega) (by omega) (htx) (hs) (Or.inr ⟨rfl, by unfold tgOk; omega⟩)
                            · have c_143 : ¬ (¬ (nI (by1 f p1)) = 17) := of_decide_eq_false c_143
                              have n_143 : by1 f p1 = 17 := (eq_nI (p := by1 f p1) (n := 17) (Nat.lt_trans (by1_lt _ _) (by decide)) (by decide)).mp (Decidable.not_not.mp c_143)
                              refine ps_st (S' := (147, [(0, .ref m0), (1, .int (nI k)), (2, .int (nI (by1 f p1))), (3, .int (nI p1))], [.ref m0], M42)) rfl rfl rfl ?_
                              refine pr_int (j := 53) (S' := (150, [(0, .ref m0), (1, .int (nI k)), (2, .int (nI (by1 f p1))), (3, .int (nI p1))], [.int (nI mj)], M42)) rfl hR44 rfl hi25 rfl ?_
                              refine ps_st (S' := (152, [(0, .ref m0), (1, .int (nI k)), (2, .int (nI (by1 f p1))), (3, .int (nI p1))], [.int 55, .int (nI mj)], M42)) rfl rfl rfl ?_
                              refine ps_if2 (S1 := (159, [(0, .ref m0), (1, .int (nI k)), (2, .int (nI (by1 f p1))), (3, .int (nI p1))], [], M42)) (S2 := (155, [(0, .ref m0), (1, .int (nI k)), (2, .int (nI (by1 f p1))), (3, .int (nI p1))], [], M42)) rfl rfl rfl (fun c_152 => ?_) (fun c_152 => ?_)
                              · have c_152 : (nI mj) < 55 := of_decide_eq_true c_152
                                have n_152 : mj < 55 := (lt_nI (p := mj) (n := 55) (by omega) (by decide)).mp c_152
                                refine ps_st (S' := (160, [(0, .ref m0), (1, .int (nI k)), (2, .int (nI (by1 f p1))), (3, .int (nI p1))], [.int 0], M42)) rfl rfl rfl ?_
                                exact ih.2.1 (k) (p1) (0) (E) (tx1) (cN1) (A1) M42 I17 R43 hR44 hEI29 hER48 hi22 hi23 hi24 hi25 hF_46 hY_47 hD_49 (by omega) (by omega) (htx) (hs) (Or.inr ⟨rfl, by unfold tgOk; omega⟩)
                              · have c_152 : ¬ ((nI mj) < 55) := of_decide_eq_false c_152
                                have n_152 : ¬ (mj < 55) := fun h9 => c_152 ((lt_nI (p := mj) (n := 55) (by omega) (by decide)).mpr h9)
                                refine ps_st (S' := (156, [(0, .ref m0), (1, .int (nI k)), (2, .int (nI (by1 f p1))), (3, .int (nI p1))], [.int 1], M42)) rfl rfl rfl ?_
                                refine ps_st (S' := (160, [(0, .ref m0), (1, .int (nI k)), (2, .int (nI (by1 f p1))), (3, .int (nI p1))], [.int 1], M42)) rfl rfl rfl ?_
                                exact ih.2.1 (k) (p1) (1) (E) (tx1) (cN1) (A1) M42 I17 R43 hR44 hEI29 hER48 hi22 hi23 hi24 hi25 hF_46 hY_47 hD_49 (by omega) (by omega) (htx) (hs) (Or.inl ⟨rfl, by unfold tgOk; omega⟩)
                        · have c_122 : ¬ ((nI (by1 f p1)) = 19) := of_decide_eq_false c_122
                          have n_122 : ¬ (by1 f p1 = 19) := fun h9 => c_122 ((eq_nI (p := by1 f p1) (n := 19) (Nat.lt_trans (by1_lt _ _) (by decide)) (by decide)).mpr h9)
                          refine ps_st (S' := (126, [(0, .ref m0), (1, .int (nI k)), (2, .int (nI (by1 f p1))), (3, .int (nI p1))], [.int (nI (by1 f p1))], M42)) rfl rfl rfl ?_
                          refine ps_st (S' := (128, [(0, .ref m0), (1, .int (nI k)), (2, .int (nI (by1 f p1))), (3, .int (nI p1))], [.int 20, .int (nI (by1 f p1))], M42)) rfl rfl rfl ?_
                          refine ps_if2 (S1 := (140, [(0, .ref m0), (1, .int (nI k)), (2, .int (nI (by1 f p1))), (3, .int (nI p1))], [], M42)) (S2 := (131, [(0, .ref m0), (1, .int (nI k)), (2, .int (nI (by1 f p1))), (3, .int (nI p1))], [], M42)) rfl rfl rfl (fun c_128 => ?_) (fun c_128 => ?_)
                          · have c_128 : ¬ (nI (by1 f p1)) = 20 := of_decide_eq_true c_128
                            have n_128 : ¬ (by1 f p1 = 20) := fun h9 => c_128 ((eq_nI (p := by1 f p1) (n := 20) (Nat.lt_trans (by1_lt _ _) (by decide)) (by decide)).mpr h9)
                            refine ps_st (S' := (141, [(0, .ref m0), (1, .int (nI k)), (2, .int (nI (by1 f p1))), (3, .int (nI p1))], [.int (nI (by1 f p1))], M42)) rfl rfl rfl ?_
                            refine ps_st (S' := (143, [(0, .ref m0), (1, .int (nI k)), (2, .int (nI (by1 f p1))), (3, .int (nI p1))], [.int 17, .int (nI (by1 f p1))], M42)) rfl rfl rfl ?_
                            refine ps_if2 (S1 := (159, [(0, .ref m0), (1, .int (nI k)), (2, .int (nI (by1 f p1))), (3, .int (nI p1))], [], M42)) (S2 := (146, [(0, .ref m0), (1, .int (nI k)), (2, .int (nI (by1 f p1))), (3, .int (nI p1))], [], M42)) rfl rfl rfl (fun c_143 => ?_) (fun c_143 => ?_)
                            · have c_143 : ¬ (nI (by1 f p1)) = 17 := of_decide_eq_true c_143
                              have n_143 : ¬ (by1 f p1 = 17) := fun h9 => c_143 ((eq_nI (p := by1 f p1) (n := 17) (Nat.lt_trans (by1_lt _ _) (by decide)) (by decide)).mpr h9)
                              refine ps_st (S' := (160, [(0, .ref m0), (1, .int (nI k)), (2, .int (nI (by1 f p1))), (3, .int (nI p1))], [.int 0], M42)) rfl rfl rfl ?_
                              exact ih.2.1 (k) (p1) (0) (E) (tx1) (cN1) (A1) M42 I17 R43 hR44 hEI29 hER48 hi22 hi23 hi24 hi25 hF_46 hY_47 hD_49 (by omega) (by omega) (htx) (hs) (Or.inr ⟨rfl, by unfold tgOk; omega⟩)
                            · have c_143 : ¬ (¬ (nI (by1 f p1)) = 17) := of_decide_eq_false c_143
                              have n_143 : by1 f p1 = 17 := (eq_nI (p := by1 f p1) (n := 17) (Nat.lt_trans (by1_lt _ _) (by decide)) (by decide)).mp (Decidable.not_not.mp c_143)
                              refine ps_st (S' := (147, [(0, .ref m0), (1, .int (nI k)), (2, .int (nI (by1 f p1))), (3, .int (nI p1))], [.ref m0], M42)) rfl rfl rfl ?_
                              refine pr_int (j := 53) (S' := (150, [(0, .ref m0), (1, .int (nI k)), (2, .int (nI (by1 f p1))), (3, .int (nI p1))], [.int (nI mj)], M42)) rfl hR44 rfl hi25 rfl ?_
                              refine ps_st (S' := (152, [(0, .ref m0), (1, .int (nI k)), (2, .int (nI (by1 f p1))), (3, .int (nI p1))], [.int 55, .int (nI mj)], M42)) rfl rfl rfl ?_
                              refine ps_if2 (S1 := (159, [(0, .ref m0), (1, .int (nI k)), (2, .int (nI (by1 f p1))), (3, .int (nI p1))], [], M42)) (S2 := (155, [(0, .ref m0), (1, .int (nI k)), (2, .int (nI (by1 f p1))), (3, .int (nI p1))], [], M42)) rfl rfl rfl (fun c_152 => ?_) (fun c_152 => ?_)
                              · have c_152 : (nI mj) < 55 := of_decide_eq_true c_152
                                have n_152 : mj < 55 := (lt_nI (p := mj) (n := 55) (by omega) (by decide)).mp c_152
                                refine ps_st (S' := (160, [(0, .ref m0), (1, .int (nI k)), (2, .int (nI (by1 f p1))), (3, .int (nI p1))], [.int 0], M42)) rfl rfl rfl ?_
                                exact ih.2.1 (k) (p1) (0) (E) (tx1) (cN1) (A1) M42 I17 R43 hR44 hEI29 hER48 hi22 hi23 hi24 hi25 hF_46 hY_47 hD_49 (by omega) (by omega) (htx) (hs) (Or.inr ⟨rfl, by unfold tgOk; omega⟩)
                              · have c_152 : ¬ ((nI mj) < 55) := of_decide_eq_false c_152
                                have n_152 : ¬ (mj < 55) := fun h9 => c_152 ((lt_nI (p := mj) (n := 55) (by omega) (by decide)).mpr h9)
                                refine ps_st (S' := (156, [(0, .ref m0), (1, .int (nI k)), (2, .int (nI (by1 f p1))), (3, .int (nI p1))], [.int 1], M42)) rfl rfl rfl ?_
                                refine ps_st (S' := (160, [(0, .ref m0), (1, .int (nI k)), (2, .int (nI (by1 f p1))), (3, .int (nI p1))], [.int 1], M42)) rfl rfl rfl ?_
                                exact ih.2.1 (k) (p1) (1) (E) (tx1) (cN1) (A1) M42 I17 R43 hR44 hEI29 hER48 hi22 hi23 hi24 hi25 hF_46 hY_47 hD_49 (by omega) (by omega) (htx) (hs) (Or.inl ⟨rfl, by unfold tgOk; omega⟩)
                          · have c_128 : ¬ (¬ (nI (by1 f p1)) = 20) := of_decide_eq_false c_128
                            have n_128 : by1 f p1 = 20 := (eq_nI (p := by1 f p1) (n := 20) (Nat.lt_trans (by1_lt _ _) (by decide)) (by decide)).mp (Decidable.not_not.mp c_128)
                            refine ps_st (S' := (132, [(0, .ref m0), (1, .int (nI k)), (2, .int (nI (by1 f p1))), (3, .int (nI p1))], [.ref m0], M42)) rfl rfl rfl ?_
                            refine pr_int (j := 53) (S' := (135, [(0, .ref m0), (1, .int (nI k)), (2, .int (nI (by1 f p1))), (3, .int (nI p1))], [.int (nI mj)], M42)) rfl hR44 rfl hi25 rfl ?_
                            refine ps_st (S' := (137, [(0, .ref m0), (1, .int (nI k)), (2, .int (nI (by1 f p1))), (3, .int (nI p1))], [.int 53, .int (nI mj)], M42)) rfl rfl rfl ?_
                            refine ps_if2 (S1 := (155, [(0, .ref m0), (1, .int (nI k)), (2, .int (nI (by1 f p1))), (3, .int (nI p1))], [], M42)) (S2 := (140, [(0, .ref m0), (1, .int (nI k)), (2, .int (nI (by1 f p1))), (3, .int (nI p1))], [], M42)) rfl rfl rfl (fun c_137 => ?_) (fun c_137 => ?_)
                            · have c_137 : 53 ≤ (nI mj) := of_decide_eq_true c_137
                              have n_137 : 53 ≤ mj := (le_nI (p := 53) (n := mj) (by decide) (by omega)).mp c_137
                              refine ps_st (S' := (156, [(0, .ref m0), (1, .int (nI k)), (2, .int (nI (by1 f p1))), (3, .int (nI p1))], [.int 1], M42)) rfl rfl rfl ?_
                              refine ps_st (S' := (160, [(0, .ref m0), (1, .int (nI k)), (2, .int (nI (by1 f p1))), (3, .int (nI p1))], [.int 1], M42)) rfl rfl rfl ?_
                              exact ih.2.1 (k) (p1) (1) (E) (tx1) (cN1) (A1) M42 I17 R43 hR44 hEI29 hER48 hi22 hi23 hi24 hi25 hF_46 hY_47 hD_49 (by omega) (by omega) (htx) (hs) (Or.inl ⟨rfl, by unfold tgOk; omega⟩)
                            · have c_137 : ¬ (53 ≤ (nI mj)) := of_decide_eq_false c_137
                              have n_137 : ¬ (53 ≤ mj) := fun h9 => c_137 ((le_nI (p := 53) (n := mj) (by decide) (by omega)).mpr h9)
                              refine ps_st (S' := (141, [(0, .ref m0), (1, .int (nI k)), (2, .int (nI (by1 f p1))), (3, .int (nI p1))], [.int (nI (by1 f p1))], M42)) rfl rfl rfl ?_
                              refine ps_st (S' := (143, [(0, .ref m0), (1, .int (nI k)), (2, .int (nI (by1 f p1))), (3, .int (nI p1))], [.int 17, .int (nI (by1 f p1))], M42)) rfl rfl rfl ?_
                              refine ps_if2 (S1 := (159, [(0, .ref m0), (1, .int (nI k)), (2, .int (nI (by1 f p1))), (3, .int (nI p1))], [], M42)) (S2 := (146, [(0, .ref m0), (1, .int (nI k)), (2, .int (nI (by1 f p1))), (3, .int (nI p1))], [], M42)) rfl rfl rfl (fun c_143 => ?_) (fun c_143 => ?_)
                              · have c_143 : ¬ (nI (by1 f p1)) = 17 := of_decide_eq_true c_143
                                have n_143 : ¬ (by1 f p1 = 17) := fun h9 => c_143 ((eq_nI (p := by1 f p1) (n := 17) (Nat.lt_trans (by1_lt _ _) (by decide)) (by decide)).mpr h9)
                                refine ps_st (S' := (160, [(0, .ref m0), (1, .int (nI k)), (2, .int (nI (by1 f p1))), (3, .int (nI p1))], [.int 0], M42)) rfl rfl rfl ?_
                                exact ih.2.1 (k) (p1) (0) (E) (tx1) (cN1) (A1) M42 I17 R43 hR44 hEI29 hER48 hi22 hi23 hi24 hi25 hF_46 hY_47 hD_49 (by omega) (by omega) (htx) (hs) (Or.inr ⟨rfl, by unfold tgOk; omega⟩)
                              · have c_143 : ¬ (¬ (nI (by1 f p1)) = 17) := of_decide_eq_false c_143
                                have n_143 : by1 f p1 = 17 := (eq_nI (p := by1 f p1) (n := 17) (Nat.lt_trans (by1_lt _ _) (by decide)) (by decide)).mp (Decidable.not_not.mp c_143)
                                refine ps_st (S' := (147, [(0, .ref m0), (1, .int (nI k)), (2, .int (nI (by1 f p1))), (3, .int (nI p1))], [.ref m0], M42)) rfl rfl rfl ?_
                                refine pr_int (j := 53) (S' := (150, [(0, .ref m0), (1, .int (nI k)), (2, .int (nI (by1 f p1))), (3, .int (nI p1))], [.int (nI mj)], M42)) rfl hR44 rfl hi25 rfl ?_
                                refine ps_st (S' := (152, [(0, .ref m0), (1, .int (nI k)), (2, .int (nI (by1 f p1))), (3, .int (nI p1))], [.int 55, .int (nI mj)], M42)) rfl rfl rfl ?_
                                refine ps_if2 (S1 := (159, [(0, .ref m0), (1, .int (nI k)), (2, .int (nI (by1 f p1))), (3, .int (nI p1))], [], M42)) (S2 := (155, [(0, .ref m0), (1, .int (nI k)), (2, .int (nI (by1 f p1))), (3, .int (nI p1))], [], M42)) rfl rfl rfl (fun c_152 => ?_) (fun c_152 => ?_)
                                · have c_152 : (nI mj) < 55 := of_decide_eq_true c_152
                                  have n_152 : mj < 55 := (lt_nI (p := mj) (n := 55) (by omega) (by decide)).mp c_152
                                  refine ps_st (S' := (160, [(0, .ref m0), (1, .int (nI k)), (2, .int (nI (by1 f p1))), (3, .int (nI p1))], [.int 0], M42)) rfl rfl rfl ?_
                                  exact ih.2.1 (k) (p1) (0) (E) (tx1) (cN1) (A1) M42 I17 R43 hR44 hEI29 hER48 hi22 hi23 hi24 hi25 hF_46 hY_47 hD_49 (by omega) (by omega) (htx) (hs) (Or.inr ⟨rfl, by unfold tgOk; omega⟩)
                                · have c_152 : ¬ ((nI mj) < 55) := of_decide_eq_false c_152
                                  have n_152 : ¬ (mj < 55) := fun h9 => c_152 ((lt_nI (p := mj) (n := 55) (by omega) (by decide)).mpr h9)
                                  refine ps_st (S' := (156, [(0, .ref m0), (1, .int (nI k)), (2, .int (nI (by1 f p1))), (3, .int (nI p1))], [.int 1], M42)) rfl rfl rfl ?_
                                  refine ps_st (S' := (160, [(0, .ref m0), (1, .int (nI k)), (2, .int (nI (by1 f p1))), (3, .int (nI p1))], [.int 1], M42)) rfl rfl rfl ?_
                                  exact ih.2.1 (k) (p1) (1) (E) (tx1) (cN1) (A1) M42 I17 R43 hR44 hEI29 hER48 hi22 hi23 hi24 hi25 hF_46 hY_47 hD_49 (by omega) (by omega) (htx) (hs) (Or.inl ⟨rfl, by unfold tgOk; omega⟩)
              · have c_83 : ¬ ((nI (by1 f p1)) < 3) := of_decide_eq_false c_83
                have n_83 : ¬ (by1 f p1 < 3) := fun h9 => c_83 ((lt_nI (p := by1 f p1) (n := 3) (Nat.lt_trans (by1_lt _ _) (by decide)) (by decide)).mpr h9)
                refine ps_st (S' := (87, [(3, .int (nI p1)), (2, .int (nI (by1 f p1))), (0, .ref m0), (1, .int (nI k))], [.int (nI (by1 f p1))], M42)) rfl rfl rfl ?_
                refine ps_st (S' := (89, [(3, .int (nI p1)), (2, .int (nI (by1 f p1))), (0, .ref m0), (1, .int (nI k))], [.int 12, .int (nI (by1 f p1))], M42)) rfl rfl rfl ?_
                refine ps_if2 (S1 := (155, [(0, .ref m0), (1, .int (nI k)), (2, .int (nI (by1 f p1))), (3, .int (nI p1))], [], M42)) (S2 := (92, [(0, .ref m0), (1, .int (nI k)), (2, .int (nI (by1 f p1))), (3, .int (nI p1))], [], M42)) rfl rfl rfl (fun c_89 => ?_) (fun c_89 => ?_)
                · have c_89 : (nI (by1 f p1)) ≤ 12 := of_decide_eq_true c_89
                  have n_89 : by1 f p1 ≤ 12 := (le_nI (p := by1 f p1) (n := 12) (Nat.lt_trans (by1_lt _ _) (by decide)) (by decide)).mp c_89
                  refine ps_st (S' := (156, [(0, .ref m0), (1, .int (nI k)), (2, .int (nI (by1 f p1))), (3, .int (nI p1))], [.int 1], M42)) rfl rfl rfl ?_
                  refine ps_st (S' := (160, [(0, .ref m0), (1, .int (nI k)), (2, .int (nI (by1 f p1))), (3, .int (nI p1))], [.int 1], M42)) rfl rfl rfl ?_
                  exact ih.2.1 (k) (p1) (1) (E) (tx1) (cN1) (A1) M42 I17 R43 hR44 hEI29 hER48 hi22 hi23 hi24 hi25 hF_46 hY_47 hD_49 (by omega) (by omega) (htx) (hs) (Or.inl ⟨rfl, by unfold tgOk; omega⟩)
                · have c_89 : ¬ ((nI (by1 f p1)) ≤ 12) := of_decide_eq_false c_89
                  have n_89 : ¬ (by1 f p1 ≤ 12) := fun h9 => c_89 ((le_nI (p := by1 f p1) (n := 12) (Nat.lt_trans (by1_lt _ _) (by decide)) (by decide)).mpr h9)
                  refine ps_st (S' := (93, [(0, .ref m0), (1, .int (nI k)), (2, .int (nI (by1 f p1))), (3, .int (nI p1))], [.int (nI (by1 f p1))], M42)) rfl rfl rfl ?_
                  refine ps_st (S' := (95, [(0, .ref m0), (1, .int (nI k)), (2, .int (nI (by1 f p1))), (3, .int (nI p1))], [.int 15, .int (nI (by1 f p1))], M42)) rfl rfl rfl ?_
                  refine ps_if2 (S1 := (110, [(0, .ref m0), (1, .int (nI k)), (2, .int (nI (by1 f p1))), (3, .int (nI p1))], [], M42)) (S2 := (98, [(0, .ref m0), (1, .int (nI k)), (2, .int (nI (by1 f p1))), (3, .int (nI p1))], [], M42)) rfl rfl rfl (fun c_95 => ?_) (fun c_95 => ?_)
                  · have c_95 : (nI (by1 f p1)) = 15 := of_decide_eq_true c_95
                    have n_95 : by1 f p1 = 15 := (eq_nI (p := by1 f p1) (n := 15) (Nat.lt_trans (by1_lt _ _) (by decide)) (by decide)).mp c_95
                    refine ps_st (S' := (111, [(0, .ref m0), (1, .int (nI k)), (2, .int (nI (by1 f p1))), (3, .int (nI p1))], [.ref m0], M42)) rfl rfl rfl ?_
                    refine pr_int (j := 53) (S' := (114, [(0, .ref m0), (1, .int (nI k)), (2, .int (nI (by1 f p1))), (3, .int (nI p1))], [.int (nI mj)], M42)) rfl hR44 rfl hi25 rfl ?_
                    refine ps_st (S' := (116, [(0, .ref m0), (1, .int (nI k)), (2, .int (nI (by1 f p1))), (3, .int (nI p1))], [.int 51, .int (nI mj)], M42)) rfl rfl rfl ?_
                    refine ps_if2 (S1 := (155, [(0, .ref m0), (1, .int (nI k)), (2, .int (nI (by1 f p1))), (3, .int (nI p1))], [], M42)) (S2 := (119, [(0, .ref m0), (1, .int (nI k)), (2, .int (nI (by1 f p1))), (3, .int (nI p1))], [], M42)) rfl rfl rfl (fun c_116 => ?_) (fun c_116 => ?_)
                    · have c_116 : 51 ≤ (nI mj) := of_decide_eq_true c_116
                      have n_116 : 51 ≤ mj := (le_nI (p := 51) (n := mj) (by decide) (by omega)).mp c_116
                      refine ps_st (S' := (156, [(0, .ref m0), (1, .int (nI k)), (2, .int (nI (by1 f p1))), (3, .int (nI p1))], [.int 1], M42)) rfl rfl rfl ?_
                      refine ps_st (S' := (160, [(0, .ref m0), (1, .int (nI k)), (2, .int (nI (by1 f p1))), (3, .int (nI p1))], [.int 1], M42)) rfl rfl rfl ?_
                      exact ih.2.1 (k) (p1) (1) (E) (tx1) (cN1) (A1) M42 I17 R43 hR44 hEI29 hER48 hi22 hi23 hi24 hi25 hF_46 hY_47 hD_49 (by omega) (by omega) (htx) (hs) (Or.inl ⟨rfl, by unfold tgOk; omega⟩)
                    · have c_116 : ¬ (51 ≤ (nI mj)) := of_decide_eq_false c_116
                      have n_116 : ¬ (51 ≤ mj) := fun h9 => c_116 ((le_nI (p := 51) (n := mj) (by decide) (by omega)).mpr h9)
                      refine ps_st (S' := (120, [(0, .ref m0), (1, .int (nI k)), (2, .int (nI (by1 f p1))), (3, .int (nI p1))], [.int (nI (by1 f p1))], M42)) rfl rfl rfl ?_
                      refine ps_st (S' := (122, [(0, .ref m0), (1, .int (nI k)), (2, .int (nI (by1 f p1))), (3, .int (nI p1))], [.int 19, .int (nI (by1 f p1))], M42)) rfl rfl rfl ?_
                      refine ps_if2 (S1 := (131, [(0, .ref m0), (1, .int (nI k)), (2, .int (nI (by1 f p1))), (3, .int (nI p1))], [], M42)) (S2 := (125, [(0, .ref m0), (1, .int (nI k)), (2, .int (nI (by1 f p1))), (3, .int (nI p1))], [], M42)) rfl rfl rfl (fun c_122 => ?_) (fun c_122 => ?_)
                      · have c_122 : (nI (by1 f p1)) = 19 := of_decide_eq_true c_122
                        have n_122 : by1 f p1 = 19 := (eq_nI (p := by1 f p1) (n := 19) (Nat.lt_trans (by1_lt _ _) (by decide)) (by decide)).mp c_122
                        refine ps_st (S' := (132, [(0, .ref m0), (1, .int (nI k)), (2, .int (nI (by1 f p1))), (3, .int (nI p1))], [.ref m0], M42)) rfl rfl rfl ?_
                        refine pr_int (j := 53) (S' := (135, [(0, .ref m0), (1, .int (nI k)), (2, .int (nI (by1 f p1))), (3, .int (nI p1))], [.int (nI mj)], M42)) rfl hR44 rfl hi25 rfl ?_
                        refine ps_st (S' := (137, [(0, .ref m0), (1, .int (nI k)), (2, .int (nI (by1 f p1))), (3, .int (nI p1))], [.int 53, .int (nI mj)], M42)) rfl rfl rfl ?_
                        refine ps_if2 (S1 := (155, [(0, .ref m0), (1, .int (nI k)), (2, .int (nI (by1 f p1))), (3, .int (nI p1))], [], M42)) (S2 := (140, [(0, .ref m0), (1, .int (nI k)), (2, .int (nI (by1 f p1))), (3, .int (nI p1))], [], M42)) rfl rfl rfl (fun c_137 => ?_) (fun c_137 => ?_)
                        · have c_137 : 53 ≤ (nI mj) := of_decide_eq_true c_137
                          have n_137 : 53 ≤ mj := (le_nI (p := 53) (n := mj) (by decide) (by omega)).mp c_137
                          refine ps_st (S' := (156, [(0, .ref m0), (1, .int (nI k)), (2, .int (nI (by1 f p1))), (3, .int (nI p1))], [.int 1], M42)) rfl rfl rfl ?_
                          refine ps_st (S' := (160, [(0, .ref m0), (1, .int (nI k)), (2, .int (nI (by1 f p1))), (3, .int (nI p1))], [.int 1], M42)) rfl rfl rfl ?_
                          exact ih.2.1 (k) (p1) (1) (E) (tx1) (cN1) (A1) M42 I17 R43 hR44 hEI29 hER48 hi22 hi23 hi24 hi25 hF_46 hY_47 hD_49 (by omega) (by omega) (htx) (hs) (Or.inl ⟨rfl, by unfold tgOk; omega⟩)
                        · have c_137 : ¬ (53 ≤ (nI mj)) := of_decide_eq_false c_137
                          have n_137 : ¬ (53 ≤ mj) := fun h9 => c_137 ((le_nI (p := 53) (n := mj) (by decide) (by omega)).mpr h9)
                          refine ps_st (S' := (141, [(0, .ref m0), (1, .int (nI k)), (2, .int (nI (by1 f p1))), (3, .int (nI p1))], [.int (nI (by1 f p1))], M42)) rfl rfl rfl ?_
                          refine ps_st (S' := (143, [(0, .ref m0), (1, .int (nI k)), (2, .int (nI (by1 f p1))), (3, .int (nI p1))], [.int 17, .int (nI (by1 f p1))], M42)) rfl rfl rfl ?_
                          refine ps_if2 (S1 := (159, [(0, .ref m0), (1, .int (nI k)), (2, .int (nI (by1 f p1))), (3, .int (nI p1))], [], M42)) (S2 := (146, [(0, .ref m0), (1, .int (nI k)), (2, .int (nI (by1 f p1))), (3, .int (nI p1))], [], M42)) rfl rfl rfl (fun c_143 => ?_) (fun c_143 => ?_)
                          · have c_143 : ¬ (nI (by1 f p1)) = 17 := of_decide_eq_true c_143
                            have n_143 : ¬ (by1 f p1 = 17) := fun h9 => c_143 ((eq_nI (p := by1 f p1) (n := 17) (Nat.lt_trans (by1_lt _ _) (by decide)) (by decide)).mpr h9)
                            refine ps_st (S' := (160, [(0, .ref m0), (1, .int (nI k)), (2, .int (nI (by1 f p1))), (3, .int (nI p1))], [.int 0], M42)) rfl rfl rfl ?_
                            exact ih.2.1 (k) (p1) (0) (E) (tx1) (cN1) (A1) M42 I17 R43 hR44 hEI29 hER48 hi22 hi23 hi24 hi25 hF_46 hY_47 hD_49 (by omega) (by omega) (htx) (hs) (Or.inr ⟨rfl, by unfold tgOk; omega⟩)
                          · have c_143 : ¬ (¬ (nI (by1 f p1)) = 17) := of_decide_eq_false c_143
                            have n_143 : by1 f p1 = 17 := (eq_nI (p := by1 f p1) (n := 17) (Nat.lt_trans (by1_lt _ _) (by decide)) (by decide)).mp (Decidable.not_not.mp c_143)
                            refine ps_st (S' := (147, [(0, .ref m0), (1, .int (nI k)), (2, .int (nI (by1 f p1))), (3, .int (nI p1))], [.ref m0], M42)) rfl rfl rfl ?_
                            refine pr_int (j := 53) (S' := (150, [(0, .ref m0), (1, .int (nI k)), (2, .int (nI (by1 f p1))), (3, .int (nI p1))], [.int (nI mj)], M42)) rfl hR44 rfl hi25 rfl ?_
                            refine ps_st (S' := (152, [(0, .ref m0), (1, .int (nI k)), (2, .int (nI (by1 f p1))), (3, .int (nI p1))], [.int 55, .int (nI mj)], M42)) rfl rfl rfl ?_
                            refine ps_if2 (S1 := (159, [(0, .ref m0), (1, .int (nI k)), (2, .int (nI (by1 f p1))), (3, .int (nI p1))], [], M42)) (S2 := (155, [(0, .ref m0), (1, .int (nI k)), (2, .int (nI (by1 f p1))), (3, .int (nI p1))], [], M42)) rfl rfl rfl (fun c_152 => ?_) (fun c_152 => ?_)
                            · have c_152 : (nI mj) < 55 := of_decide_eq_true c_152
                              have n_152 : mj < 55 := (lt_nI (p := mj) (n := 55) (by omega) (by decide)).mp c_152
                              refine ps_st (S' := (160, [(0, .ref m0), (1, .int (nI k)), (2, .int (nI (by1 f p1))), (3, .int (nI p1))], [.int 0], M42)) rfl rfl rfl ?_
                              exact ih.2.1 (k) (p1) (0) (E) (tx1) (cN1) (A1) M42 I17 R43 hR44 hEI29 hER48 hi22 hi23 hi24 hi25 hF_46 hY_47 hD_49 (by omega) (by omega) (htx) (hs) (Or.inr ⟨rfl, by unfold tgOk; omega⟩)
                            · have c_152 : ¬ ((nI mj) < 55) := of_decide_eq_false c_152
                              have n_152 : ¬ (mj < 55) := fun h9 => c_152 ((lt_nI (p := mj) (n := 55) (by omega) (by decide)).mpr h9)
                              refine ps_st (S' := (156, [(0, .ref m0), (1, .int (nI k)), (2, .int (nI (by1 f p1))), (3, .int (nI p1))], [.int 1], M42)) rfl rfl rfl ?_
                              refine ps_st (S' := (160, [(0, .ref m0), (1, .int (nI k)), (2, .int (nI (by1 f p1))), (3, .int (nI p1))], [.int 1], M42)) rfl rfl rfl ?_
                              exact ih.2.1 (k) (p1) (1) (E) (tx1) (cN1) (A1) M42 I17 R43 hR44 hEI29 hER48 hi22 hi23 hi24 hi25 hF_46 hY_47 hD_49 (by omega) (by omega) (htx) (hs) (Or.inl ⟨rfl, by unfold tgOk; omega⟩)
                      · have c_122 : ¬ ((nI (by1 f p1)) = 19) := of_decide_eq_false c_122
                        have n_122 : ¬ (by1 f p1 = 19) := fun h9 => c_122 ((eq_nI (p := by1 f p1) (n := 19) (Nat.lt_trans (by1_lt _ _) (by decide)) (by decide)).mpr h9)
                        refine ps_st (S' := (126, [(0, .ref m0), (1, .int (nI k)), (2, .int (nI (by1 f p1))), (3, .int (nI p1))], [.int (nI (by1 f p1))], M42)) rfl rfl rfl ?_
                        refine ps_st (S' := (128, [(0, .ref m0), (1, .int (nI k)), (2, .int (nI (by1 f p1))), (3, .int (nI p1))], [.int 20, .int (nI (by1 f p1))], M42)) rfl rfl rfl ?_
                        refine ps_if2 (S1 := (140, [(0, .ref m0), (1, .int (nI k)), (2, .int (nI (by1 f p1))), (3, .int (nI p1))], [], M42)) (S2 := (131, [(0, .ref m0), (1, .int (nI k)), (2, .int (nI (by1 f p1))), (3, .int (nI p1))], [], M42)) rfl rfl rfl (fun c_128 => ?_) (fun c_128 => ?_)
                        · have c_128 : ¬ (nI (by1 f p1)) = 20 := of_decide_eq_true c_128
                          have n_128 : ¬ (by1 f p1 = 20) := fun h9 => c_128 ((eq_nI (p := by1 f p1) (n := 20) (Nat.lt_trans (by1_lt _ _) (by decide)) (by decide)).mpr h9)
                          refine ps_st (S' := (141, [(0, .ref m0), (1, .int (nI k)), (2, .int (nI (by1 f p1))), (3, .int (nI p1))], [.int (nI (by1 f p1))], M42)) rfl rfl rfl ?_
                          refine ps_st (S' := (143, [(0, .ref m0), (1, .int (nI k)), (2, .int (nI (by1 f p1))), (3, .int (nI p1))], [.int 17, .int (nI (by1 f p1))], M42)) rfl rfl rfl ?_
                          refine ps_if2 (S1 := (159, [(0, .ref m0), (1, .int (nI k)), (2, .int (nI (by1 f p1))), (3, .int (nI p1))], [], M42)) (S2 := (146, [(0, .ref m0), (1, .int (nI k)), (2, .int (nI (by1 f p1))), (3, .int (nI p1))], [], M42)) rfl rfl rfl (fun c_143 => ?_) (fun c_143 => ?_)
                          · have c_143 : ¬ (nI (by1 f p1)) = 17 := of_decide_eq_true c_143
                            have n_143 : ¬ (by1 f p1 = 17) := fun h9 => c_143 ((eq_nI (p := by1 f p1) (n := 17) (Nat.lt_trans (by1_lt _ _) (by decide)) (by decide)).mpr h9)
                            refine ps_st (S' := (160, [(0, .ref m0), (1, .int (nI k)), (2, .int (nI (by1 f p1))), (3, .int (nI p1))], [.int 0], M42)) rfl rfl rfl ?_
                            exact ih.2.1 (k) (p1) (0) (E) (tx1) (cN1) (A1) M42 I17 R43 hR44 hEI29 hER48 hi22 hi23 hi24 hi25 hF_46 hY_47 hD_49 (by omega) (by omega) (htx) (hs) (Or.inr ⟨rfl, by unfold tgOk; omega⟩)
                          · have c_143 : ¬ (¬ (nI (by1 f p1)) = 17) := of_decide_eq_false c_143
                            have n_143 : by1 f p1 = 17 := (eq_nI (p := by1 f p1) (n := 17) (Nat.lt_trans (by1_lt _ _) (by decide)) (by decide)).mp (Decidable.not_not.mp c_143)
                            refine ps_st (S' := (147, [(0, .ref m0), (1, .int (nI k)), (2, .int (nI (by1 f p1))), (3, .int (nI p1))], [.ref m0], M42)) rfl rfl rfl ?_
                            refine pr_int (j := 53) (S' := (150, [(0, .ref m0), (1, .int (nI k)), (2, .int (nI (by1 f p1))), (3, .int (nI p1))], [.int (nI mj)], M42)) rfl hR44 rfl hi25 rfl ?_
                            refine ps_st (S' := (152, [(0, .ref m0), (1, .int (nI k)), (2, .int (nI (by1 f p1))), (3, .int (nI p1))], [.int 55, .int (nI mj)], M42)) rfl rfl rfl ?_
                            refine ps_if2 (S1 := (159, [(0, .ref m0), (1, .int (nI k)), (2, .int (nI (by1 f p1))), (3, .int (nI p1))], [], M42)) (S2 := (155, [(0, .ref m0), (1, .int (nI k)), (2, .int (nI (by1 f p1))), (3, .int (nI p1))], [], M42)) rfl rfl rfl (fun c_152 => ?_) (fun c_152 => ?_)
                            · have c_152 : (nI mj) < 55 := of_decide_eq_true c_152
                              have n_152 : mj < 55 := (lt_nI (p := mj) (n := 55) (by omega) (by decide)).mp c_152
                              refine ps_st (S' := (160, [(0, .ref m0), (1, .int (nI k)), (2, .int (nI (by1 f p1))), (3, .int (nI p1))], [.int 0], M42)) rfl rfl rfl ?_
                              exact ih.2.1 (k) (p1) (0) (E) (tx1) (cN1) (A1) M42 I17 R43 hR44 hEI29 hER48 hi22 hi23 hi24 hi25 hF_46 hY_47 hD_49 (by omega) (by omega) (htx) (hs) (Or.inr ⟨rfl, by unfold tgOk; omega⟩)
                            · have c_152 : ¬ ((nI mj) < 55) := of_decide_eq_false c_152
                              have n_152 : ¬ (mj < 55) := fun h9 => c_152 ((lt_nI (p := mj) (n := 55) (by omega) (by decide)).mpr h9)
                              refine ps_st (S' := (156, [(0, .ref m0), (1, .int (nI k)), (2, .int (nI (by1 f p1))), (3, .int (nI p1))], [.int 1], M42)) rfl rfl rfl ?_
                              refine ps_st (S' := (160, [(0, .ref m0), (1, .int (nI k)), (2, .int (nI (by1 f p1))), (3, .int (nI p1))], [.int 1], M42)) rfl rfl rfl ?_
                              exact ih.2.1 (k) (p1) (1) (E) (tx1) (cN1) (A1) M42 I17 R43 hR44 hEI29 hER48 hi22 hi23 hi24 hi25 hF_46 hY_47 hD_49 (by omega) (by omega) (htx) (hs) (Or.inl ⟨rfl, by unfold tgOk; omega⟩)
                        · have c_128 : ¬ (¬ (nI (by1 f p1)) = 20) := of_decide_eq_false c_128
                          have n_128 : by1 f p1 = 20 := (eq_nI (p := by1 f p1) (n := 20) (Nat.lt_trans (by1_lt _ _) (by decide)) (by decide)).mp (Decidable.not_not.mp c_128)
                          refine ps_st (S' := (132, [(0, .ref m0), (1, .int (nI k)), (2, .int (nI (by1 f p1))), (3, .int (nI p1))], [.ref m0], M42)) rfl rfl rfl ?_
                          refine pr_int (j := 53) (S' := (135, [(0, .ref m0), (1, .int (nI k)), (2, .int (nI (by1 f p1))), (3, .int (nI p1))], [.int (nI mj)], M42)) rfl hR44 rfl hi25 rfl ?_
                          refine ps_st (S' := (137, [(0, .ref m0), (1, .int (nI k)), (2, .int (nI (by1 f p1))), (3, .int (nI p1))], [.int 53, .int (nI mj)], M42)) rfl rfl rfl ?_
                          refine ps_if2 (S1 := (155, [(0, .ref m0), (1, .int (nI k)), (2, .int (nI (by1 f p1))), (3, .int (nI p1))], [], M42)) (S2 := (140, [(0, .ref m0), (1, .int (nI k)), (2, .int (nI (by1 f p1))), (3, .int (nI p1))], [], M42)) rfl rfl rfl (fun c_137 => ?_) (fun c_137 => ?_)
                          · have c_137 : 53 ≤ (nI mj) := of_decide_eq_true c_137
                            have n_137 : 53 ≤ mj := (le_nI (p := 53) (n := mj) (by decide) (by omega)).mp c_137
                            refine ps_st (S' := (156, [(0, .ref m0), (1, .int (nI k)), (2, .int (nI (by1 f p1))), (3, .int (nI p1))], [.int 1], M42)) rfl rfl rfl ?_
                            refine ps_st (S' := (160, [(0, .ref m0), (1, .int (nI k)), (2, .int (nI (by1 f p1))), (3, .int (nI p1))], [.int 1], M42)) rfl rfl rfl ?_
                            exact ih.2.1 (k) (p1) (1) (E) (tx1) (cN1) (A1) M42 I17 R43 hR44 hEI29 hER48 hi22 hi23 hi24 hi25 hF_46 hY_47 hD_49 (by omega) (by omega) (htx) (hs) (Or.inl ⟨rfl, by unfold tgOk; omega⟩)
                          · have c_137 : ¬ (53 ≤ (nI mj)) := of_decide_eq_false c_137
                            have n_137 : ¬ (53 ≤ mj) := fun h9 => c_137 ((le_nI (p := 53) (n := mj) (by decide) (by omega)).mpr h9)
                            refine ps_st (S' := (141, [(0, .ref m0), (1, .int (nI k)), (2, .int (nI (by1 f p1))), (3, .int (nI p1))], [.int (nI (by1 f p1))], M42)) rfl rfl rfl ?_
                            refine ps_st (S' := (143, [(0, .ref m0), (1, .int (nI k)), (2, .int (nI (by1 f p1))), (3, .int (nI p1))], [.int 17, .int (nI (by1 f p1))], M42)) rfl rfl rfl ?_
                            refine ps_if2 (S1 := (159, [(0, .ref m0), (1, .int (nI k)), (2, .int (nI (by1 f p1))), (3, .int (nI p1))], [], M42)) (S2 := (146, [(0, .ref m0), (1, .int (nI k)), (2, .int (nI (by1 f p1))), (3, .int (nI p1))], [], M42)) rfl rfl rfl (fun c_143 => ?_) (fun c_143 => ?_)
                            · have c_143 : ¬ (nI (by1 f p1)) = 17 := of_decide_eq_true c_143
                              have n_143 : ¬ (by1 f p1 = 17) := fun h9 => c_143 ((eq_nI (p := by1 f p1) (n := 17) (Nat.lt_trans (by1_lt _ _) (by decide)) (by decide)).mpr h9)
                              refine ps_st (S' := (160, [(0, .ref m0), (1, .int (nI k)), (2, .int (nI (by1 f p1))), (3, .int (nI p1))], [.int 0], M42)) rfl rfl rfl ?_
                              exact ih.2.1 (k) (p1) (0) (E) (tx1) (cN1) (A1) M42 I17 R43 hR44 hEI29 hER48 hi22 hi23 hi24 hi25 hF_46 hY_47 hD_49 (by omega) (by omega) (htx) (hs) (Or.inr ⟨rfl, by unfold tgOk; omega⟩)
                            · have c_143 : ¬ (¬ (nI (by1 f p1)) = 17) := of_decide_eq_false c_143
                              have n_143 : by1 f p1 = 17 := (eq_nI (p := by1 f p1) (n := 17) (Nat.lt_trans (by1_lt _ _) (by decide)) (by decide)).mp (Decidable.not_not.mp c_143)
                              refine ps_st (S' := (147, [(0, .ref m0), (1, .int (nI k)), (2, .int (nI (by1 f p1))), (3, .int (nI p1))], [.ref m0], M42)) rfl rfl rfl ?_
                              refine pr_int (j := 53) (S' := (150, [(0, .ref m0), (1, .int (nI k)), (2, .int (nI (by1 f p1))), (3, .int (nI p1))], [.int (nI mj)], M42)) rfl hR44 rfl hi25 rfl ?_
                              refine ps_st (S' := (152, [(0, .ref m0), (1, .int (nI k)), (2, .int (nI (by1 f p1))), (3, .int (nI p1))], [.int 55, .int (nI mj)], M42)) rfl rfl rfl ?_
                              refine ps_if2 (S1 := (159, [(0, .ref m0), (1, .int (nI k)), (2, .int (nI (by1 f p1))), (3, .int (nI p1))], [], M42)) (S2 := (155, [(0, .ref m0), (1, .int (nI k)), (2, .int (nI (by1 f p1))), (3, .int (nI p1))], [], M42)) rfl rfl rfl (fun c_152 => ?_) (fun c_152 => ?_)
                              · have c_152 : (nI mj) < 55 := of_decide_eq_true c_152
                                have n_152 : mj < 55 := (lt_nI (p := mj) (n := 55) (by omega) (by decide)).mp c_152
                                refine ps_st (S' := (160, [(0, .ref m0), (1, .int (nI k)), (2, .int (nI (by1 f p1))), (3, .int (nI p1))], [.int 0], M42)) rfl rfl rfl ?_
                                exact ih.2.1 (k) (p1) (0) (E) (tx1) (cN1) (A1) M42 I17 R43 hR44 hEI29 hER48 hi22 hi23 hi24 hi25 hF_46 hY_47 hD_49 (by omega) (by omega) (htx) (hs) (Or.inr ⟨rfl, by unfold tgOk; omega⟩)
                              · have c_152 : ¬ ((nI mj) < 55) := of_decide_eq_false c_152
                                have n_152 : ¬ (mj < 55) := fun h9 => c_152 ((lt_nI (p := mj) (n := 55) (by omega) (by decide)).mpr h9)
                                refine ps_st (S' := (156, [(0, .ref m0), (1, .int (nI k)), (2, .int (nI (by1 f p1))), (3, .int (nI p1))], [.int 1], M42)) rfl rfl rfl ?_
                                refine ps_st (S' := (160, [(0, .ref m0), (1, .int (nI k)), (2, .int (nI (by1 f p1))), (3, .int (nI p1))], [.int 1], M42)) rfl rfl rfl ?_
                                exact ih.2.1 (k) (p1) (1) (E) (tx1) (cN1) (A1) M42 I17 R43 hR44 hEI29 hER48 hi22 hi23 hi24 hi25 hF_46 hY_47 hD_49 (by omega) (by omega) (htx) (hs) (Or.inl ⟨rfl, by unfold tgOk; omega⟩)
                  · have c_95 : ¬ ((nI (by1 f p1)) = 15) := of_decide_eq_false c_95
                    have n_95 : ¬ (by1 f p1 = 15) := fun h9 => c_95 ((eq_nI (p := by1 f p1) (n := 15) (Nat.lt_trans (by1_lt _ _) (by decide)) (by decide)).mpr h9)
                    refine ps_st (S' := (99, [(0, .ref m0), (1, .int (nI k)), (2, .int (nI (by1 f p1))), (3, .int (nI p1))], [.int (nI (by1 f p1))], M42)) rfl rfl rfl ?_
                    refine ps_st (S' := (101, [(0, .ref m0), (1, .int (nI k)), (2, .int (nI (by1 f p1))), (3, .int (nI p1))], [.int 16, .int (nI (by1 f p1))], M42)) rfl rfl rfl ?_
                    refine ps_if2 (S1 := (110, [(0, .ref m0), (1, .int (nI k)), (2, .int (nI (by1 f p1))), (3, .int (nI p1))], [], M42)) (S2 := (104, [(0, .ref m0), (1, .int (nI k)), (2, .int (nI (by1 f p1))), (3, .int (nI p1))], [], M42)) rfl rfl rfl (fun c_101 => ?_) (fun c_101 => ?_)
                    · have c_101 : (nI (by1 f p1)) = 16 := of_decide_eq_true c_101
                      have n_101 : by1 f p1 = 16 := (eq_nI (p := by1 f p1) (n := 16) (Nat.lt_trans (by1_lt _ _) (by decide)) (by decide)).mp c_101
                      refine ps_st (S' := (111, [(0, .ref m0), (1, .int (nI k)), (2, .int (nI (by1 f p1))), (3, .int (nI p1))], [.ref m0], M42)) rfl rfl rfl ?_
                      refine pr_int (j := 53) (S' := (114, [(0, .ref m0), (1, .int (nI k)), (2, .int (nI (by1 f p1))), (3, .int (nI p1))], [.int (nI mj)], M42)) rfl hR44 rfl hi25 rfl ?_
                      refine ps_st (S' := (116, [(0, .ref m0), (1, .int (nI k)), (2, .int (nI (by1 f p1))), (3, .int (nI p1))], [.int 51, .int (nI mj)], M42)) rfl rfl rfl ?_
                      refine ps_if2 (S1 := (155, [(0, .ref m0), (1, .int (nI k)), (2, .int (nI (by1 f p1))), (3, .int (nI p1))], [], M42)) (S2 := (119, [(0, .ref m0), (1, .int (nI k)), (2, .int (nI (by1 f p1))), (3, .int (nI p1))], [], M42)) rfl rfl rfl (fun c_116 => ?_) (fun c_116 => ?_)
                      · have c_116 : 51 ≤ (nI mj) := of_decide_eq_true c_116
                        have n_116 : 51 ≤ mj := (le_nI (p := 51) (n := mj) (by decide) (by omega)).mp c_116
                        refine ps_st (S' := (156, [(0, .ref m0), (1, .int (nI k)), (2, .int (nI (by1 f p1))), (3, .int (nI p1))], [.int 1], M42)) rfl rfl rfl ?_
                        refine ps_st (S' := (160, [(0, .ref m0), (1, .int (nI k)), (2, .int (nI (by1 f p1))), (3, .int (nI p1))], [.int 1], M42)) rfl rfl rfl ?_
                        exact ih.2.1 (k) (p1) (1) (E) (tx1) (cN1) (A1) M42 I17 R43 hR44 hEI29 hER48 hi22 hi23 hi24 hi25 hF_46 hY_47 hD_49 (by omega) (by omega) (htx) (hs) (Or.inl ⟨rfl, by unfold tgOk; omega⟩)
                      · have c_116 : ¬ (51 ≤ (nI mj)) := of_decide_eq_false c_116
                        have n_116 : ¬ (51 ≤ mj) := fun h9 => c_116 ((le_nI (p := 51) (n := mj) (by decide) (by omega)).mpr h9)
                        refine ps_st (S' := (120, [(0, .ref m0), (1, .int (nI k)), (2, .int (nI (by1 f p1))), (3, .int (nI p1))], [.int (nI (by1 f p1))], M42)) rfl rfl rfl ?_
                        refine ps_st (S' := (122, [(0, .ref m0), (1, .int (nI k)), (2, .int (nI (by1 f p1))), (3, .int (nI p1))], [.int 19, .int (nI (by1 f p1))], M42)) rfl rfl rfl ?_
                        refine ps_if2 (S1 := (131, [(0, .ref m0), (1, .int (nI k)), (2, .int (nI (by1 f p1))), (3, .int (nI p1))], [], M42)) (S2 := (125, [(0, .ref m0), (1, .int (nI k)), (2, .int (nI (by1 f p1))), (3, .int (nI p1))], [], M42)) rfl rfl rfl (fun c_122 => ?_) (fun c_122 => ?_)
                        · have c_122 : (nI (by1 f p1)) = 19 := of_decide_eq_true c_122
                          have n_122 : by1 f p1 = 19 := (eq_nI (p := by1 f p1) (n := 19) (Nat.lt_trans (by1_lt _ _) (by decide)) (by decide)).mp c_122
                          refine ps_st (S' := (132, [(0, .ref m0), (1, .int (nI k)), (2, .int (nI (by1 f p1))), (3, .int (nI p1))], [.ref m0], M42)) rfl rfl rfl ?_
                          refine pr_int (j := 53) (S' := (135, [(0, .ref m0), (1, .int (nI k)), (2, .int (nI (by1 f p1))), (3, .int (nI p1))], [.int (nI mj)], M42)) rfl hR44 rfl hi25 rfl ?_
                          refine ps_st (S' := (137, [(0, .ref m0), (1, .int (nI k)), (2, .int (nI (by1 f p1))), (3, .int (nI p1))], [.int 53, .int (nI mj)], M42)) rfl rfl rfl ?_
                          refine ps_if2 (S1 := (155, [(0, .ref m0), (1, .int (nI k)), (2, .int (nI (by1 f p1))), (3, .int (nI p1))], [], M42)) (S2 := (140, [(0, .ref m0), (1, .int (nI k)), (2, .int (nI (by1 f p1))), (3, .int (nI p1))], [], M42)) rfl rfl rfl (fun c_137 => ?_) (fun c_137 => ?_)
                          · have c_137 : 53 ≤ (nI mj) := of_decide_eq_true c_137
                            have n_137 : 53 ≤ mj := (le_nI (p := 53) (n := mj) (by decide) (by omega)).mp c_137
                            refine ps_st (S' := (156, [(0, .ref m0), (1, .int (nI k)), (2, .int (nI (by1 f p1))), (3, .int (nI p1))], [.int 1], M42)) rfl rfl rfl ?_
                            refine ps_st (S' := (160, [(0, .ref m0), (1, .int (nI k)), (2, .int (nI (by1 f p1))), (3, .int (nI p1))], [.int 1], M42)) rfl rfl rfl ?_
                            exact ih.2.1 (k) (p1) (1) (E) (tx1) (cN1) (A1) M42 I17 R43 hR44 hEI29 hER48 hi22 hi23 hi24 hi25 hF_46 hY_47 hD_49 (by omega) (by omega) (htx) (hs) (Or.inl ⟨rfl, by unfold tgOk; omega⟩)
                          · have c_137 : ¬ (53 ≤ (nI mj)) := of_decide_eq_false c_137
                            have n_137 : ¬ (53 ≤ mj) := fun h9 => c_137 ((le_nI (p := 53) (n := mj) (by decide) (by omega)).mpr h9)
                            refine ps_st (S' := (141, [(0, .ref m0), (1, .int (nI k)), (2, .int (nI (by1 f p1))), (3, .int (nI p1))], [.int (nI (by1 f p1))], M42)) rfl rfl rfl ?_
                            refine ps_st (S' := (143, [(0, .ref m0), (1, .int (nI k)), (2, .int (nI (by1 f p1))), (3, .int (nI p1))], [.int 17, .int (nI (by1 f p1))], M42)) rfl rfl rfl ?_
                            refine ps_if2 (S1 := (159, [(0, .ref m0), (1, .int (nI k)), (2, .int (nI (by1 f p1))), (3, .int (nI p1))], [], M42)) (S2 := (146, [(0, .ref m0), (1, .int (nI k)), (2, .int (nI (by1 f p1))), (3, .int (nI p1))], [], M42)) rfl rfl rfl (fun c_143 => ?_) (fun c_143 => ?_)
                            · have c_143 : ¬ (nI (by1 f p1)) = 17 := of_decide_eq_true c_143
                              have n_143 : ¬ (by1 f p1 = 17) := fun h9 => c_143 ((eq_nI (p := by1 f p1) (n := 17) (Nat.lt_trans (by1_lt _ _) (by decide)) (by decide)).mpr h9)
                              refine ps_st (S' := (160, [(0, .ref m0), (1, .int (nI k)), (2, .int (nI (by1 f p1))), (3, .int (nI p1))], [.int 0], M42)) rfl rfl rfl ?_
                              exact ih.2.1 (k) (p1) (0) (E) (tx1) (cN1) (A1) M42 I17 R43 hR44 hEI29 hER48 hi22 hi23 hi24 hi25 hF_46 hY_47 hD_49 (by omega) (by omega) (htx) (hs) (Or.inr ⟨rfl, by unfold tgOk; omega⟩)
                            · have c_143 : ¬ (¬ (nI (by1 f p1)) = 17) := of_decide_eq_false c_143
                              have n_143 : by1 f p1 = 17 := (eq_nI (p := by1 f p1) (n := 17) (Nat.lt_trans (by1_lt _ _) (by decide)) (by decide)).mp (Decidable.not_not.mp c_143)
                              refine ps_st (S' := (147, [(0, .ref m0), (1, .int (nI k)), (2, .int (nI (by1 f p1))), (3, .int (nI p1))], [.ref m0], M42)) rfl rfl rfl ?_
                              refine pr_int (j := 53) (S' := (150, [(0, .ref m0), (1, .int (nI k)), (2, .int (nI (by1 f p1))), (3, .int (nI p1))], [.int (nI mj)], M42)) rfl hR44 rfl hi25 rfl ?_
                              refine ps_st (S' := (152, [(0, .ref m0), (1, .int (nI k)), (2, .int (nI (by1 f p1))), (3, .int (nI p1))], [.int 55, .int (nI mj)], M42)) rfl rfl rfl ?_
                              refine ps_if2 (S1 := (159, [(0, .ref m0), (1, .int (nI k)), (2, .int (nI (by1 f p1))), (3, .int (nI p1))], [], M42)) (S2 := (155, [(0, .ref m0), (1, .int (nI k)), (2, .int (nI (by1 f p1))), (3, .int (nI p1))], [], M42)) rfl rfl rfl (fun c_152 => ?_) (fun c_152 => ?_)
                              · have c_152 : (nI mj) < 55 := of_decide_eq_true c_152
                                have n_152 : mj < 55 := (lt_nI (p := mj) (n := 55) (by omega) (by decide)).mp c_152
                                refine ps_st (S' := (160, [(0, .ref m0), (1, .int (nI k)), (2, .int (nI (by1 f p1))), (3, .int (nI p1))], [.int 0], M42)) rfl rfl rfl ?_
                                exact ih.2.1 (k) (p1) (0) (E) (tx1) (cN1) (A1) M42 I17 R43 hR44 hEI29 hER48 hi22 hi23 hi24 hi25 hF_46 hY_47 hD_49 (by omega) (by omega) (htx) (hs) (Or.inr ⟨rfl, by unfold tgOk; omega⟩)
                              · have c_152 : ¬ ((nI mj) < 55) := of_decide_eq_false c_152
                                have n_152 : ¬ (mj < 55) := fun h9 => c_152 ((lt_nI (p := mj) (n := 55) (by omega) (by decide)).mpr h9)
                                refine ps_st (S' := (156, [(0, .ref m0), (1, .int (nI k)), (2, .int (nI (by1 f p1))), (3, .int (nI p1))], [.int 1], M42)) rfl rfl rfl ?_
                                refine ps_st (S' := (160, [(0, .ref m0), (1, .int (nI k)), (2, .int (nI (by1 f p1))), (3, .int (nI p1))], [.int 1], M42)) rfl rfl rfl ?_
                                exact ih.2.1 (k) (p1) (1) (E) (tx1) (cN1) (A1) M42 I17 R43 hR44 hEI29 hER48 hi22 hi23 hi24 hi25 hF_46 hY_47 hD_49 (by omega) (by omega) (htx) (hs) (Or.inl ⟨rfl, by unfold tgOk; omega⟩)
                        · have c_122 : ¬ ((nI (by1 f p1)) = 19) := of_decide_eq_false c_122
                          have n_122 : ¬ (by1 f p1 = 19) := fun h9 => c_122 ((eq_nI (p := by1 f p1) (n := 19) (Nat.lt_trans (by1_lt _ _) (by decide)) (by decide)).mpr h9)
                          refine ps_st (S' := (126, [(0, .ref m0), (1, .int (nI k)), (2, .int (nI (by1 f p1))), (3, .int (nI p1))], [.int (nI (by1 f p1))], M42)) rfl rfl rfl ?_
                          refine ps_st (S' := (128, [(0, .ref m0), (1, .int (nI k)), (2, .int (nI (by1 f p1))), (3, .int (nI p1))], [.int 20, .int (nI (by1 f p1))], M42)) rfl rfl rfl ?_
                          refine ps_if2 (S1 := (140, [(0, .ref m0), (1, .int (nI k)), (2, .int (nI (by1 f p1))), (3, .int (nI p1))], [], M42)) (S2 := (131, [(0, .ref m0), (1, .int (nI k)), (2, .int (nI (by1 f p1))), (3, .int (nI p1))], [], M42)) rfl rfl rfl (fun c_128 => ?_) (fun c_128 => ?_)
                          · have c_128 : ¬ (nI (by1 f p1)) = 20 := of_decide_eq_true c_128
                            have n_128 : ¬ (by1 f p1 = 20) := fun h9 => c_128 ((eq_nI (p := by1 f p1) (n := 20) (Nat.lt_trans (by1_lt _ _) (by decide)) (by decide)).mpr h9)
                            refine ps_st (S' := (141, [(0, .ref m0), (1, .int (nI k)), (2, .int (nI (by1 f p1))), (3, .int (nI p1))], [.int (nI (by1 f p1))], M42)) rfl rfl rfl ?_
                            refine ps_st (S' := (143, [(0, .ref m0), (1, .int (nI k)), (2, .int (nI (by1 f p1))), (3, .int (nI p1))], [.int 17, .int (nI (by1 f p1))], M42)) rfl rfl rfl ?_
                            refine ps_if2 (S1 := (159, [(0, .ref m0), (1, .int (nI k)), (2, .int (nI (by1 f p1))), (3, .int (nI p1))], [], M42)) (S2 := (146, [(0, .ref m0), (1, .int (nI k)), (2, .int (nI (by1 f p1))), (3, .int (nI p1))], [], M42)) rfl rfl rfl (fun c_143 => ?_) (fun c_143 => ?_)
                            · have c_143 : ¬ (nI (by1 f p1)) = 17 := of_decide_eq_true c_143
                              have n_143 : ¬ (by1 f p1 = 17) := fun h9 => c_143 ((eq_nI (p := by1 f p1) (n := 17) (Nat.lt_trans (by1_lt _ _) (by decide)) (by decide)).mpr h9)
                              refine ps_st (S' := (160, [(0, .ref m0), (1, .int (nI k)), (2, .int (nI (by1 f p1))), (3, .int (nI p1))], [.int 0], M42)) rfl rfl rfl ?_
                              exact ih.2.1 (k) (p1) (0) (E) (tx1) (cN1) (A1) M42 I17 R43 hR44 hEI29 hER48 hi22 hi23 hi24 hi25 hF_46 hY_47 hD_49 (by omega) (by omega) (htx) (hs) (Or.inr ⟨rfl, by unfold tgOk; omega⟩)
                            · have c_143 : ¬ (¬ (nI (by1 f p1)) = 17) := of_decide_eq_false c_143
                              have n_143 : by1 f p1 = 17 := (eq_nI (p := by1 f p1) (n := 17) (Nat.lt_trans (by1_lt _ _) (by decide)) (by decide)).mp (Decidable.not_not.mp c_143)
                              refine ps_st (S' := (147, [(0, .ref m0), (1, .int (nI k)), (2, .int (nI (by1 f p1))), (3, .int (nI p1))], [.ref m0], M42)) rfl rfl rfl ?_
                              refine pr_int (j := 53) (S' := (150, [(0, .ref m0), (1, .int (nI k)), (2, .int (nI (by1 f p1))), (3, .int (nI p1))], [.int (nI mj)], M42)) rfl hR44 rfl hi25 rfl ?_
                              refine ps_st (S' := (152, [(0, .ref m0), (1, .int (nI k)), (2, .int (nI (by1 f p1))), (3, .int (nI p1))], [.int 55, .int (nI mj)], M42)) rfl rfl rfl ?_
                              refine ps_if2 (S1 := (159, [(0, .ref m0), (1, .int (nI k)), (2, .int (nI (by1 f p1))), (3, .int (nI p1))], [], M42)) (S2 := (155, [(0, .ref m0), (1, .int (nI k)), (2, .int (nI (by1 f p1))), (3, .int (nI p1))], [], M42)) rfl rfl rfl (fun c_152 => ?_) (fun c_152 => ?_)
                              · have c_152 : (nI mj) < 55 := of_decide_eq_true c_152
                                have n_152 : mj < 55 := (lt_nI (p := mj) (n := 55) (by omega) (by decide)).mp c_152
                                refine ps_st (S' := (160, [(0, .ref m0), (1, .int (nI k)), (2, .int (nI (by1 f p1))), (3, .int (nI p1))], [.int 0], M42)) rfl rfl rfl ?_
                                exact ih.2.1 (k) (p1) (0) (E) (tx1) (cN1) (A1) M42 I17 R43 hR44 hEI29 hER48 hi22 hi23 hi24 hi25 hF_46 hY_47 hD_49 (by omega) (by omega) (htx) (hs) (Or.inr ⟨rfl, by unfold tgOk; omega⟩)
                              · have c_152 : ¬ ((nI mj) < 55) := of_decide_eq_false c_152
                                have n_152 : ¬ (mj < 55) := fun h9 => c_152 ((lt_nI (p := mj) (n := 55) (by omega) (by decide)).mpr h9)
                                refine ps_st (S' := (156, [(0, .ref m0), (1, .int (nI k)), (2, .int (nI (by1 f p1))), (3, .int (nI p1))], [.int 1], M42)) rfl rfl rfl ?_
                                refine ps_st (S' := (160, [(0, .ref m0), (1, .int (nI k)), (2, .int (nI (by1 f p1))), (3, .int (nI p1))], [.int 1], M42)) rfl rfl rfl ?_
                                exact ih.2.1 (k) (p1) (1) (E) (tx1) (cN1) (A1) M42 I17 R43 hR44 hEI29 hER48 hi22 hi23 hi24 hi25 hF_46 hY_47 hD_49 (by omega) (by omega) (htx) (hs) (Or.inl ⟨rfl, by unfold tgOk; omega⟩)
                          · have c_128 : ¬ (¬ (nI (by1 f p1)) = 20) := of_decide_eq_false c_128
                            have n_128 : by1 f p1 = 20 := (eq_nI (p := by1 f p1) (n := 20) (Nat.lt_trans (by1_lt _ _) (by decide)) (by decide)).mp (Decidable.not_not.mp c_128)
                            refine ps_st (S' := (132, [(0, .ref m0), (1, .int (nI k)), (2, .int (nI (by1 f p1))), (3, .int (nI p1))], [.ref m0], M42)) rfl rfl rfl ?_
                            refine pr_int (j := 53) (S' := (135, [(0, .ref m0), (1, .int (nI k)), (2, .int (nI (by1 f p1))), (3, .int (nI p1))], [.int (nI mj)], M42)) rfl hR44 rfl hi25 rfl ?_
                            refine ps_st (S' := (137, [(0, .ref m0), (1, .int (nI k)), (2, .int (nI (by1 f p1))), (3, .int (nI p1))], [.int 53, .int (nI mj)], M42)) rfl rfl rfl ?_
                            refine ps_if2 (S1 := (155, [(0, .ref m0), (1, .int (nI k)), (2, .int (nI (by1 f p1))), (3, .int (nI p1))], [], M42)) (S2 := (140, [(0, .ref m0), (1, .int (nI k)), (2, .int (nI (by1 f p1))), (3, .int (nI p1))], [], M42)) rfl rfl rfl (fun c_137 => ?_) (fun c_137 => ?_)
                            · have c_137 : 53 ≤ (nI mj) := of_decide_eq_true c_137
                              have n_137 : 53 ≤ mj := (le_nI (p := 53) (n := mj) (by decide) (by omega)).mp c_137
                              refine ps_st (S' := (156, [(0, .ref m0), (1, .int (nI k)), (2, .int (nI (by1 f p1))), (3, .int (nI p1))], [.int 1], M42)) rfl rfl rfl ?_
                              refine ps_st (S' := (160, [(0, .ref m0), (1, .int (nI k)), (2, .int (nI (by1 f p1))), (3, .int (nI p1))], [.int 1], M42)) rfl rfl rfl ?_
                              exact ih.2.1 (k) (p1) (1) (E) (tx1) (cN1) (A1) M42 I17 R43 hR44 hEI29 hER48 hi22 hi23 hi24 hi25 hF_46 hY_47 hD_49 (by omega) (by omega) (htx) (hs) (Or.inl ⟨rfl, by unfold tgOk; omega⟩)
                            · have c_137 : ¬ (53 ≤ (nI mj)) := of_decide_eq_false c_137
                              have n_137 : ¬ (53 ≤ mj) := fun h9 => c_137 ((le_nI (p := 53) (n := mj) (by decide) (by omega)).mpr h9)
                              refine ps_st (S' := (141, [(0, .ref m0), (1, .int (nI k)), (2, .int (nI (by1 f p1))), (3, .int (nI p1))], [.int (nI (by1 f p1))], M42)) rfl rfl rfl ?_
                              refine ps_st (S' := (143, [(0, .ref m0), (1, .int (nI k)), (2, .int (nI (by1 f p1))), (3, .int (nI p1))], [.int 17, .int (nI (by1 f p1))], M42)) rfl rfl rfl ?_
                              refine ps_if2 (S1 := (159, [(0, .ref m0), (1, .int (nI k)), (2, .int (nI (by1 f p1))), (3, .int (nI p1))], [], M42)) (S2 := (146, [(0, .ref m0), (1, .int (nI k)), (2, .int (nI (by1 f p1))), (3, .int (nI p1))], [], M42)) rfl rfl rfl (fun c_143 => ?_) (fun c_143 => ?_)
                              · have c_143 : ¬ (nI (by1 f p1)) = 17 := of_decide_eq_true c_143
                                have n_143 : ¬ (by1 f p1 = 17) := fun h9 => c_143 ((eq_nI (p := by1 f p1) (n := 17) (Nat.lt_trans (by1_lt _ _) (by decide)) (by decide)).mpr h9)
                                refine ps_st (S' := (160, [(0, .ref m0), (1, .int (nI k)), (2, .int (nI (by1 f p1))), (3, .int (nI p1))], [.int 0], M42)) rfl rfl rfl ?_
                                exact ih.2.1 (k) (p1) (0) (E) (tx1) (cN1) (A1) M42 I17 R43 hR44 hEI29 hER48 hi22 hi23 hi24 hi25 hF_46 hY_47 hD_49 (by omega) (by omega) (htx) (hs) (Or.inr ⟨rfl, by unfold tgOk; omega⟩)
                              · have c_143 : ¬ (¬ (nI (by1 f p1)) = 17) := of_decide_eq_false c_143
                                have n_143 : by1 f p1 = 17 := (eq_nI (p := by1 f p1) (n := 17) (Nat.lt_trans (by1_lt _ _) (by decide)) (by decide)).mp (Decidable.not_not.mp c_143)
                                refine ps_st (S' := (147, [(0, .ref m0), (1, .int (nI k)), (2, .int (nI (by1 f p1))), (3, .int (nI p1))], [.ref m0], M42)) rfl rfl rfl ?_
                                refine pr_int (j := 53) (S' := (150, [(0, .ref m0), (1, .int (nI k)), (2, .int (nI (by1 f p1))), (3, .int (nI p1))], [.int (nI mj)], M42)) rfl hR44 rfl hi25 rfl ?_
                                refine ps_st (S' := (152, [(0, .ref m0), (1, .int (nI k)), (2, .int (nI (by1 f p1))), (3, .int (nI p1))], [.int 55, .int (nI mj)], M42)) rfl rfl rfl ?_
                                refine ps_if2 (S1 := (159, [(0, .ref m0), (1, .int (nI k)), (2, .int (nI (by1 f p1))), (3, .int (nI p1))], [], M42)) (S2 := (155, [(0, .ref m0), (1, .int (nI k)), (2, .int (nI (by1 f p1))), (3, .int (nI p1))], [], M42)) rfl rfl rfl (fun c_152 => ?_) (fun c_152 => ?_)
                                · have c_152 : (nI mj) < 55 := of_decide_eq_true c_152
                                  have n_152 : mj < 55 := (lt_nI (p := mj) (n := 55) (by omega) (by decide)).mp c_152
                                  refine ps_st (S' := (160, [(0, .ref m0), (1, .int (nI k)), (2, .int (nI (by1 f p1))), (3, .int (nI p1))], [.int 0], M42)) rfl rfl rfl ?_
                                  exact ih.2.1 (k) (p1) (0) (E) (tx1) (cN1) (A1) M42 I17 R43 hR44 hEI29 hER48 hi22 hi23 hi24 hi25 hF_46 hY_47 hD_49 (by omega) (by omega) (htx) (hs) (Or.inr ⟨rfl, by unfold tgOk; omega⟩)
                                · have c_152 : ¬ ((nI mj) < 55) := of_decide_eq_false c_152
                                  have n_152 : ¬ (mj < 55) := fun h9 => c_152 ((lt_nI (p := mj) (n := 55) (by omega) (by decide)).mpr h9)
                                  refine ps_st (S' := (156, [(0, .ref m0), (1, .int (nI k)), (2, .int (nI (by1 f p1))), (3, .int (nI p1))], [.int 1], M42)) rfl rfl rfl ?_
                                  refine ps_st (S' := (160, [(0, .ref m0), (1, .int (nI k)), (2, .int (nI (by1 f p1))), (3, .int (nI p1))], [.int 1], M42)) rfl rfl rfl ?_
                                  exact ih.2.1 (k) (p1) (1) (E) (tx1) (cN1) (A1) M42 I17 R43 hR44 hEI29 hER48 hi22 hi23 hi24 hi25 hF_46 hY_47 hD_49 (by omega) (by omega) (htx) (hs) (Or.inl ⟨rfl, by unfold tgOk; omega⟩)
                    · have c_101 : ¬ ((nI (by1 f p1)) = 16) := of_decide_eq_false c_101
                      have n_101 : ¬ (by1 f p1 = 16) := fun h9 => c_101 ((eq_nI (p := by1 f p1) (n := 16) (Nat.lt_trans (by1_lt _ _) (by decide)) (by decide)).mpr h9)
                      refine ps_st (S' := (105, [(0, .ref m0), (1, .int (nI k)), (2, .int (nI (by1 f p1))), (3, .int (nI p1))], [.int (nI (by1 f p1))], M42)) rfl rfl rfl ?_
                      refine ps_st (S' := (107, [(0, .ref m0), (1, .int (nI k)), (2, .int (nI (by1 f p1))), (3, .int (nI p1))], [.int 18, .int (nI (by1 f p1))], M42)) rfl rfl rfl ?_
                      refine ps_if2 (S1 := (119, [(0, .ref m0), (1, .int (nI k)), (2, .int (nI (by1 f p1))), (3, .int (nI p1))], [], M42)) (S2 := (110, [(0, .ref m0), (1, .int (nI k)), (2, .int (nI (by1 f p1))), (3, .int (nI p1))], [], M42)) rfl rfl rfl (fun c_107 => ?_) (fun c_107 => ?_)
                      · have c_107 : ¬ (nI (by1 f p1)) = 18 := of_decide_eq_true c_107
                        have n_107 : ¬ (by1 f p1 = 18) := fun h9 => c_107 ((eq_nI (p := by1 f p1) (n := 18) (Nat.lt_trans (by1_lt _ _) (by decide)) (by decide)).mpr h9)
                        refine ps_st (S' := (120, [(0, .ref m0), (1, .int (nI k)), (2, .int (nI (by1 f p1))), (3, .int (nI p1))], [.int (nI (by1 f p1))], M42)) rfl rfl rfl ?_
                        refine ps_st (S' := (122, [(0, .ref m0), (1, .int (nI k)), (2, .int (nI (by1 f p1))), (3, .int (nI p1))], [.int 19, .int (nI (by1 f p1))], M42)) rfl rfl rfl ?_
                        refine ps_if2 (S1 := (131, [(0, .ref m0), (1, .int (nI k)), (2, .int (nI (by1 f p1))), (3, .int (nI p1))], [], M42)) (S2 := (125, [(0, .ref m0), (1, .int (nI k)), (2, .int (nI (by1 f p1))), (3, .int (nI p1))], [], M42)) rfl rfl rfl (fun c_122 => ?_) (fun c_122 => ?_)
                        · have c_122 : (nI (by1 f p1)) = 19 := of_decide_eq_true c_122
                          have n_122 : by1 f p1 = 19 := (eq_nI (p := by1 f p1) (n := 19) (Nat.lt_trans (by1_lt _ _) (by decide)) (by decide)).mp c_122
                          refine ps_st (S' := (132, [(0, .ref m0), (1, .int (nI k)), (2, .int (nI (by1 f p1))), (3, .int (nI p1))], [.ref m0], M42)) rfl rfl rfl ?_
                          refine pr_int (j := 53) (S' := (135, [(0, .ref m0), (1, .int (nI k)), (2, .int (nI (by1 f p1))), (3, .int (nI p1))], [.int (nI mj)], M42)) rfl hR44 rfl hi25 rfl ?_
                          refine ps_st (S' := (137, [(0, .ref m0), (1, .int (nI k)), (2, .int (nI (by1 f p1))), (3, .int (nI p1))], [.int 53, .int (nI mj)], M42)) rfl rfl rfl ?_
                          refine ps_if2 (S1 := (155, [(0, .ref m0), (1, .int (nI k)), (2, .int (nI (by1 f p1))), (3, .int (nI p1))], [], M42)) (S2 := (140, [(0, .ref m0), (1, .int (nI k)), (2, .int (nI (by1 f p1))), (3, .int (nI p1))], [], M42)) rfl rfl rfl (fun c_137 => ?_) (fun c_137 => ?_)
                          · have c_137 : 53 ≤ (nI mj) := of_decide_eq_true c_137
                            have n_137 : 53 ≤ mj := (le_nI (p := 53) (n := mj) (by decide) (by omega)).mp c_137
                            refine ps_st (S' := (156, [(0, .ref m0), (1, .int (nI k)), (2, .int (nI (by1 f p1))), (3, .int (nI p1))], [.int 1], M42)) rfl rfl rfl ?_
                            refine ps_st (S' := (160, [(0, .ref m0), (1, .int (nI k)), (2, .int (nI (by1 f p1))), (3, .int (nI p1))], [.int 1], M42)) rfl rfl rfl ?_
                            exact ih.2.1 (k) (p1) (1) (E) (tx1) (cN1) (A1) M42 I17 R43 hR44 hEI29 hER48 hi22 hi23 hi24 hi25 hF_46 hY_47 hD_49 (by omega) (by omega) (htx) (hs) (Or.inl ⟨rfl, by unfold tgOk; omega⟩)
                          · have c_137 : ¬ (53 ≤ (nI mj)) := of_decide_eq_false c_137
                            have n_137 : ¬ (53 ≤ mj) := fun h9 => c_137 ((le_nI (p := 53) (n := mj) (by decide) (by omega)).mpr h9)
                            refine ps_st (S' := (141, [(0, .ref m0), (1, .int (nI k)), (2, .int (nI (by1 f p1))), (3, .int (nI p1))], [.int (nI (by1 f p1))], M42)) rfl rfl rfl ?_
                            refine ps_st (S' := (143, [(0, .ref m0), (1, .int (nI k)), (2, .int (nI (by1 f p1))), (3, .int (nI p1))], [.int 17, .int (nI (by1 f p1))], M42)) rfl rfl rfl ?_
                            refine ps_if2 (S1 := (159, [(0, .ref m0), (1, .int (nI k)), (2, .int (nI (by1 f p1))), (3, .int (nI p1))], [], M42)) (S2 := (146, [(0, .ref m0), (1, .int (nI k)), (2, .int (nI (by1 f p1))), (3, .int (nI p1))], [], M42)) rfl rfl rfl (fun c_143 => ?_) (fun c_143 => ?_)
                            · have c_143 : ¬ (nI (by1 f p1)) = 17 := of_decide_eq_true c_143
                              have n_143 : ¬ (by1 f p1 = 17) := fun h9 => c_143 ((eq_nI (p := by1 f p1) (n := 17) (Nat.lt_trans (by1_lt _ _) (by decide)) (by decide)).mpr h9)
                              refine ps_st (S' := (160, [(0, .ref m0), (1, .int (nI k)), (2, .int (nI (by1 f p1))), (3, .int (nI p1))], [.int 0], M42)) rfl rfl rfl ?_
                              exact ih.2.1 (k) (p1) (0) (E) (tx1) (cN1) (A1) M42 I17 R43 hR44 hEI29 hER48 hi22 hi23 hi24 hi25 hF_46 hY_47 hD_49 (by omega) (by omega) (htx) (hs) (Or.inr ⟨rfl, by unfold tgOk; omega⟩)
                            · have c_143 : ¬ (¬ (nI (by1 f p1)) = 17) := of_decide_eq_false c_143
                              have n_143 : by1 f p1 = 17 := (eq_nI (p := by1 f p1) (n := 17) (Nat.lt_trans (by1_lt _ _) (by decide)) (by decide)).mp (Decidable.not_not.mp c_143)
                              refine ps_st (S' := (147, [(0, .ref m0), (1, .int (nI k)), (2, .int (nI (by1 f p1))), (3, .int (nI p1))], [.ref m0], M42)) rfl rfl rfl ?_
                              refine pr_int (j := 53) (S' := (150, [(0, .ref m0), (1, .int (nI k)), (2, .int (nI (by1 f p1))), (3, .int (nI p1))], [.int (nI mj)], M42)) rfl hR44 rfl hi25 rfl ?_
                              refine ps_st (S' := (152, [(0, .ref m0), (1, .int (nI k)), (2, .int (nI (by1 f p1))), (3, .int (nI p1))], [.int 55, .int (nI mj)], M42)) rfl rfl rfl ?_
                              refine ps_if2 (S1 := (159, [(0, .ref m0), (1, .int (nI k)), (2, .int (nI (by1 f p1))), (3, .int (nI p1))], [], M42)) (S2 := (155, [(0, .ref m0), (1, .int (nI k)), (2, .int (nI (by1 f p1))), (3, .int (nI p1))], [], M42)) rfl rfl rfl (fun c_152 => ?_) (fun c_152 => ?_)
                              · have c_152 : (nI mj) < 55 := of_decide_eq_true c_152
                                have n_152 : mj < 55 := (lt_nI (p := mj) (n := 55) (by omega) (by decide)).mp c_152
                                refine ps_st (S' := (160, [(0, .ref m0), (1, .int (nI k)), (2, .int (nI (by1 f p1))), (3, .int (nI p1))], [.int 0], M42)) rfl rfl rfl ?_
                                exact ih.2.1 (k) (p1) (0) (E) (tx1) (cN1) (A1) M42 I17 R43 hR44 hEI29 hER48 hi22 hi23 hi24 hi25 hF_46 hY_47 hD_49 (by omega) (by omega) (htx) (hs) (Or.inr ⟨rfl, by unfold tgOk; omega⟩)
                              · have c_152 : ¬ ((nI mj) < 55) := of_decide_eq_false c_152
                                have n_152 : ¬ (mj < 55) := fun h9 => c_152 ((lt_nI (p := mj) (n := 55) (by omega) (by decide)).mpr h9)
                                refine ps_st (S' := (156, [(0, .ref m0), (1, .int (nI k)), (2, .int (nI (by1 f p1))), (3, .int (nI p1))], [.int 1], M42)) rfl rfl rfl ?_
                                refine ps_st (S' := (160, [(0, .ref m0), (1, .int (nI k)), (2, .int (nI (by1 f p1))), (3, .int (nI p1))], [.int 1], M42)) rfl rfl rfl ?_
                                exact ih.2.1 (k) (p1) (1) (E) (tx1) (cN1) (A1) M42 I17 R43 hR44 hEI29 hER48 hi22 hi23 hi24 hi25 hF_46 hY_47 hD_49 (by omega) (by omega) (htx) (hs) (Or.inl ⟨rfl, by unfold tgOk; omega⟩)
                        · have c_122 : ¬ ((nI (by1 f p1)) = 19) := of_decide_eq_false c_122
                          have n_122 : ¬ (by1 f p1 = 19) := fun h9 => c_122 ((eq_nI (p := by1 f p1) (n := 19) (Nat.lt_trans (by1_lt _ _) (by decide)) (by decide)).mpr h9)
                          refine ps_st (S' := (126, [(0, .ref m0), (1, .int (nI k)), (2, .int (nI (by1 f p1))), (3, .int (nI p1))], [.int (nI (by1 f p1))], M42)) rfl rfl rfl ?_
                          refine ps_st (S' := (128, [(0, .ref m0), (1, .int (nI k)), (2, .int (nI (by1 f p1))), (3, .int (nI p1))], [.int 20, .int (nI (by1 f p1))], M42)) rfl rfl rfl ?_
                          refine ps_if2 (S1 := (140, [(0, .ref m0), (1, .int (nI k)), (2, .int (nI (by1 f p1))), (3, .int (nI p1))], [], M42)) (S2 := (131, [(0, .ref m0), (1, .int (nI k)), (2, .int (nI (by1 f p1))), (3, .int (nI p1))], [], M42)) rfl rfl rfl (fun c_128 => ?_) (fun c_128 => ?_)
                          · have c_128 : ¬ (nI (by1 f p1)) = 20 := of_decide_eq_true c_128
                            have n_128 : ¬ (by1 f p1 = 20) := fun h9 => c_128 ((eq_nI (p := by1 f p1) (n := 20) (Nat.lt_trans (by1_lt _ _) (by decide)) (by decide)).mpr h9)
                            refine ps_st (S' := (141, [(0, .ref m0), (1, .int (nI k)), (2, .int (nI (by1 f p1))), (3, .int (nI p1))], [.int (nI (by1 f p1))], M42)) rfl rfl rfl ?_
                            refine ps_st (S' := (143, [(0, .ref m0), (1, .int (nI k)), (2, .int (nI (by1 f p1))), (3, .int (nI p1))], [.int 17, .int (nI (by1 f p1))], M42)) rfl rfl rfl ?_
                            refine ps_if2 (S1 := (159, [(0, .ref m0), (1, .int (nI k)), (2, .int (nI (by1 f p1))), (3, .int (nI p1))], [], M42)) (S2 := (146, [(0, .ref m0), (1, .int (nI k)), (2, .int (nI (by1 f p1))), (3, .int (nI p1))], [], M42)) rfl rfl rfl (fun c_143 => ?_) (fun c_143 => ?_)
                            · have c_143 : ¬ (nI (by1 f p1)) = 17 := of_decide_eq_true c_143
                              have n_143 : ¬ (by1 f p1 = 17) := fun h9 => c_143 ((eq_nI (p := by1 f p1) (n := 17) (Nat.lt_trans (by1_lt _ _) (by decide)) (by decide)).mpr h9)
                              refine ps_st (S' := (160, [(0, .ref m0), (1, .int (nI k)), (2, .int (nI (by1 f p1))), (3, .int (nI p1))], [.int 0], M42)) rfl rfl rfl ?_
                              exact ih.2.1 (k) (p1) (0) (E) (tx1) (cN1) (A1) M42 I17 R43 hR44 hEI29 hER48 hi22 hi23 hi24 hi25 hF_46 hY_47 hD_49 (by omega) (by omega) (htx) (hs) (Or.inr ⟨rfl, by unfold tgOk; omega⟩)
                            · have c_143 : ¬ (¬ (nI (by1 f p1)) = 17) := of_decide_eq_false c_143
                              have n_143 : by1 f p1 = 17 := (eq_nI (p := by1 f p1) (n := 17) (Nat.lt_trans (by1_lt _ _) (by decide)) (by decide)).mp (Decidable.not_not.mp c_143)
                              refine ps_st (S' := (147, [(0, .ref m0), (1, .int (nI k)), (2, .int (nI (by1 f p1))), (3, .int (nI p1))], [.ref m0], M42)) rfl rfl rfl ?_
                              refine pr_int (j := 53) (S' := (150, [(0, .ref m0), (1, .int (nI k)), (2, .int (nI (by1 f p1))), (3, .int (nI p1))], [.int (nI mj)], M42)) rfl hR44 rfl hi25 rfl ?_
                              refine ps_st (S' := (152, [(0, .ref m0), (1, .int (nI k)), (2, .int (nI (by1 f p1))), (3, .int (nI p1))], [.int 55, .int (nI mj)], M42)) rfl rfl rfl ?_
                              refine ps_if2 (S1 := (159, [(0, .ref m0), (1, .int (nI k)), (2, .int (nI (by1 f p1))), (3, .int (nI p1))], [], M42)) (S2 := (155, [(0, .ref m0), (1, .int (nI k)), (2, .int (nI (by1 f p1))), (3, .int (nI p1))], [], M42)) rfl rfl rfl (fun c_152 => ?_) (fun c_152 => ?_)
                              · have c_152 : (nI mj) < 55 := of_decide_eq_true c_152
                                have n_152 : mj < 55 := (lt_nI (p := mj) (n := 55) (by omega) (by decide)).mp c_152
                                refine ps_st (S' := (160, [(0, .ref m0), (1, .int (nI k)), (2, .int (nI (by1 f p1))), (3, .int (nI p1))], [.int 0], M42)) rfl rfl rfl ?_
                                exact ih.2.1 (k) (p1) (0) (E) (tx1) (cN1) (A1) M42 I17 R43 hR44 hEI29 hER48 hi22 hi23 hi24 hi25 hF_46 hY_47 hD_49 (by omega) (by omega) (htx) (hs) (Or.inr ⟨rfl, by unfold tgOk; omega⟩)
                              · have c_152 : ¬ ((nI mj) < 55) := of_decide_eq_false c_152
                                have n_152 : ¬ (mj < 55) := fun h9 => c_152 ((lt_nI (p := mj) (n := 55) (by omega) (by decide)).mpr h9)
                                refine ps_st (S' := (156, [(0, .ref m0), (1, .int (nI k)), (2, .int (nI (by1 f p1))), (3, .int (nI p1))], [.int 1], M42)) rfl rfl rfl ?_
                                refine ps_st (S' := (160, [(0, .ref m0), (1, .int (nI k)), (2, .int (nI (by1 f p1))), (3, .int (nI p1))], [.int 1], M42)) rfl rfl rfl ?_
                                exact ih.2.1 (k) (p1) (1) (E) (tx1) (cN1) (A1) M42 I17 R43 hR44 hEI29 hER48 hi22 hi23 hi24 hi25 hF_46 hY_47 hD_49 (by omega) (by omega) (htx) (hs) (Or.inl ⟨rfl, by unfold tgOk; omega⟩)
                          · have c_128 : ¬ (¬ (nI (by1 f p1)) = 20) := of_decide_eq_false c_128
                            have n_128 : by1 f p1 = 20 := (eq_nI (p := by1 f p1) (n := 20) (Nat.lt_trans (by1_lt _ _) (by decide)) (by decide)).mp (Decidable.not_not.mp c_128)
                            refine ps_st (S' := (132, [(0, .ref m0), (1, .int (nI k)), (2, .int (nI (by1 f p1))), (3, .int (nI p1))], [.ref m0], M42)) rfl rfl rfl ?_
                            refine pr_int (j := 53) (S' := (135, [(0, .ref m0), (1, .int (nI k)), (2, .int (nI (by1 f p1))), (3, .int (nI p1))], [.int (nI mj)], M42)) rfl hR44 rfl hi25 rfl ?_
                            refine ps_st (S' := (137, [(0, .ref m0), (1, .int (nI k)), (2, .int (nI (by1 f p1))), (3, .int (nI p1))], [.int 53, .int (nI mj)], M42)) rfl rfl rfl ?_
                            refine ps_if2 (S1 := (155, [(0, .ref m0), (1, .int (nI k)), (2, .int (nI (by1 f p1))), (3, .int (nI p1))], [], M42)) (S2 := (140, [(0, .ref m0), (1, .int (nI k)), (2, .int (nI (by1 f p1))), (3, .int (nI p1))], [], M42)) rfl rfl rfl (fun c_137 => ?_) (fun c_137 => ?_)
                            · have c_137 : 53 ≤ (nI mj) := of_decide_eq_true c_137
                              have n_137 : 53 ≤ mj := (le_nI (p := 53) (n := mj) (by decide) (by omega)).mp c_137
                              refine ps_st (S' := (156, [(0, .ref m0), (1, .int (nI k)), (2, .int (nI (by1 f p1))), (3, .int (nI p1))], [.int 1], M42)) rfl rfl rfl ?_
                              refine ps_st (S' := (160, [(0, .ref m0), (1, .int (nI k)), (2, .int (nI (by1 f p1))), (3, .int (nI p1))], [.int 1], M42)) rfl rfl rfl ?_
                              exact ih.2.1 (k) (p1) (1) (E) (tx1) (cN1) (A1) M42 I17 R43 hR44 hEI29 hER48 hi22 hi23 hi24 hi25 hF_46 hY_47 hD_49 (by omega) (by omega) (htx) (hs) (Or.inl ⟨rfl, by unfold tgOk; omega⟩)
                            · have c_137 : ¬ (53 ≤ (nI mj)) := of_decide_eq_false c_137
                              have n_137 : ¬ (53 ≤ mj) := fun h9 => c_137 ((le_nI (p := 53) (n := mj) (by decide) (by omega)).mpr h9)
                              refine ps_st (S' := (141, [(0, .ref m0), (1, .int (nI k)), (2, .int (nI (by1 f p1))), (3, .int (nI p1))], [.int (nI (by1 f p1))], M42)) rfl rfl rfl ?_
                              refine ps_st (S' := (143, [(0, .ref m0), (1, .int (nI k)), (2, .int (nI (by1 f p1))), (3, .int (nI p1))], [.int 17, .int (nI (by1 f p1))], M42)) rfl rfl rfl ?_
                              refine ps_if2 (S1 := (159, [(0, .ref m0), (1, .int (nI k)), (2, .int (nI (by1 f p1))), (3, .int (nI p1))], [], M42)) (S2 := (146, [(0, .ref m0), (1, .int (nI k)), (2, .int (nI (by1 f p1))), (3, .int (nI p1))], [], M42)) rfl rfl rfl (fun c_143 => ?_) (fun c_143 => ?_)
                              · have c_143 : ¬ (nI (by1 f p1)) = 17 := of_decide_eq_true c_143
                                have n_143 : ¬ (by1 f p1 = 17) := fun h9 => c_143 ((eq_nI (p := by1 f p1) (n := 17) (Nat.lt_trans (by1_lt _ _) (by decide)) (by decide)).mpr h9)
                                refine ps_st (S' := (160, [(0, .ref m0), (1, .int (nI k)), (2, .int (nI (by1 f p1))), (3, .int (nI p1))], [.int 0], M42)) rfl rfl rfl ?_
                                exact ih.2.1 (k) (p1) (0) (E) (tx1) (cN1) (A1) M42 I17 R43 hR44 hEI29 hER48 hi22 hi23 hi24 hi25 hF_46 hY_47 hD_49 (by omega) (by omega) (htx) (hs) (Or.inr ⟨rfl, by unfold tgOk; omega⟩)
                              · have c_143 : ¬ (¬ (nI (by1 f p1)) = 17) := of_decide_eq_false c_143
                                have n_143 : by1 f p1 = 17 := (eq_nI (p := by1 f p1) (n := 17) (Nat.lt_trans (by1_lt _ _) (by decide)) (by decide)).mp (Decidable.not_not.mp c_143)
                                refine ps_st (S' := (147, [(0, .ref m0), (1, .int (nI k)), (2, .int (nI (by1 f p1))), (3, .int (nI p1))], [.ref m0], M42)) rfl rfl rfl ?_
                                refine pr_int (j := 53) (S' := (150, [(0, .ref m0), (1, .int (nI k)), (2, .int (nI (by1 f p1))), (3, .int (nI p1))], [.int (nI mj)], M42)) rfl hR44 rfl hi25 rfl ?_
                                refine ps_st (S' := (152, [(0, .ref m0), (1, .int (nI k)), (2, .int (nI (by1 f p1))), (3, .int (nI p1))], [.int 55, .int (nI mj)], M42)) rfl rfl rfl ?_
                                refine ps_if2 (S1 := (159, [(0, .ref m0), (1, .int (nI k)), (2, .int (nI (by1 f p1))), (3, .int (nI p1))], [], M42)) (S2 := (155, [(0, .ref m0), (1, .int (nI k)), (2, .int (nI (by1 f p1))), (3, .int (nI p1))], [], M42)) rfl rfl rfl (fun c_152 => ?_) (fun c_152 => ?_)
                                · have c_152 : (nI mj) < 55 := of_decide_eq_true c_152
                                  have n_152 : mj < 55 := (lt_nI (p := mj) (n := 55) (by omega) (by decide)).mp c_152
                                  refine ps_st (S' := (160, [(0, .ref m0), (1, .int (nI k)), (2, .int (nI (by1 f p1))), (3, .int (nI p1))], [.int 0], M42)) rfl rfl rfl ?_
                                  exact ih.2.1 (k) (p1) (0) (E) (tx1) (cN1) (A1) M42 I17 R43 hR44 hEI29 hER48 hi22 hi23 hi24 hi25 hF_46 hY_47 hD_49 (by omega) (by omega) (htx) (hs) (Or.inr ⟨rfl, by unfold tgOk; omega⟩)
                                · have c_152 : ¬ ((nI mj) < 55) := of_decide_eq_false c_152
                                  have n_152 : ¬ (mj < 55) := fun h9 => c_152 ((lt_nI (p := mj) (n := 55) (by omega) (by decide)).mpr h9)
                                  refine ps_st (S' := (156, [(0, .ref m0), (1, .int (nI k)), (2, .int (nI (by1 f p1))), (3, .int (nI p1))], [.int 1], M42)) rfl rfl rfl ?_
                                  refine ps_st (S' := (160, [(0, .ref m0), (1, .int (nI k)), (2, .int (nI (by1 f p1))), (3, .int (nI p1))], [.int 1], M42)) rfl rfl rfl ?_
                                  exact ih.2.1 (k) (p1) (1) (E) (tx1) (cN1) (A1) M42 I17 R43 hR44 hEI29 hER48 hi22 hi23 hi24 hi25 hF_46 hY_47 hD_49 (by omega) (by omega) (htx) (hs) (Or.inl ⟨rfl, by unfold tgOk; omega⟩)
                      · have c_107 : ¬ (¬ (nI (by1 f p1)) = 18) := of_decide_eq_false c_107
                        have n_107 : by1 f p1 = 18 := (eq_nI (p := by1 f p1) (n := 18) (Nat.lt_trans (by1_lt _ _) (by decide)) (by decide)).mp (Decidable.not_not.mp c_107)
                        refine ps_st (S' := (111, [(0, .ref m0), (1, .int (nI k)), (2, .int (nI (by1 f p1))), (3, .int (nI p1))], [.ref m0], M42)) rfl rfl rfl ?_
                        refine pr_int (j := 53) (S' := (114, [(0, .ref m0), (1, .int (nI k)), (2, .int (nI (by1 f p1))), (3, .int (nI p1))], [.int (nI mj)], M42)) rfl hR44 rfl hi25 rfl ?_
                        refine ps_st (S' := (116, [(0, .ref m0), (1, .int (nI k)), (2, .int (nI (by1 f p1))), (3, .int (nI p1))], [.int 51, .int (nI mj)], M42)) rfl rfl rfl ?_
                        refine ps_if2 (S1 := (155, [(0, .ref m0), (1, .int (nI k)), (2, .int (nI (by1 f p1))), (3, .int (nI p1))], [], M42)) (S2 := (119, [(0, .ref m0), (1, .int (nI k)), (2, .int (nI (by1 f p1))), (3, .int (nI p1))], [], M42)) rfl rfl rfl (fun c_116 => ?_) (fun c_116 => ?_)
                        · have c_116 : 51 ≤ (nI mj) := of_decide_eq_true c_116
                          have n_116 : 51 ≤ mj := (le_nI (p := 51) (n := mj) (by decide) (by omega)).mp c_116
                          refine ps_st (S' := (156, [(0, .ref m0), (1, .int (nI k)), (2, .int (nI (by1 f p1))), (3, .int (nI p1))], [.int 1], M42)) rfl rfl rfl ?_
                          refine ps_st (S' := (160, [(0, .ref m0), (1, .int (nI k)), (2, .int (nI (by1 f p1))), (3, .int (nI p1))], [.int 1], M42)) rfl rfl rfl ?_
                          exact ih.2.1 (k) (p1) (1) (E) (tx1) (cN1) (A1) M42 I17 R43 hR44 hEI29 hER48 hi22 hi23 hi24 hi25 hF_46 hY_47 hD_49 (by omega) (by omega) (htx) (hs) (Or.inl ⟨rfl, by unfold tgOk; omega⟩)
                        · have c_116 : ¬ (51 ≤ (nI mj)) := of_decide_eq_false c_116
                          have n_116 : ¬ (51 ≤ mj) := fun h9 => c_116 ((le_nI (p := 51) (n := mj) (by decide) (by omega)).mpr h9)
                          refine ps_st (S' := (120, [(0, .ref m0), (1, .int (nI k)), (2, .int (nI (by1 f p1))), (3, .int (nI p1))], [.int (nI (by1 f p1))], M42)) rfl rfl rfl ?_
                          refine ps_st (S' := (122, [(0, .ref m0), (1, .int (nI k)), (2, .int (nI (by1 f p1))), (3, .int (nI p1))], [.int 19, .int (nI (by1 f p1))], M42)) rfl rfl rfl ?_
                          refine ps_if2 (S1 := (131, [(0, .ref m0), (1, .int (nI k)), (2, .int (nI (by1 f p1))), (3, .int (nI p1))], [], M42)) (S2 := (125, [(0, .ref m0), (1, .int (nI k)), (2, .int (nI (by1 f p1))), (3, .int (nI p1))], [], M42)) rfl rfl rfl (fun c_122 => ?_) (fun c_122 => ?_)
                          · have c_122 : (nI (by1 f p1)) = 19 := of_decide_eq_true c_122
                            have n_122 : by1 f p1 = 19 := (eq_nI (p := by1 f p1) (n := 19) (Nat.lt_trans (by1_lt _ _) (by decide)) (by decide)).mp c_122
                            refine ps_st (S' := (132, [(0, .ref m0), (1, .int (nI k)), (2, .int (nI (by1 f p1))), (3, .int (nI p1))], [.ref m0], M42)) rfl rfl rfl ?_
                            refine pr_int (j := 53) (S' := (135, [(0, .ref m0), (1, .int (nI k)), (2, .int (nI (by1 f p1))), (3, .int (nI p1))], [.int (nI mj)], M42)) rfl hR44 rfl hi25 rfl ?_
                            refine ps_st (S' := (137, [(0, .ref m0), (1, .int (nI k)), (2, .int (nI (by1 f p1))), (3, .int (nI p1))], [.int 53, .int (nI mj)], M42)) rfl rfl rfl ?_
                            refine ps_if2 (S1 := (155, [(0, .ref m0), (1, .int (nI k)), (2, .int (nI (by1 f p1))), (3, .int (nI p1))], [], M42)) (S2 := (140, [(0, .ref m0), (1, .int (nI k)), (2, .int (nI (by1 f p1))), (3, .int (nI p1))], [], M42)) rfl rfl rfl (fun c_137 => ?_) (fun c_137 => ?_)
                            · have c_137 : 53 ≤ (nI mj) := of_decide_eq_true c_137
                              have n_137 : 53 ≤ mj := (le_nI (p := 53) (n := mj) (by decide) (by omega)).mp c_137
                              refine ps_st (S' := (156, [(0, .ref m0), (1, .int (nI k)), (2, .int (nI (by1 f p1))), (3, .int (nI p1))], [.int 1], M42)) rfl rfl rfl ?_
                              refine ps_st (S' := (160, [(0, .ref m0), (1, .int (nI k)), (2, .int (nI (by1 f p1))), (3, .int (nI p1))], [.int 1], M42)) rfl rfl rfl ?_
                              exact ih.2.1 (k) (p1) (1) (E) (tx1) (cN1) (A1) M42 I17 R43 hR44 hEI29 hER48 hi22 hi23 hi24 hi25 hF_46 hY_47 hD_49 (by omega) (by omega) (htx) (hs) (Or.inl ⟨rfl, by unfold tgOk; omega⟩)
                            · have c_137 : ¬ (53 ≤ (nI mj)) := of_decide_eq_false c_137
                              have n_137 : ¬ (53 ≤ mj) := fun h9 => c_137 ((le_nI (p := 53) (n := mj) (by decide) (by omega)).mpr h9)
                              refine ps_st (S' := (141, [(0, .ref m0), (1, .int (nI k)), (2, .int (nI (by1 f p1))), (3, .int (nI p1))], [.int (nI (by1 f p1))], M42)) rfl rfl rfl ?_
                              refine ps_st (S' := (143, [(0, .ref m0), (1, .int (nI k)), (2, .int (nI (by1 f p1))), (3, .int (nI p1))], [.int 17, .int (nI (by1 f p1))], M42)) rfl rfl rfl ?_
                              refine ps_if2 (S1 := (159, [(0, .ref m0), (1, .int (nI k)), (2, .int (nI (by1 f p1))), (3, .int (nI p1))], [], M42)) (S2 := (146, [(0, .ref m0), (1, .int (nI k)), (2, .int (nI (by1 f p1))), (3, .int (nI p1))], [], M42)) rfl rfl rfl (fun c_143 => ?_) (fun c_143 => ?_)
                              · have c_143 : ¬ (nI (by1 f p1)) = 17 := of_decide_eq_true c_143
                                have n_143 : ¬ (by1 f p1 = 17) := fun h9 => c_143 ((eq_nI (p := by1 f p1) (n := 17) (Nat.lt_trans (by1_lt _ _) (by decide)) (by decide)).mpr h9)
                                refine ps_st (S' := (160, [(0, .ref m0), (1, .int (nI k)), (2, .int (nI (by1 f p1))), (3, .int (nI p1))], [.int 0], M42)) rfl rfl rfl ?_
                                exact ih.2.1 (k) (p1) (0) (E) (tx1) (cN1) (A1) M42 I17 R43 hR44 hEI29 hER48 hi22 hi23 hi24 hi25 hF_46 hY_47 hD_49 (by omega) (by omega) (htx) (hs) (Or.inr ⟨rfl, by unfold tgOk; omega⟩)
                              · have c_143 : ¬ (¬ (nI (by1 f p1)) = 17) := of_decide_eq_false c_143
                                have n_143 : by1 f p1 = 17 := (eq_nI (p := by1 f p1) (n := 17) (Nat.lt_trans (by1_lt _ _) (by decide)) (by decide)).mp (Decidable.not_not.mp c_143)
                                refine ps_st (S' := (147, [(0, .ref m0), (1, .int (nI k)), (2, .int (nI (by1 f p1))), (3, .int (nI p1))], [.ref m0], M42)) rfl rfl rfl ?_
                                refine pr_int (j := 53) (S' := (150, [(0, .ref m0), (1, .int (nI k)), (2, .int (nI (by1 f p1))), (3, .int (nI p1))], [.int (nI mj)], M42)) rfl hR44 rfl hi25 rfl ?_
                                refine ps_st (S' := (152, [(0, .ref m0), (1, .int (nI k)), (2, .int (nI (by1 f p1))), (3, .int (nI p1))], [.int 55, .int (nI mj)], M42)) rfl rfl rfl ?_
                                refine ps_if2 (S1 := (159, [(0, .ref m0), (1, .int (nI k)), (2, .int (nI (by1 f p1))), (3, .int (nI p1))], [], M42)) (S2 := (155, [(0, .ref m0), (1, .int (nI k)), (2, .int (nI (by1 f p1))), (3, .int (nI p1))], [], M42)) rfl rfl rfl (fun c_152 => ?_) (fun c_152 => ?_)
                                · have c_152 : (nI mj) < 55 := of_decide_eq_true c_152
                                  have n_152 : mj < 55 := (lt_nI (p := mj) (n := 55) (by omega) (by decide)).mp c_152
                                  refine ps_st (S' := (160, [(0, .ref m0), (1, .int (nI k)), (2, .int (nI (by1 f p1))), (3, .int (nI p1))], [.int 0], M42)) rfl rfl rfl ?_
                                  exact ih.2.1 (k) (p1) (0) (E) (tx1) (cN1) (A1) M42 I17 R43 hR44 hEI29 hER48 hi22 hi23 hi24 hi25 hF_46 hY_47 hD_49 (by omega) (by omega) (htx) (hs) (Or.inr ⟨rfl, by unfold tgOk; omega⟩)
                                · have c_152 : ¬ ((nI mj) < 55) := of_decide_eq_false c_152
                                  have n_152 : ¬ (mj < 55) := fun h9 => c_152 ((lt_nI (p := mj) (n := 55) (by omega) (by decide)).mpr h9)
                                  refine ps_st (S' := (156, [(0, .ref m0), (1, .int (nI k)), (2, .int (nI (by1 f p1))), (3, .int (nI p1))], [.int 1], M42)) rfl rfl rfl ?_
                                  refine ps_st (S' := (160, [(0, .ref m0), (1, .int (nI k)), (2, .int (nI (by1 f p1))), (3, .int (nI p1))], [.int 1], M42)) rfl rfl rfl ?_
                                  exact ih.2.1 (k) (p1) (1) (E) (tx1) (cN1) (A1) M42 I17 R43 hR44 hEI29 hER48 hi22 hi23 hi24 hi25 hF_46 hY_47 hD_49 (by omega) (by omega) (htx) (hs) (Or.inl ⟨rfl, by unfold tgOk; omega⟩)
                          · have c_122 : ¬ ((nI (by1 f p1)) = 19) := of_decide_eq_false c_122
                            have n_122 : ¬ (by1 f p1 = 19) := fun h9 => c_122 ((eq_nI (p := by1 f p1) (n := 19) (Nat.lt_trans (by1_lt _ _) (by decide)) (by decide)).mpr h9)
                            refine ps_st (S' := (126, [(0, .ref m0), (1, .int (nI k)), (2, .int (nI (by1 f p1))), (3, .int (nI p1))], [.int (nI (by1 f p1))], M42)) rfl rfl rfl ?_
                            refine ps_st (S' := (128, [(0, .ref m0), (1, .int (nI k)), (2, .int (nI (by1 f p1))), (3, .int (nI p1))], [.int 20, .int (nI (by1 f p1))], M42)) rfl rfl rfl ?_
                            refine ps_if2 (S1 := (140, [(0, .ref m0), (1, .int (nI k)), (2, .int (nI (by1 f p1))), (3, .int (nI p1))], [], M42)) (S2 := (131, [(0, .ref m0), (1, .int (nI k)), (2, .int (nI (by1 f p1))), (3, .int (nI p1))], [], M42)) rfl rfl rfl (fun c_128 => ?_) (fun c_128 => ?_)
                            · have c_128 : ¬ (nI (by1 f p1)) = 20 := of_decide_eq_true c_128
                              have n_128 : ¬ (by1 f p1 = 20) := fun h9 => c_128 ((eq_nI (p := by1 f p1) (n := 20) (Nat.lt_trans (by1_lt _ _) (by decide)) (by decide)).mpr h9)
                              refine ps_st (S' := (141, [(0, .ref m0), (1, .int (nI k)), (2, .int (nI (by1 f p1))), (3, .int (nI p1))], [.int (nI (by1 f p1))], M42)) rfl rfl rfl ?_
                              refine ps_st (S' := (143, [(0, .ref m0), (1, .int (nI k)), (2, .int (nI (by1 f p1))), (3, .int (nI p1))], [.int 17, .int (nI (by1 f p1))], M42)) rfl rfl rfl ?_
                              refine ps_if2 (S1 := (159, [(0, .ref m0), (1, .int (nI k)), (2, .int (nI (by1 f p1))), (3, .int (nI p1))], [], M42)) (S2 := (146, [(0, .ref m0), (1, .int (nI k)), (2, .int (nI (by1 f p1))), (3, .int (nI p1))], [], M42)) rfl rfl rfl (fun c_143 => ?_) (fun c_143 => ?_)
                              · have c_143 : ¬ (nI (by1 f p1)) = 17 := of_decide_eq_true c_143
                                have n_143 : ¬ (by1 f p1 = 17) := fun h9 => c_143 ((eq_nI (p := by1 f p1) (n := 17) (Nat.lt_trans (by1_lt _ _) (by decide)) (by decide)).mpr h9)
                                refine ps_st (S' := (160, [(0, .ref m0), (1, .int (nI k)), (2, .int (nI (by1 f p1))), (3, .int (nI p1))], [.int 0], M42)) rfl rfl rfl ?_
                                exact ih.2.1 (k) (p1) (0) (E) (tx1) (cN1) (A1) M42 I17 R43 hR44 hEI29 hER48 hi22 hi23 hi24 hi25 hF_46 hY_47 hD_49 (by omega) (by omega) (htx) (hs) (Or.inr ⟨rfl, by unfold tgOk; omega⟩)
                              · have c_143 : ¬ (¬ (nI (by1 f p1)) = 17) := of_decide_eq_false c_143
                                have n_143 : by1 f p1 = 17 := (eq_nI (p := by1 f p1) (n := 17) (Nat.lt_trans (by1_lt _ _) (by decide)) (by decide)).mp (Decidable.not_not.mp c_143)
                                refine ps_st (S' := (147, [(0, .ref m0), (1, .int (nI k)), (2, .int (nI (by1 f p1))), (3, .int (nI p1))], [.ref m0], M42)) rfl rfl rfl ?_
                                refine pr_int (j := 53) (S' := (150, [(0, .ref m0), (1, .int (nI k)), (2, .int (nI (by1 f p1))), (3, .int (nI p1))], [.int (nI mj)], M42)) rfl hR44 rfl hi25 rfl ?_
                                refine ps_st (S' := (152, [(0, .ref m0), (1, .int (nI k)), (2, .int (nI (by1 f p1))), (3, .int (nI p1))], [.int 55, .int (nI mj)], M42)) rfl rfl rfl ?_
                                refine ps_if2 (S1 := (159, [(0, .ref m0), (1, .int (nI k)), (2, .int (nI (by1 f p1))), (3, .int (nI p1))], [], M42)) (S2 := (155, [(0, .ref m0), (1, .int (nI k)), (2, .int (nI (by1 f p1))), (3, .int (nI p1))], [], M42)) rfl rfl rfl (fun c_152 => ?_) (fun c_152 => ?_)
                                · have c_152 : (nI mj) < 55 := of_decide_eq_true c_152
                                  have n_152 : mj < 55 := (lt_nI (p := mj) (n := 55) (by omega) (by decide)).mp c_152
                                  refine ps_st (S' := (160, [(0, .ref m0), (1, .int (nI k)), (2, .int (nI (by1 f p1))), (3, .int (nI p1))], [.int 0], M42)) rfl rfl rfl ?_
                                  exact ih.2.1 (k) (p1) (0) (E) (tx1) (cN1) (A1) M42 I17 R43 hR44 hEI29 hER48 hi22 hi23 hi24 hi25 hF_46 hY_47 hD_49 (by omega) (by omega) (htx) (hs) (Or.inr ⟨rfl, by unfold tgOk; omega⟩)
                                · have c_152 : ¬ ((nI mj) < 55) := of_decide_eq_false c_152
                                  have n_152 : ¬ (mj < 55) := fun h9 => c_152 ((lt_nI (p := mj) (n := 55) (by omega) (by decide)).mpr h9)
                                  refine ps_st (S' := (156, [(0, .ref m0), (1, .int (nI k)), (2, .int (nI (by1 f p1))), (3, .int (nI p1))], [.int 1], M42)) rfl rfl rfl ?_
                                  refine ps_st (S' := (160, [(0, .ref m0), (1, .int (nI k)), (2, .int (nI (by1 f p1))), (3, .int (nI p1))], [.int 1], M42)) rfl rfl rfl ?_
                                  exact ih.2.1 (k) (p1) (1) (E) (tx1) (cN1) (A1) M42 I17 R43 hR44 hEI29 hER48 hi22 hi23 hi24 hi25 hF_46 hY_47 hD_49 (by omega) (by omega) (htx) (hs) (Or.inl ⟨rfl, by unfold tgOk; omega⟩)
                            · have c_128 : ¬ (¬ (nI (by1 f p1)) = 20) := of_decide_eq_false c_128
                              have n_128 : by1 f p1 = 20 := (eq_nI (p := by1 f p1) (n := 20) (Nat.lt_trans (by1_lt _ _) (by decide)) (by decide)).mp (Decidable.not_not.mp c_128)
                              refine ps_st (S' := (132, [(0, .ref m0), (1, .int (nI k)), (2, .int (nI (by1 f p1))), (3, .int (nI p1))], [.ref m0], M42)) rfl rfl rfl ?_
                              refine pr_int (j := 53) (S' := (135, [(0, .ref m0), (1, .int (nI k)), (2, .int (nI (by1 f p1))), (3, .int (nI p1))], [.int (nI mj)], M42)) rfl hR44 rfl hi25 rfl ?_
                              refine ps_st (S' := (137, [(0, .ref m0), (1, .int (nI k)), (2, .int (nI (by1 f p1))), (3, .int (nI p1))], [.int 53, .int (nI mj)], M42)) rfl rfl rfl ?_
                              refine ps_if2 (S1 := (155, [(0, .ref m0), (1, .int (nI k)), (2, .int (nI (by1 f p1))), (3, .int (nI p1))], [], M42)) (S2 := (140, [(0, .ref m0), (1, .int (nI k)), (2, .int (nI (by1 f p1))), (3, .int (nI p1))], [], M42)) rfl rfl rfl (fun c_137 => ?_) (fun c_137 => ?_)
                              · have c_137 : 53 ≤ (nI mj) := of_decide_eq_true c_137
                                have n_137 : 53 ≤ mj := (le_nI (p := 53) (n := mj) (by decide) (by omega)).mp c_137
                                refine ps_st (S' := (156, [(0, .ref m0), (1, .int (nI k)), (2, .int (nI (by1 f p1))), (3, .int (nI p1))], [.int 1], M42)) rfl rfl rfl ?_
                                refine ps_st (S' := (160, [(0, .ref m0), (1, .int (nI k)), (2, .int (nI (by1 f p1))), (3, .int (nI p1))], [.int 1], M42)) rfl rfl rfl ?_
                                exact ih.2.1 (k) (p1) (1) (E) (tx1) (cN1) (A1) M42 I17 R43 hR44 hEI29 hER48 hi22 hi23 hi24 hi25 hF_46 hY_47 hD_49 (by omega) (by omega) (htx) (hs) (Or.inl ⟨rfl, by unfold tgOk; omega⟩)
                              · have c_137 : ¬ (53 ≤ (nI mj)) := of_decide_eq_false c_137
                                have n_137 : ¬ (53 ≤ mj) := fun h9 => c_137 ((le_nI (p := 53) (n := mj) (by decide) (by omega)).mpr h9)
                                refine ps_st (S' := (141, [(0, .ref m0), (1, .int (nI k)), (2, .int (nI (by1 f p1))), (3, .int (nI p1))], [.int (nI (by1 f p1))], M42)) rfl rfl rfl ?_
                                refine ps_st (S' := (143, [(0, .ref m0), (1, .int (nI k)), (2, .int (nI (by1 f p1))), (3, .int (nI p1))], [.int 17, .int (nI (by1 f p1))], M42)) rfl rfl rfl ?_
                                refine ps_if2 (S1 := (159, [(0, .ref m0), (1, .int (nI k)), (2, .int (nI (by1 f p1))), (3, .int (nI p1))], [], M42)) (S2 := (146, [(0, .ref m0), (1, .int (nI k)), (2, .int (nI (by1 f p1))), (3, .int (nI p1))], [], M42)) rfl rfl rfl (fun c_143 => ?_) (fun c_143 => ?_)
                                · have c_143 : ¬ (nI (by1 f p1)) = 17 := of_decide_eq_true c_143
                                  have n_143 : ¬ (by1 f p1 = 17) := fun h9 => c_143 ((eq_nI (p := by1 f p1) (n := 17) (Nat.lt_trans (by1_lt _ _) (by decide)) (by decide)).mpr h9)
                                  refine ps_st (S' := (160, [(0, .ref m0), (1, .int (nI k)), (2, .int (nI (by1 f p1))), (3, .int (nI p1))], [.int 0], M42)) rfl rfl rfl ?_
                                  exact ih.2.1 (k) (p1) (0) (E) (tx1) (cN1) (A1) M42 I17 R43 hR44 hEI29 hER48 hi22 hi23 hi24 hi25 hF_46 hY_47 hD_49 (by omega) (by omega) (htx) (hs) (Or.inr ⟨rfl, by unfold tgOk; omega⟩)
                                · have c_143 : ¬ (¬ (nI (by1 f p1)) = 17) := of_decide_eq_false c_143
                                  have n_143 : by1 f p1 = 17 := (eq_nI (p := by1 f p1) (n := 17) (Nat.lt_trans (by1_lt _ _) (by decide)) (by decide)).mp (Decidable.not_not.mp c_143)
                                  refine ps_st (S' := (147, [(0, .ref m0), (1, .int (nI k)), (2, .int (nI (by1 f p1))), (3, .int (nI p1))], [.ref m0], M42)) rfl rfl rfl ?_
                                  refine pr_int (j := 53) (S' := (150, [(0, .ref m0), (1, .int (nI k)), (2, .int (nI (by1 f p1))), (3, .int (nI p1))], [.int (nI mj)], M42)) rfl hR44 rfl hi25 rfl ?_
                                  refine ps_st (S' := (152, [(0, .ref m0), (1, .int (nI k)), (2, .int (nI (by1 f p1))), (3, .int (nI p1))], [.int 55, .int (nI mj)], M42)) rfl rfl rfl ?_
                                  refine ps_if2 (S1 := (159, [(0, .ref m0), (1, .int (nI k)), (2, .int (nI (by1 f p1))), (3, .int (nI p1))], [], M42)) (S2 := (155, [(0, .ref m0), (1, .int (nI k)), (2, .int (nI (by1 f p1))), (3, .int (nI p1))], [], M42)) rfl rfl rfl (fun c_152 => ?_) (fun c_152 => ?_)
                                  · have c_152 : (nI mj) < 55 := of_decide_eq_true c_152
                                    have n_152 : mj < 55 := (lt_nI (p := mj) (n := 55) (by omega) (by decide)).mp c_152
                                    refine ps_st (S' := (160, [(0, .ref m0), (1, .int (nI k)), (2, .int (nI (by1 f p1))), (3, .int (nI p1))], [.int 0], M42)) rfl rfl rfl ?_
                                    exact ih.2.1 (k) (p1) (0) (E) (tx1) (cN1) (A1) M42 I17 R43 hR44 hEI29 hER48 hi22 hi23 hi24 hi25 hF_46 hY_47 hD_49 (by omega) (by omega) (htx) (hs) (Or.inr ⟨rfl, by unfold tgOk; omega⟩)
                                  · have c_152 : ¬ ((nI mj) < 55) := of_decide_eq_false c_152
                                    have n_152 : ¬ (mj < 55) := fun h9 => c_152 ((lt_nI (p := mj) (n := 55) (by omega) (by decide)).mpr h9)
                                    refine ps_st (S' := (156, [(0, .ref m0), (1, .int (nI k)), (2, .int (nI (by1 f p1))), (3, .int (nI p1))], [.int 1], M42)) rfl rfl rfl ?_
                                    refine ps_st (S' := (160, [(0, .ref m0), (1, .int (nI k)), (2, .int (nI (by1 f p1))), (3, .int (nI p1))], [.int 1], M42)) rfl rfl rfl ?_
                                    exact ih.2.1 (k) (p1) (1) (E) (tx1) (cN1) (A1) M42 I17 R43 hR44 hEI29 hER48 hi22 hi23 hi24 hi25 hF_46 hY_47 hD_49 (by omega) (by omega) (htx) (hs) (Or.inl ⟨rfl, by unfold tgOk; omega⟩)
          · skip
            obtain ⟨I50, R51, q30_s, rfl, hR52, hI53, hX54, hi55, hi56⟩ := q16
            have hi57 := (hI53 50 (by decide)).trans hl50
            have hi58 := (hI53 51 (by decide)).trans hl51
            have hi59 := (hI53 52 (by decide)).trans hl52
            have hi60 := (hI53 53 (by decide)).trans hl53
            have hF_61 := hF1.mono (cIx hI53 (by decide)) (cRx hX54 (by decide))
            have hY_62 := hY1.mono (cIx hI53 (by decide)) (cRx hX54 (by decide))
            have hP_63 := hP1.mono (cIx hI53 (by decide)) (cRx hX54 (by decide))
            have hEI64 := hEI1.tr hI53 (by decide)
            have hER65 := hER1.tr hX54 (by decide)
            show pl _ _ _ (33, [(0, .ref m0), (1, .int (nI k))], [.int 0], M15) _
            refine ps_if (S1 := (38, [(0, .ref m0), (1, .int (nI k))], [], M15)) (S2 := (36, [(0, .ref m0), (1, .int (nI k))], [], M15)) rfl rfl rfl (fun c_33 => ?_) (fun c_33 => ?_)
            · exact absurd (of_decide_eq_true c_33) (by decide)
            refine ps_st (S' := (37, [(0, .ref m0), (1, .int (nI k))], [.int 0], M15)) rfl rfl rfl ?_
            exact ps_ret rfl rfl (Or.inr ⟨(1, p1), I50, R51, by
                rw [← hs]
                exact s_ents_bad (by omega) (ent_0 (by omega)), rfl, hR52, hEI64, hER65, hi55, hi56⟩)
      · skip
        intro k p1 b E tx1 cN1 A1 M1 I1 R1 hR1 hEI1 hER1 hl50 hl51 hl52 hl53 hF1 hY1 hD1 hk hp1 htx hs hb
        have hn := hF1.1
        have hu9 := by1_lt f p1
        refine ps_st1 (S' := (162, [(4, .int (nI b)), (0, .ref m0), (1, .int (nI k)), (2, .int (nI (by1 f p1))), (3, .int (nI p1))], [], M1)) rfl rfl rfl ?_
        refine ps_st (S' := (164, [(4, .int (nI b)), (0, .ref m0), (1, .int (nI k)), (2, .int (nI (by1 f p1))), (3, .int (nI p1))], [.int (nI b)], M1)) rfl rfl rfl ?_
        refine ps_if (S1 := (174, [(4, .int (nI b)), (0, .ref m0), (1, .int (nI k)), (2, .int (nI (by1 f p1))), (3, .int (nI p1))], [], M1)) (S2 := (167, [(4, .int (nI b)), (0, .ref m0), (1, .int (nI k)), (2, .int (nI (by1 f p1))), (3, .int (nI p1))], [], M1)) rfl rfl rfl (fun c_164 => ?_) (fun c_164 => ?_)
        · have c_164 : ¬ (nI b) = 0 := of_decide_eq_true c_164
          have n_164 : ¬ (b = 0) := fun h9 => c_164 ((eq_nI (p := b) (n := 0) (by omega) (by decide)).mpr h9)
          have ht : tgOk mj (by1 f p1) := by
            rcases hb with ⟨h1, h2⟩ | ⟨h1, h2⟩
            · exact h2
            · omega
          refine ps_st (S' := (175, [(4, .int (nI b)), (0, .ref m0), (1, .int (nI k)), (2, .int (nI (by1 f p1))), (3, .int (nI p1))], [.int (nI (by1 f p1))], M1)) rfl rfl rfl ?_
          refine ps_st (S' := (176, [(4, .int (nI b)), (0, .ref m0), (1, .int (nI k)), (2, .int (nI (by1 f p1))), (3, .int (nI p1))], [.int 5, .int (nI (by1 f p1))], M1)) rfl rfl rfl ?_
          refine ps_if2 (S1 := (185, [(0, .ref m0), (1, .int (nI k)), (2, .int (nI (by1 f p1))), (3, .int (nI p1))], [], M1)) (S2 := (179, [(4, .int (nI b)), (0, .ref m0), (1, .int (nI k)), (2, .int (nI (by1 f p1))), (3, .int (nI p1))], [], M1)) rfl rfl rfl (fun c_176 => ?_) (fun c_176 => ?_)
          · have c_176 : (nI (by1 f p1)) = 5 := of_decide_eq_true c_176
            have n_176 : by1 f p1 = 5 := (eq_nI (p := by1 f p1) (n := 5) (Nat.lt_trans (by1_lt _ _) (by decide)) (by decide)).mp c_176
            refine ps_st (S' := (186, [(0, .ref m0), (1, .int (nI k)), (2, .int (nI (by1 f p1))), (3, .int (nI p1))], [.int (nI k)], M1)) rfl rfl rfl ?_
            refine ps_st (S' := (187, [(0, .ref m0), (1, .int (nI k)), (2, .int (nI (by1 f p1))), (3, .int (nI p1))], [.int 1, .int (nI k)], M1)) rfl rfl rfl ?_
            refine ps_st (S' := (188, [(0, .ref m0), (1, .int (nI k)), (2, .int (nI (by1 f p1))), (3, .int (nI p1))], [.int ((nI k) + 1)], M1)) rfl rfl rfl ?_
            rw [nI_add1 (p := k) (k := 1) (x := 1) rfl (by omega)]
            show pl _ _ _ (_, [(0, .ref m0), (1, .int (nI k)), (2, .int (nI (by1 f p1))), (3, .int (nI p1))], [.int (nI (k + 1))], M1) _
            refine ps_st (S' := (189, [(0, .ref m0), (1, .int (nI k)), (2, .int (nI (by1 f p1))), (3, .int (nI p1))], [.ref m0, .int (nI (k + 1))], M1)) rfl rfl rfl ?_
            refine pr_int (j := 52) (S' := (192, [(0, .ref m0), (1, .int (nI k)), (2, .int (nI (by1 f p1))), (3, .int (nI p1))], [.int (nI N), .int (nI (k + 1))], M1)) rfl hR1 rfl hl52 rfl ?_
            refine ps_if2 (S1 := (203, [(0, .ref m0), (1, .int (nI k)), (2, .int (nI (by1 f p1)))], [], M1)) (S2 := (195, [(0, .ref m0), (1, .int (nI k)), (2, .int (nI (by1 f p1))), (3, .int (nI p1))], [], M1)) rfl rfl rfl (fun c_192 => ?_) (fun c_192 => ?_)
            · have c_192 : (nI (k + 1)) < (nI N) := of_decide_eq_true c_192
              have n_192 : k + 1 < N := (lt_nI (p := k + 1) (n := N) (by omega) (by omega)).mp c_192
              refine ps_st (S' := (204, [(0, .ref m0), (1, .int (nI k)), (2, .int (nI (by1 f p1)))], [.ref m0], M1)) rfl rfl rfl ?_
              refine ps_st (S' := (205, [(0, .ref m0), (1, .int (nI k)), (2, .int (nI (by1 f p1)))], [.ref m0, .ref m0], M1)) rfl rfl rfl ?_
              refine pr_int (j := 50) (S' := (208, [(0, .ref m0), (1, .int (nI k)), (2, .int (nI (by1 f p1)))], [.int (nI p1), .ref m0], M1)) rfl hR1 rfl hl50 rfl ?_
              refine ps_st (S' := (209, [(0, .ref m0), (1, .int (nI k)), (2, .int (nI (by1 f p1)))], [.int 1, .int (nI p1), .ref m0], M1)) rfl rfl rfl ?_
              refine ps_st (S' := (210, [(0, .ref m0), (1, .int (nI k)), (2, .int (nI (by1 f p1)))], [.int ((nI p1) + 1), .ref m0], M1)) rfl rfl rfl ?_
              rw [nI_add1 (p := p1) (k := 1) (x := 1) rfl (by omega)]
              show pl _ _ _ (_, [(0, .ref m0), (1, .int (nI k)), (2, .int (nI (by1 f p1)))], [.int (nI (p1 + 1)), .ref m0], M1) _
              refine pr_put (j := 50) rfl hR1 rfl (fun M66 I67 hR68 hi69 hI70 => ?_)
              have hi71 := (hI70 51 (by decide)).trans hl51
              have hi72 := (hI70 52 (by decide)).trans hl52
              have hi73 := (hI70 53 (by decide)).trans hl53
              have hF_74 := hF1.mono (pIx hI70 (by decide)) (fun _ _ => rfl)
              have hY_75 := hY1.mono (pIx hI70 (by decide)) (fun _ _ => rfl)
              have hD_76 := hD1.mono (pIx hI70 (by decide)) (fun _ _ => rfl)
              have hEI77 := hEI1.put hI70 (by decide)
              show pl _ _ _ (213, [(0, .ref m0), (1, .int (nI k)), (2, .int (nI (by1 f p1)))], [], M66) _
              refine ps_st (S' := (214, [(0, .ref m0), (1, .int (nI k)), (2, .int (nI (by1 f p1)))], [.int (nI (by1 f p1))], M66)) rfl rfl rfl ?_
              refine ps_st (S' := (215, [(0, .ref m0), (1, .int (nI k)), (2, .int (nI (by1 f p1)))], [.int 1, .int (nI (by1 f p1))], M66)) rfl rfl rfl ?_
              refine ps_if2 (S1 := (297, [(0, .ref m0), (1, .int (nI k)), (2, .int (nI (by1 f p1)))], [], M66)) (S2 := (218, [(0, .ref m0), (1, .int (nI k)), (2, .int (nI (by1 f p1)))], [], M66)) rfl rfl rfl (fun c_215 => ?_) (fun c_215 => ?_)
              · have c_215 : ¬ (nI (by1 f p1)) = 1 := of_decide_eq_true c_215
                have n_215 : ¬ (by1 f p1 = 1) := fun h9 => c_215 ((eq_nI (p := by1 f p1) (n := 1) (Nat.lt_trans (by1_lt _ _) (by decide)) (by decide)).mpr h9)
                refine ps_st (S' := (298, [(0, .ref m0), (1, .int (nI k)), (2, .int (nI (by1 f p1)))], [.int (nI (by1 f p1))], M66)) rfl rfl rfl ?_
                refine ps_st (S' := (300, [(0, .ref m0), (1, .int (nI k)), (2, .int (nI (by1 f p1)))], [.int 15, .int (nI (by1 f p1))], M66)) rfl rfl rfl ?_
                refine ps_if2 (S1 := (348, [(0, .ref m0), (1, .int (nI k)), (2, .int (nI (by1 f p1)))], [], M66)) (S2 := (303, [(0, .ref m0), (1, .int (nI k)), (2, .int (nI (by1 f p1)))], [], M66)) rfl rfl rfl (fun c_300 => ?_) (fun c_300 => ?_)
                · have c_300 : ¬ (nI (by1 f p1)) = 15 := of_decide_eq_true c_300
                  have n_300 : ¬ (by1 f p1 = 15) := fun h9 => c_300 ((eq_nI (p := by1 f p1) (n := 15) (Nat.lt_trans (by1_lt _ _) (by decide)) (by decide)).mpr h9)
                  refine ps_st (S' := (349, [(0, .ref m0), (1, .int (nI k)), (2, .int (nI (by1 f p1)))], [.int (nI (by1 f p1))], M66)) rfl rfl rfl ?_
                  refine ps_st (S' := (350, [(0, .ref m0), (1, .int (nI k)), (2, .int (nI (by1 f p1)))], [.int 3, .int (nI (by1 f p1))], M66)) rfl rfl rfl ?_
                  refine ps_if2 (S1 := (358, [(0, .ref m0), (1, .int (nI k)), (2, .int (nI (by1 f p1)))], [], M66)) (S2 := (353, [(0, .ref m0), (1, .int (nI k)), (2, .int (nI (by1 f p1)))], [], M66)) rfl rfl rfl (fun c_350 => ?_) (fun c_350 => ?_)
                  · have c_350 : (nI (by1 f p1)) = 3 := of_decide_eq_true c_350
                    have n_350 : by1 f p1 = 3 := (eq_nI (p := by1 f p1) (n := 3) (Nat.lt_trans (by1_lt _ _) (by decide)) (by decide)).mp c_350
                    refine ps_st (S' := (359, [(0, .ref m0), (1, .int (nI k)), (2, .int (nI (by1 f p1)))], [.ref m0], M66)) rfl rfl rfl ?_
                    refine ps_st (S' := (362, [(0, .ref m0), (1, .int (nI k)), (2, .int (nI (by1 f p1)))], [.long 4, .ref m0], M66)) rfl rfl rfl ?_
                    refine pl_call (a := [.ref m0, .long 4]) (rest := []) rfl rfl rfl (rd_item (n := n) (f := f) (p := (p1 + 1)) (k := 4) hR68 hi69 hF_74 (by omega) (by decide)) (fun v78 M79 q80 => ?_)
                    rcases q80 with q80 | q80
                    · skip
                      obtain ⟨I81, R82, q362_s, rfl, hR83, hI84, hX85⟩ := q80
                      have hi86 := (hI84 51 (by decide)).trans hi71
                      have hi87 := (hI84 52 (by decide)).trans hi72
                      have hi88 := (hI84 53 (by decide)).trans hi73
                      have hi89 := (hI84 50 (by decide)).trans hi69
                      have hF_90 := hF_74.mono (cIx hI84 (by decide)) (cRx hX85 (by decide))
                      have hY_91 := hY_75.mono (cIx hI84 (by decide)) (cRx hX85 (by decide))
                      have hD_92 := hD_76.mono (cIx hI84 (by decide)) (cRx hX85 (by decide))
                      have hEI93 := hEI77.tr hI84 (by decide)
                      have hER94 := hER1.tr hX85 (by decide)
                      show pl _ _ _ (365, [(0, .ref m0), (1, .int (nI k)), (2, .int (nI (by1 f p1)))], [.int 1], M79) _
                      refine ps_if (S1 := (370, [(0, .ref m0), (1, .int (nI k)), (2, .int (nI (by1 f p1)))], [], M79)) (S2 := (368, [(0, .ref m0), (1, .int (nI k)), (2, .int (nI (by1 f p1)))], [], M79)) rfl rfl rfl (fun c_365 => ?_) (fun c_365 => ?_)
                      rotate_left
                      · exact absurd (by decide) (of_decide_eq_false c_365)
                      refine ps_st (S' := (371, [(0, .ref m0), (1, .int (nI k)), (2, .int (nI (by1 f p1)))], [.ref m0], M79)) rfl rfl rfl ?_
                      refine ps_st (S' := (372, [(0, .ref m0), (1, .int (nI k)), (2, .int (nI (by1 f p1)))], [.ref m0, .ref m0], M79)) rfl rfl rfl ?_
                      refine pr_int (j := 50) (S' := (375, [(0, .ref m0), (1, .int (nI k)), (2, .int (nI (by1 f p1)))], [.int (nI (p1 + 1)), .ref m0], M79)) rfl hR83 rfl hi89 rfl ?_
                      refine ps_st (S' := (376, [(0, .ref m0), (1, .int (nI k)), (2, .int (nI (by1 f p1)))], [.int 4, .int (nI (p1 + 1)), .ref m0], M79)) rfl rfl rfl ?_
                      refine ps_st (S' := (377, [(0, .ref m0), (1, .int (nI k)), (2, .int (nI (by1 f p1)))], [.int ((nI (p1 + 1)) + 4), .ref m0], M79)) rfl rfl rfl ?_
                      rw [nI_add1 (p := p1 + 1) (k := 4) (x := 4) rfl (by omega)]
                      show pl _ _ _ (_, [(0, .ref m0), (1, .int (nI k)), (2, .int (nI (by1 f p1)))], [.int (nI (p1 + 5)), .ref m0], M79) _
                      refine pr_put (j := 50) rfl hR83 rfl (fun M95 I96 hR97 hi98 hI99 => ?_)
                      have hi100 := (hI99 51 (by decide)).trans hi86
                      have hi101 := (hI99 52 (by decide)).trans hi87
                      have hi102 := (hI99 53 (by decide)).trans hi88
                      have hF_103 := hF_90.mono (pIx hI99 (by decide)) (fun _ _ => rfl)
                      have hY_104 := hY_91.mono (pIx hI99 (by decide)) (fun _ _ => rfl)
                      have hD_105 := hD_92.mono (pIx hI99 (by decide)) (fun _ _ => rfl)
                      have hEI106 := hEI93.put hI99 (by decide)
                      show pl _ _ _ (380, [(0, .ref m0), (1, .int (nI k)), (2, .int (nI (by1 f p1)))], [], M95) _
                      refine ps_st (S' := (499, [(0, .ref m0), (1, .int (nI k)), (2, .int (nI (by1 f p1)))], [], M95)) rfl rfl rfl ?_
                      have hE9 := hD_105.no (by omega)
                      exact ih.2.2.2.2 (k) (p1) (p1 + 5) (E) (tx1) (cN1) (A1) M95 I96 R82 hR97 hEI106 hER94 hi98 hi100 hi101 hi102 hF_103 hY_104 hE9 (hk) (hp1) (htx) (hs) (ht) (⟨_, by rw [ent_4 (by omega) ht (by omega), if_neg (by omega)]⟩) (by omega) (by omega)
                    · skip
                      obtain ⟨I107, R108, q362_s, rfl, hR109, hI110, hX111, hi112, hi113⟩ := q80
                      have hi114 := (hI110 51 (by decide)).trans hi71
                      have hi115 := (hI110 52 (by decide)).trans hi72
                      have hi116 := (hI110 53 (by decide)).trans hi73
                      have hi117 := (hI110 50 (by decide)).trans hi69
                      have hF_118 := hF_74.mono (cIx hI110 (by decide)) (cRx hX111 (by decide))
                      have hY_119 := hY_75.mono (cIx hI110 (by decide)) (cRx hX111 (by decide))
                      have hD_120 := hD_76.mono (cIx hI110 (by decide)) (cRx hX111 (by decide))
                      have hEI121 := hEI77.tr hI110 (by decide)
                      have hER122 := hER1.tr hX111 (by decide)
                      show pl _ _ _ (365, [(0, .ref m0), (1, .int (nI k)), (2, .int (nI (by1 f p1)))], [.int 0], M79) _
                      refine ps_if (S1 := (370, [(0, .ref m0), (1, .int (nI k)), (2, .int (nI (by1 f p1)))], [], M79)) (S2 := (368, [(0, .ref m0), (1, .int (nI k)), (2, .int (nI (by1 f p1)))], [], M79)) rfl rfl rfl (fun c_365 => ?_) (fun c_365 => ?_)
                      · exact absurd (of_decide_eq_true c_365) (by decide)
                      refine ps_st (S' := (369, [(0, .ref m0), (1, .int (nI k)), (2, .int (nI (by1 f p1)))], [.int 0], M79)) rfl rfl rfl ?_
                      exact ps_ret rfl rfl (Or.inr ⟨(1, p1 + 1), I107, R108, by
                          rw [← hs]
                          exact s_ents_bad (by omega) (by rw [ent_4 (by omega) ht (by omega), if_pos (by omega)]), rfl, hR109, hEI121, hER122, hi112, hi113⟩)
                  · have c_350 : ¬ ((nI (by1 f p1)) = 3) := of_decide_eq_false c_350
                    have n_350 : ¬ (by1 f p1 = 3) := fun h9 => c_350 ((eq_nI (p := by1 f p1) (n := 3) (Nat.lt_trans (by1_lt _ _) (by decide)) (by decide)).mpr h9)
                    refine ps_st (S' := (354, [(0, .ref m0), (1, .int (nI k)), (2, .int (nI (by1 f p1)))], [.int (nI (by1 f p1))], M66)) rfl rfl rfl ?_
                    refine ps_st (S' := (355, [(0, .ref m0), (1, .int (nI k)), (2, .int (nI (by1 f p1)))], [.int 4, .int (nI (by1 f p1))], M66)) rfl rfl rfl ?_
                    refine ps_if2 (S1 := (383, [(0, .ref m0), (1, .int (nI k)), (2, .int (nI (by1 f p1)))], [], M66)) (S2 := (358, [(0, .ref m0), (1, .int (nI k)), (2, .int (nI (by1 f p1)))], [], M66)) rfl rfl rfl (fun c_355 => ?_) (fun c_355 => ?_)
                    · have c_355 : ¬ (nI (by1 f p1)) = 4 := of_decide_eq_true c_355
                      have n_355 : ¬ (by1 f p1 = 4) := fun h9 => c_355 ((eq_nI (p := by1 f p1) (n := 4) (Nat.lt_trans (by1_lt _ _) (by decide)) (by decide)).mpr h9)
                      refine ps_st (S' := (384, [(0, .ref m0), (1, .int (nI k)), (2, .int (nI (by1 f p1)))], [.int (nI (by1 f p1))], M66)) rfl rfl rfl ?_
                      refine ps_st (S' := (385, [(0, .ref m0), (1, .int (nI k)), (2, .int (nI (by1 f p1)))], [.int 5, .int (nI (by1 f p1))], M66)) rfl rfl rfl ?_
                      refine ps_if2 (S1 := (394, [(0, .ref m0), (1, .int (nI k)), (2, .int (nI (by1 f p1)))], [], M66)) (S2 := (388, [(0, .ref m0), (1, .int (nI k)), (2, .int (nI (by1 f p1)))], [], M66)) rfl rfl rfl (fun c_385 => ?_) (fun c_385 => ?_)
                      · have c_385 : (nI (by1 f p1)) = 5 := of_decide_eq_true c_385
                        have n_385 : by1 f p1 = 5 := (eq_nI (p := by1 f p1) (n := 5) (Nat.lt_trans (by1_lt _ _) (by decide)) (by decide)).mp c_385
                        refine ps_st (S' := (395, [(0, .ref m0), (1, .int (nI k)), (2, .int (nI (by1 f p1)))], [.int 0], M66)) rfl rfl rfl ?_
                        refine ps_st (S' := (397, [(0, .ref m0), (1, .int (nI k)), (2, .int (nI (by1 f p1))), (5, .int 0)], [], M66)) rfl rfl rfl ?_
                        exact ih.2.2.1 (k) (p1) (0) (E) (tx1) (cN1) (A1) M66 I67 R1 hR68 hEI77 hER1 hi69 hi71 hi72 hi73 hF_74 hY_75 hD_76 (hk) (hp1) (htx) (hs) (ht) (by omega) (by omega) (by omega)
                      · have c_385 : ¬ ((nI (by1 f p1)) = 5) := of_decide_eq_false c_385
                        have n_385 : ¬ (by1 f p1 = 5) := fun h9 => c_385 ((eq_nI (p := by1 f p1) (n := 5) (Nat.lt_trans (by1_lt _ _) (by decide)) (by decide)).mpr h9)
                        refine ps_st (S' := (389, [(0, .ref m0), (1, .int (nI k)), (2, .int (nI (by1 f p1)))], [.int (nI (by1 f p1))], M66)) rfl rfl rfl ?_
                        refine ps_st (S' := (391, [(0, .ref m0), (1, .int (nI k)), (2, .int (nI (by1 f p1)))], [.int 6, .int (nI (by1 f p1))], M66)) rfl rfl rfl ?_
                        refine ps_if2 (S1 := (434, [(0, .ref m0), (1, .int (nI k)), (2, .int (nI (by1 f p1)))], [], M66)) (S2 := (394, [(0, .ref m0), (1, .int (nI k)), (2, .int (nI (by1 f p1)))], [], M66)) rfl rfl rfl (fun c_391 => ?_) (fun c_391 => ?_)
                        · have c_391 : ¬ (nI (by1 f p1)) = 6 := of_decide_eq_true c_391
                          have n_391 : ¬ (by1 f p1 = 6) := fun h9 => c_391 ((eq_nI (p := by1 f p1) (n := 6) (Nat.lt_trans (by1_lt _ _) (by decide)) (by decide)).mpr h9)
                          refine ps_st (S' := (435, [(0, .ref m0), (1, .int (nI k)), (2, .int (nI (by1 f p1)))], [.int 0], M66)) rfl rfl rfl ?_
                          refine ps_st (S' := (437, [(0, .ref m0), (1, .int (nI k)), (2, .int (nI (by1 f p1))), (5, .int 0)], [], M66)) rfl rfl rfl ?_
                          exact ih.2.2.2.1 (k) (p1) (0) (E) (tx1) (cN1) (A1) M66 I67 R1 hR68 hEI77 hER1 hi69 hi71 hi72 hi73 hF_74 hY_75 hD_76 (hk) (hp1) (htx) (hs) (ht) (by omega) (by omega)
                        · have c_391 : ¬ (¬ (nI (by1 f p1)) = 6) := of_decide_eq_false c_391
                          have n_391 : by1 f p1 = 6 := (eq_nI (p := by1 f p1) (n := 6) (Nat.lt_trans (by1_lt _ _) (by decide)) (by decide)).mp (Decidable.not_not.mp c_391)
                          refine ps_st (S' := (395, [(0, .ref m0), (1, .int (nI k)), (2, .int (nI (by1 f p1)))], [.int 0], M66)) rfl rfl rfl ?_
                          refine ps_st (S' := (397, [(0, .ref m0), (1, .int (nI k)), (2, .int (nI (by1 f p1))), (5, .int 0)], [], M66)) rfl rfl rfl ?_
                          exact ih.2.2.1 (k) (p1) (0) (E) (tx1) (cN1) (A1) M66 I67 R1 hR68 hEI77 hER1 hi69 hi71 hi72 hi73 hF_74 hY_75 hD_76 (hk) (hp1) (htx) (hs) (ht) (by omega) (by omega) (by omega)
                    · have c_355 : ¬ (¬ (nI (by1 f p1)) = 4) := of_decide_eq_false c_355
                      have n_355 : by1 f p1 = 4 := (eq_nI (p := by1 f p1) (n := 4) (Nat.lt_trans (by1_lt _ _) (by decide)) (by decide)).mp (Decidable.not_not.mp c_355)
                      refine ps_st (S' := (359, [(0, .ref m0), (1, .int (nI k)), (2, .int (nI (by1 f p1)))], [.ref m0], M66)) rfl rfl rfl ?_
                      refine ps_st (S' := (362, [(0, .ref m0), (1, .int (nI k)), (2, .int (nI (by1 f p1)))], [.long 4, .ref m0], M66)) rfl rfl rfl ?_
                      refine pl_call (a := [.ref m0, .long 4]) (rest := []) rfl rfl rfl (rd_item (n := n) (f := f) (p := (p1 + 1)) (k := 4) hR68 hi69 hF_74 (by omega) (by decide)) (fun v123 M124 q125 => ?_)
                      rcases q125 with q125 | q125
                      · skip
                        obtain ⟨I126, R127, q362_s, rfl, hR128, hI129, hX130⟩ := q125
                        have hi131 := (hI129 51 (by decide)).trans hi71
                        have hi132 := (hI129 52 (by decide)).trans hi72
                        have hi133 := (hI129 53 (by decide)).trans hi73
                        have hi134 := (hI129 50 (by decide)).trans hi69
                        have hF_135 := hF_74.mono (cIx hI129 (by decide)) (cRx hX130 (by decide))
                        have hY_136 := hY_75.mono (cIx hI129 (by decide)) (cRx hX130 (by decide))
                        have hD_137 := hD_76.mono (cIx hI129 (by decide)) (cRx hX130 (by decide))
                        have hEI138 := hEI77.tr hI129 (by decide)
                        have hER139 := hER1.tr hX130 (by decide)
                        show pl _ _ _ (365, [(0, .ref m0), (1, .int (nI k)), (2, .int (nI (by1 f p1)))], [.int 1], M124) _
                        refine ps_if (S1 := (370, [(0, .ref m0), (1, .int (nI k)), (2, .int (nI (by1 f p1)))], [], M124)) (S2 := (368, [(0, .ref m0), (1, .int (nI k)), (2, .int (nI (by1 f p1)))], [], M124)) rfl rfl rfl (fun c_365 => ?_) (fun c_365 => ?_)
                        rotate_left
                        · exact absurd (by decide) (of_decide_eq_false c_365)
                        refine ps_st (S' := (371, [(0, .ref m0), (1, .int (nI k)), (2, .int (nI (by1 f p1)))], [.ref m0], M124)) rfl rfl rfl ?_
                        refine ps_st (S' := (372, [(0, .ref m0), (1, .int (nI k)), (2, .int (nI (by1 f p1)))], [.ref m0, .ref m0], M124)) rfl rfl rfl ?_
                        refine pr_int (j := 50) (S' := (375, [(0, .ref m0), (1, .int (nI k)), (2, .int (nI (by1 f p1)))], [.int (nI (p1 + 1)), .ref m0], M124)) rfl hR128 rfl hi134 rfl ?_
                        refine ps_st (S' := (376, [(0, .ref m0), (1, .int (nI k)), (2, .int (nI (by1 f p1)))], [.int 4, .int (nI (p1 + 1)), .ref m0], M124)) rfl rfl rfl ?_
                        refine ps_st (S' := (377, [(0, .ref m0), (1, .int (nI k)), (2, .int (nI (by1 f p1)))], [.int ((nI (p1 + 1)) + 4), .ref m0], M124)) rfl rfl rfl ?_
                        rw [nI_add1 (p := p1 + 1) (k := 4) (x := 4) rfl (by omega)]
                        show pl _ _ _ (_, [(0, .ref m0), (1, .int (nI k)), (2, .int (nI (by1 f p1)))], [.int (nI (p1 + 5)), .ref m0], M124) _
                        refine pr_put (j := 50) rfl hR128 rfl (fun M140 I141 hR142 hi143 hI144 => ?_)
                        have hi145 := (hI144 51 (by decide)).trans hi131
                        have hi146 := (hI144 52 (by decide)).trans hi132
                        have hi147 := (hI144 53 (by decide)).trans hi133
                        have hF_148 := hF_135.mono (pIx hI144 (by decide)) (fun _ _ => rfl)
                        have hY_149 := hY_136.mono (pIx hI144 (by decide)) (fun _ _ => rfl)
                        have hD_150 := hD_137.mono (pIx hI144 (by decide)) (fun _ _ => rfl)
                        have hEI151 := hEI138.put hI144 (by decide)
                        show pl _ _ _ (380, [(0, .ref m0), (1, .int (nI k)), (2, .int (nI (by1 f p1)))], [], M140) _
                        refine ps_st (S' := (499, [(0, .ref m0), (1, .int (nI k)), (2, .int (nI (by1 f p1)))], [], M140)) rfl rfl rfl ?_
                        have hE9 := hD_150.no (by omega)
                        exact ih.2.2.2.2 (k) (p1) (p1 + 5) (E) (tx1) (cN1) (A1) M140 I141 R127 hR142 hEI151 hER139 hi143 hi145 hi146 hi147 hF_148 hY_149 hE9 (hk) (hp1) (htx) (hs) (ht) (⟨_, by rw [ent_4 (by omega) ht (by omega), if_neg (by omega)]⟩) (by omega) (by omega)
                      · skip
                        obtain ⟨I152, R153, q362_s, rfl, hR154, hI155, hX156, hi157, hi158⟩ := q125
                        have hi159 := (hI155 51 (by decide)).trans hi71
                        have hi160 := (hI155 52 (by decide)).trans hi72
                        have hi161 := (hI155 53 (by decide)).trans hi73
                        have hi162 := (hI155 50 (by decide)).trans hi69
                        have hF_163 := hF_74.mono (cIx hI155 (by decide)) (cRx hX156 (by decide))
                        have hY_164 := hY_75.mono (cIx hI155 (by decide)) (cRx hX156 (by decide))
                        have hD_165 := hD_76.mono (cIx hI155 (by decide)) (cRx hX156 (by decide))
                        have hEI166 := hEI77.tr hI155 (by decide)
                        have hER167 := hER1.tr hX156 (by decide)
                        show pl _ _ _ (365, [(0, .ref m0), (1, .int (nI k)), (2, .int (nI (by1 f p1)))], [.int 0], M124) _
                        refine ps_if (S1 := (370, [(0, .ref m0), (1, .int (nI k)), (2, .int (nI (by1 f p1)))], [], M124)) (S2 := (368, [(0, .ref m0), (1, .int (nI k)), (2, .int (nI (by1 f p1)))], [], M124)) rfl rfl rfl (fun c_365 => ?_) (fun c_365 => ?_)
                        · exact absurd (of_decide_eq_true c_365) (by decide)
                        refine ps_st (S' := (369, [(0, .ref m0), (1, .int (nI k)), (2, .int (nI (by1 f p1)))], [.int 0], M124)) rfl rfl rfl ?_
                        exact ps_ret rfl rfl (Or.inr ⟨(1, p1 + 1), I152, R153, by
                            rw [← hs]
                            exact s_ents_bad (by omega) (by rw [ent_4 (by omega) ht (by omega), if_pos (by omega)]), rfl, hR154, hEI166, hER167, hi157, hi158⟩)
                · have c_300 : ¬ (¬ (nI (by1 f p1)) = 15) := of_decide_eq_false c_300
                  have n_300 : by1 f p1 = 15 := (eq_nI (p := by1 f p1) (n := 15) (Nat.lt_trans (by1_lt _ _) (by decide)) (by decide)).mp (Decidable.not_not.mp c_300)
                  refine ps_st (S' := (304, [(0, .ref m0), (1, .int (nI k)), (2, .int (nI (by1 f p1)))], [.ref m0], M66)) rfl rfl rfl ?_
                  refine ps_st (S' := (305, [(0, .ref m0), (1, .int (nI k)), (2, .int (nI (by1 f p1)))], [.long 1, .ref m0], M66)) rfl rfl rfl ?_
                  refine pl_call (a := [.ref m0, .long 1]) (rest := []) rfl rfl rfl (rd_item (n := n) (f := f) (p := (p1 + 1)) (k := 1) hR68 hi69 hF_74 (by omega) (by decide)) (fun v168 M169 q170 => ?_)
                  rcases q170 with q170 | q170
                  · skip
                    obtain ⟨I171, R172, q305_s, rfl, hR173, hI174, hX175⟩ := q170
                    have hi176 := (hI174 51 (by decide)).trans hi71
                    have hi177 := (hI174 52 (by decide)).trans hi72
                    have hi178 := (hI174 53 (by decide)).trans hi73
                    have hi179 := (hI174 50 (by decide)).trans hi69
                    have hF_180 := hF_74.mono (cIx hI174 (by decide)) (cRx hX175 (by decide))
                    have hY_181 := hY_75.mono (cIx hI174 (by decide)) (cRx hX175 (by decide))
                    have hD_182 := hD_76.mono (cIx hI174 (by decide)) (cRx hX175 (by decide))
                    have hEI183 := hEI77.tr hI174 (by decide)
                    have hER184 := hER1.tr hX175 (by decide)
                    show pl _ _ _ (308, [(0, .ref m0), (1, .int (nI k)), (2, .int (nI (by1 f p1)))], [.int 1], M169) _
                    refine ps_if (S1 := (313, [(0, .ref m0), (1, .int (nI k)), (2, .int (nI (by1 f p1)))], [], M169)) (S2 := (311, [(0, .ref m0), (1, .int (nI k)), (2, .int (nI (by1 f p1)))], [], M169)) rfl rfl rfl (fun c_308 => ?_) (fun c_308 => ?_)
                    rotate_left
                    · exact absurd (by decide) (of_decide_eq_false c_308)
                    refine ps_st (S' := (314, [(0, .ref m0), (1, .int (nI k)), (2, .int (nI (by1 f p1)))], [.ref m0], M169)) rfl rfl rfl ?_
                    refine ps_st (S' := (315, [(0, .ref m0), (1, .int (nI k)), (2, .int (nI (by1 f p1)))], [.ref m0, .ref m0], M169)) rfl rfl rfl ?_
                    refine pr_int (j := 50) (S' := (318, [(0, .ref m0), (1, .int (nI k)), (2, .int (nI (by1 f p1)))], [.int (nI (p1 + 1)), .ref m0], M169)) rfl hR173 rfl hi179 rfl ?_
                    refine ps_st (S' := (319, [(0, .ref m0), (1, .int (nI k)), (2, .int (nI (by1 f p1)))], [.int 1, .int (nI (p1 + 1)), .ref m0], M169)) rfl rfl rfl ?_
                    refine ps_st (S' := (320, [(0, .ref m0), (1, .int (nI k)), (2, .int (nI (by1 f p1)))], [.int ((nI (p1 + 1)) + 1), .ref m0], M169)) rfl rfl rfl ?_
                    rw [nI_add1 (p := p1 + 1) (k := 1) (x := 1) rfl (by omega)]
                    show pl _ _ _ (_, [(0, .ref m0), (1, .int (nI k)), (2, .int (nI (by1 f p1)))], [.int (nI (p1 + 2)), .ref m0], M169) _
                    refine pr_put (j := 50) rfl hR173 rfl (fun M185 I186 hR187 hi188 hI189 => ?_)
                    have hi190 := (hI189 51 (by decide)).trans hi176
                    have hi191 := (hI189 52 (by decide)).trans hi177
                    have hi192 := (hI189 53 (by decide)).trans hi178
                    have hF_193 := hF_180.mono (pIx hI189 (by decide)) (fun _ _ => rfl)
                    have hY_194 := hY_181.mono (pIx hI189 (by decide)) (fun _ _ => rfl)
                    have hD_195 := hD_182.mono (pIx hI189 (by decide)) (fun _ _ => rfl)
                    have hEI196 := hEI183.put hI189 (by decide)
                    show pl _ _ _ (323, [(0, .ref m0), (1, .int (nI k)), (2, .int (nI (by1 f p1)))], [], M185) _
                    refine ps_st (S' := (324, [(0, .ref m0), (1, .int (nI k)), (2, .int (nI (by1 f p1)))], [.ref m0], M185)) rfl rfl rfl ?_
                    refine ps_st (S' := (327, [(0, .ref m0), (1, .int (nI k)), (2, .int (nI (by1 f p1)))], [.long 2, .ref m0], M185)) rfl rfl rfl ?_
                    refine pl_call (a := [.ref m0, .long 2]) (rest := []) rfl rfl rfl (rd_item (n := n) (f := f) (p := (p1 + 2)) (k := 2) hR187 hi188 hF_193 (by omega) (by decide)) (fun v197 M198 q199 => ?_)
                    rcases q199 with q199 | q199
                    · skip
                      obtain ⟨I200, R201, q327_s, rfl, hR202, hI203, hX204⟩ := q199
                      have hi205 := (hI203 51 (by decide)).trans hi190
                      have hi206 := (hI203 52 (by decide)).trans hi191
                      have hi207 := (hI203 53 (by decide)).trans hi192
                      have hi208 := (hI203 50 (by decide)).trans hi188
                      have hF_209 := hF_193.mono (cIx hI203 (by decide)) (cRx hX204 (by decide))
                      have hY_210 := hY_194.mono (cIx hI203 (by decide)) (cRx hX204 (by decide))
                      have hD_211 := hD_195.mono (cIx hI203 (by decide)) (cRx hX204 (by decide))
                      have hEI212 := hEI196.tr hI203 (by decide)
                      have hER213 := hER184.tr hX204 (by decide)
                      show pl _ _ _ (330, [(0, .ref m0), (1, .int (nI k)), (2, .int (nI (by1 f p1)))], [.int 1], M198) _
                      refine ps_if (S1 := (335, [(0, .ref m0), (1, .int (nI k)), (2, .int (nI (by1 f p1)))], [], M198)) (S2 := (333, [(0, .ref m0), (1, .int (nI k)), (2, .int (nI (by1 f p1)))], [], M198)) rfl rfl rfl (fun c_330 => ?_) (fun c_330 => ?_)
                      rotate_left
                      · exact absurd (by decide) (of_decide_eq_false c_330)
                      refine ps_st (S' := (336, [(0, .ref m0), (1, .int (nI k)), (2, .int (nI (by1 f p1)))], [.ref m0], M198)) rfl rfl rfl ?_
                      refine ps_st (S' := (337, [(0, .ref m0), (1, .int (nI k)), (2, .int (nI (by1 f p1)))], [.ref m0, .ref m0], M198)) rfl rfl rfl ?_
                      refine pr_int (j := 50) (S' := (340, [(0, .ref m0), (1, .int (nI k)), (2, .int (nI (by1 f p1)))], [.int (nI (p1 + 2)), .ref m0], M198)) rfl hR202 rfl hi208 rfl ?_
                      refine ps_st (S' := (341, [(0, .ref m0), (1, .int (nI k)), (2, .int (nI (by1 f p1)))], [.int 2, .int (nI (p1 + 2)), .ref m0], M198)) rfl rfl rfl ?_
                      refine ps_st (S' := (342, [(0, .ref m0), (1, .int (nI k)), (2, .int (nI (by1 f p1)))], [.int ((nI (p1 + 2)) + 2), .ref m0], M198)) rfl rfl rfl ?_
                      rw [nI_add1 (p := p1 + 2) (k := 2) (x := 2) rfl (by omega)]
                      show pl _ _ _ (_, [(0, .ref m0), (1, .int (nI k)), (2, .int (nI (by1 f p1)))], [.int (nI (p1 + 4)), .ref m0], M198) _
                      refine pr_put (j := 50) rfl hR202 rfl (fun M214 I215 hR216 hi217 hI218 => ?_)
                      have hi219 := (hI218 51 (by decide)).trans hi205
                      have hi220 := (hI218 52 (by decide)).trans hi206
                      have hi221 := (hI218 53 (by decide)).trans hi207
                      have hF_222 := hF_209.mono (pIx hI218 (by decide)) (fun _ _ => rfl)
                      have hY_223 := hY_210.mono (pIx hI218 (by decide)) (fun _ _ => rfl)
                      have hD_224 := hD_211.mono (pIx hI218 (by decide)) (fun _ _ => rfl)
                      have hEI225 := hEI212.put hI218 (by decide)
                      show pl _ _ _ (345, [(0, .ref m0), (1, .int (nI k)), (2, .int (nI (by1 f p1)))], [], M214) _
                      refine ps_st (S' := (499, [(0, .ref m0), (1, .int (nI k)), (2, .int (nI (by1 f p1)))], [], M214)) rfl rfl rfl ?_
                      have hE9 := hD_224.no (by omega)
                      exact ih.2.2.2.2 (k) (p1) (p1 + 4) (E) (tx1) (cN1) (A1) M214 I215 R201 hR216 hEI225 hER213 hi217 hi219 hi220 hi221 hF_222 hY_223 hE9 (hk) (hp1) (htx) (hs) (ht) (⟨_, by rw [ent_x (by omega) ht (by omega), ix_15 (by omega), if_neg (by omega), if_neg (by omega)]⟩) (by omega) (by omega)
                    · skip
                      obtain ⟨I226, R227, q327_s, rfl, hR228, hI229, hX230, hi231, hi232⟩ := q199
                      have hi233 := (hI229 51 (by decide)).trans hi190
                      have hi234 := (hI229 52 (by decide)).trans hi191
                      have hi235 := (hI229 53 (by decide)).trans hi192
                      have hi236 := (hI229 50 (by decide)).trans hi188
                      have hF_237 := hF_193.mono (cIx hI229 (by decide)) (cRx hX230 (by decide))
                      have hY_238 := hY_194.mono (cIx hI229 (by decide)) (cRx hX230 (by decide))
                      have hD_239 := hD_195.mono (cIx hI229 (by decide)) (cRx hX230 (by decide))
                      have hEI240 := hEI196.tr hI229 (by decide)
                      have hER241 := hER184.tr hX230 (by decide)
                      show pl _ _ _ (330, [(0, .ref m0), (1, .int (nI k)), (2, .int (nI (by1 f p1)))], [.int 0], M198) _
                      refine ps_if (S1 := (335, [(0, .ref m0), (1, .int (nI k)), (2, .int (nI (by1 f p1)))], [], M198)) (S2 := (333, [(0, .ref m0), (1, .int (nI k)), (2, .int (nI (by1 f p1)))], [], M198)) rfl rfl rfl (fun c_330 => ?_) (fun c_330 => ?_)
                      · exact absurd (of_decide_eq_true c_330) (by decide)
                      refine ps_st (S' := (334, [(0, .ref m0), (1, .int (nI k)), (2, .int (nI (by1 f p1)))], [.int 0], M198)) rfl rfl rfl ?_
                      exact ps_ret rfl rfl (Or.inr ⟨(1, p1 + 2), I226, R227, by
                          rw [← hs]
                          exact s_ents_bad (by omega) (by rw [ent_x (by omega) ht (by omega), ix_15 (by omega), if_neg (by omega), if_pos (by omega)]), rfl, hR228, hEI240, hER241, hi231, hi232⟩)
                  · skip
                    obtain ⟨I242, R243, q305_s, rfl, hR244, hI245, hX246, hi247, hi248⟩ := q170
                    have hi249 := (hI245 51 (by decide)).trans hi71
                    have hi250 := (hI245 52 (by decide)).trans hi72
                    have hi251 := (hI245 53 (by decide)).trans hi73
                    have hi252 := (hI245 50 (by decide)).trans hi69
                    have hF_253 := hF_74.mono (cIx hI245 (by decide)) (cRx hX246 (by decide))
                    have hY_254 := hY_75.mono (cIx hI245 (by decide)) (cRx hX246 (by decide))
                    have hD_255 := hD_76.mono (cIx hI245 (by decide)) (cRx hX246 (by decide))
                    have hEI256 := hEI77.tr hI245 (by decide)
                    have hER257 := hER1.tr hX246 (by decide)
                    show pl _ _ _ (308, [(0, .ref m0), (1, .int (nI k)), (2, .int (nI (by1 f p1)))], [.int 0], M169) _
                    refine ps_if (S1 := (313, [(0, .ref m0), (1, .int (nI k)), (2, .int (nI (by1 f p1)))], [], M169)) (S2 := (311, [(0, .ref m0), (1, .int (nI k)), (2, .int (nI (by1 f p1)))], [], M169)) rfl rfl rfl (fun c_308 => ?_) (fun c_308 => ?_)
                    · exact absurd (of_decide_eq_true c_308) (by decide)
                    refine ps_st (S' := (312, [(0, .ref m0), (1, .int (nI k)), (2, .int (nI (by1 f p1)))], [.int 0], M169)) rfl rfl rfl ?_
                    exact ps_ret rfl rfl (Or.inr ⟨(1, p1 + 1), I242, R243, by
                        rw [← hs]
                        exact s_ents_bad (by omega) (by rw [ent_x (by omega) ht (by omega), ix_15 (by omega), if_pos (by omega)]), rfl, hR244, hEI256, hER257, hi247, hi248⟩)
              · have c_215 : ¬ (¬ (nI (by1 f p1)) = 1) := of_decide_eq_false c_215
                have n_215 : by1 f p1 = 1 := (eq_nI (p := by1 f p1) (n := 1) (Nat.lt_trans (by1_lt _ _) (by decide)) (by decide)).mp (Decidable.not_not.mp c_215)
                refine ps_st (S' := (219, [(0, .ref m0), (1, .int (nI k)), (2, .int (nI (by1 f p1)))], [.ref m0], M66)) rfl rfl rfl ?_
                refine ps_st (S' := (222, [(0, .ref m0), (1, .int (nI k)), (2, .int (nI (by1 f p1)))], [.long 2, .ref m0], M66)) rfl rfl rfl ?_
                refine pl_call (a := [.ref m0, .long 2]) (rest := []) rfl rfl rfl (rd_item (n := n) (f := f) (p := (p1 + 1)) (k := 2) hR68 hi69 hF_74 (by omega) (by decide)) (fun v258 M259 q260 => ?_)
                rcases q260 with q260 | q260
                · skip
                  obtain ⟨I261, R262, q222_s, rfl, hR263, hI264, hX265⟩ := q260
                  have hi266 := (hI264 51 (by decide)).trans hi71
                  have hi267 := (hI264 52 (by decide)).trans hi72
                  have hi268 := (hI264 53 (by decide)).trans hi73
                  have hi269 := (hI264 50 (by decide)).trans hi69
                  have hF_270 := hF_74.mono (cIx hI264 (by decide)) (cRx hX265 (by decide))
                  have hY_271 := hY_75.mono (cIx hI264 (by decide)) (cRx hX265 (by decide))
                  have hD_272 := hD_76.mono (cIx hI264 (by decide)) (cRx hX265 (by decide))
                  have hEI273 := hEI77.tr hI264 (by decide)
                  have hER274 := hER1.tr hX265 (by decide)
                  show pl _ _ _ (225, [(0, .ref m0), (1, .int (nI k)), (2, .int (nI (by1 f p1)))], [.int 1], M259) _
                  refine ps_if (S1 := (230, [(0, .ref m0), (1, .int (nI k)), (2, .int (nI (by1 f p1)))], [], M259)) (S2 := (228, [(0, .ref m0), (1, .int (nI k)), (2, .int (nI (by1 f p1)))], [], M259)) rfl rfl rfl (fun c_225 => ?_) (fun c_225 => ?_)
                  rotate_left
                  · exact absurd (by decide) (of_decide_eq_false c_225)
                  refine ps_st (S' := (231, [(0, .ref m0), (1, .int (nI k)), (2, .int (nI (by1 f p1)))], [.ref m0], M259)) rfl rfl rfl ?_
                  refine ps_st (S' := (232, [(0, .ref m0), (1, .int (nI k)), (2, .int (nI (by1 f p1)))], [.ref m0, .ref m0], M259)) rfl rfl rfl ?_
                  refine pr_int (j := 50) (S' := (235, [(0, .ref m0), (1, .int (nI k)), (2, .int (nI (by1 f p1)))], [.int (nI (p1 + 1)), .ref m0], M259)) rfl hR263 rfl hi269 rfl ?_
                  refine pl_call (a := [.ref m0, .int (nI (p1 + 1))]) (rest := []) rfl rfl rfl (rd_u2 (n := n) (f := f) (p := (p1 + 1)) hR263 hF_270 (by omega)) (fun v275 M276 q277 => ?_)
                  obtain ⟨rfl, rfl⟩ := q277
                  show pl _ _ _ (238, [(0, .ref m0), (1, .int (nI k)), (2, .int (nI (by1 f p1)))], [.int (nI (by2 f (p1 + 1)))], M259) _
                  have hu_235 := by2_lt f (p1 + 1)
                  refine ps_st (S' := (240, [(5, .int (nI (by2 f (p1 + 1)))), (0, .ref m0), (1, .int (nI k)), (2, .int (nI (by1 f p1)))], [], M259)) rfl rfl rfl ?_
                  refine ps_st (S' := (241, [(5, .int (nI (by2 f (p1 + 1)))), (0, .ref m0), (1, .int (nI k)), (2, .int (nI (by1 f p1)))], [.ref m0], M259)) rfl rfl rfl ?_
                  refine ps_st (S' := (242, [(5, .int (nI (by2 f (p1 + 1)))), (0, .ref m0), (1, .int (nI k)), (2, .int (nI (by1 f p1)))], [.ref m0, .ref m0], M259)) rfl rfl rfl ?_
                  refine pr_int (j := 50) (S' := (245, [(5, .int (nI (by2 f (p1 + 1)))), (0, .ref m0), (1, .int (nI k)), (2, .int (nI (by1 f p1)))], [.int (nI (p1 + 1)), .ref m0], M259)) rfl hR263 rfl hi269 rfl ?_
                  refine ps_st (S' := (246, [(5, .int (nI (by2 f (p1 + 1)))), (0, .ref m0), (1, .int (nI k)), (2, .int (nI (by1 f p1)))], [.int 2, .int (nI (p1 + 1)), .ref m0], M259)) rfl rfl rfl ?_
                  refine ps_st (S' := (247, [(5, .int (nI (by2 f (p1 + 1)))), (0, .ref m0), (1, .int (nI k)), (2, .int (nI (by1 f p1)))], [.int ((nI (p1 + 1)) + 2), .ref m0], M259)) rfl rfl rfl ?_
                  rw [nI_add1 (p := p1 + 1) (k := 2) (x := 2) rfl (by omega)]
                  show pl _ _ _ (_, [(5, .int (nI (by2 f (p1 + 1)))), (0, .ref m0), (1, .int (nI k)), (2, .int (nI (by1 f p1)))], [.int (nI (p1 + 3)), .ref m0], M259) _
                  refine pr_put (j := 50) rfl hR263 rfl (fun M278 I279 hR280 hi281 hI282 => ?_)
                  have hi283 := (hI282 51 (by decide)).trans hi266
                  have hi284 := (hI282 52 (by decide)).trans hi267
                  have hi285 := (hI282 53 (by decide)).trans hi268
                  have hF_286 := hF_270.mono (pIx hI282 (by decide)) (fun _ _ => rfl)
                  have hY_287 := hY_271.mono (pIx hI282 (by decide)) (fun _ _ => rfl)
                  have hD_288 := hD_272.mono (pIx hI282 (by decide)) (fun _ _ => rfl)
                  have hEI289 := hEI273.put hI282 (by decide)
                  show pl _ _ _ (250, [(5, .int (nI (by2 f (p1 + 1)))), (0, .ref m0), (1, .int (nI k)), (2, .int (nI (by1 f p1)))], [], M278) _
                  refine ps_st (S' := (251, [(5, .int (nI (by2 f (p1 + 1)))), (0, .ref m0), (1, .int (nI k)), (2, .int (nI (by1 f p1)))], [.ref m0], M278)) rfl rfl rfl ?_
                  refine ps_st (S' := (253, [(5, .int (nI (by2 f (p1 + 1)))), (0, .ref m0), (1, .int (nI k)), (2, .int (nI (by1 f p1)))], [.int (nI (by2 f (p1 + 1))), .ref m0], M278)) rfl rfl rfl ?_
                  refine ps_st (S' := (254, [(5, .int (nI (by2 f (p1 + 1)))), (0, .ref m0), (1, .int (nI k)), (2, .int (nI (by1 f p1)))], [.long (Int32.toInt64 (nI (by2 f (p1 + 1)))), .ref m0], M278)) rfl rfl rfl ?_
                  rw [i2l_nL (p := by2 f (p1 + 1)) (by omega)]
                  show pl _ _ _ (_, [(5, .int (nI (by2 f (p1 + 1)))), (0, .ref m0), (1, .int (nI k)), (2, .int (nI (by1 f p1)))], [.long (nL (by2 f (p1 + 1))), .ref m0], M278) _
                  refine pl_call (a := [.ref m0, .long (nL (by2 f (p1 + 1)))]) (rest := []) rfl rfl rfl (rd_item (n := n) (f := f) (p := (p1 + 3)) (k := (by2 f (p1 + 1))) hR280 hi281 hF_286 (by omega) (by omega)) (fun v290 M291 q292 => ?_)
                  rcases q292 with q292 | q292
                  · skip
                    obtain ⟨I293, R294, q254_s, rfl, hR295, hI296, hX297⟩ := q292
                    have hi298 := (hI296 51 (by decide)).trans hi283
                    have hi299 := (hI296 52 (by decide)).trans hi284
                    have hi300 := (hI296 53 (by decide)).trans hi285
                    have hi301 := (hI296 50 (by decide)).trans hi281
                    have hF_302 := hF_286.mono (cIx hI296 (by decide)) (cRx hX297 (by decide))
                    have hY_303 := hY_287.mono (cIx hI296 (by decide)) (cRx hX297 (by decide))
                    have hD_304 := hD_288.mono (cIx hI296 (by decide)) (cRx hX297 (by decide))
                    have hEI305 := hEI289.tr hI296 (by decide)
                    have hER306 := hER274.tr hX297 (by decide)
                    show pl _ _ _ (257, [(5, .int (nI (by2 f (p1 + 1)))), (0, .ref m0), (1, .int (nI k)), (2, .int (nI (by1 f p1)))], [.int 1], M291) _
                    refine ps_if (S1 := (262, [(5, .int (nI (by2 f (p1 + 1)))), (0, .ref m0), (1, .int (nI k)), (2, .int (nI (by1 f p1)))], [], M291)) (S2 := (260, [(5, .int (nI (by2 f (p1 + 1)))), (0, .ref m0), (1, .int (nI k)), (2, .int (nI (by1 f p1)))], [], M291)) rfl rfl rfl (fun c_257 => ?_) (fun c_257 => ?_)
                    rotate_left
                    · exact absurd (by decide) (of_decide_eq_false c_257)
                    refine ps_st (S' := (263, [(5, .int (nI (by2 f (p1 + 1)))), (0, .ref m0), (1, .int (nI k)), (2, .int (nI (by1 f p1)))], [.ref m0], M291)) rfl rfl rfl ?_
                    refine ps_st (S' := (264, [(5, .int (nI (by2 f (p1 + 1)))), (0, .ref m0), (1, .int (nI k)), (2, .int (nI (by1 f p1)))], [.ref m0, .ref m0], M291)) rfl rfl rfl ?_
                    refine pr_int (j := 51) (S' := (267, [(5, .int (nI (by2 f (p1 + 1)))), (0, .ref m0), (1, .int (nI k)), (2, .int (nI (by1 f p1)))], [.int 0, .ref m0], M291)) rfl hR295 rfl hi298 rfl ?_
                    refine ps_st (S' := (268, [(5, .int (nI (by2 f (p1 + 1)))), (0, .ref m0), (1, .int (nI k)), (2, .int (nI (by1 f p1)))], [.int (nI k), .int 0, .ref m0], M291)) rfl rfl rfl ?_
                    refine ps_st (S' := (269, [(5, .int (nI (by2 f (p1 + 1)))), (0, .ref m0), (1, .int (nI k)), (2, .int (nI (by1 f p1)))], [.int (0 + (nI k)), .ref m0], M291)) rfl rfl rfl ?_
                    rw [show (0 : Int32) + (nI k) = (nI k) from Int32.zero_add _]
                    show pl _ _ _ (_, [(5, .int (nI (by2 f (p1 + 1)))), (0, .ref m0), (1, .int (nI k)), (2, .int (nI (by1 f p1)))], [.int (nI k), .ref m0], M291) _
                    refine ps_st (S' := (270, [(5, .int (nI (by2 f (p1 + 1)))), (0, .ref m0), (1, .int (nI k)), (2, .int (nI (by1 f p1)))], [.ref m0, .int (nI k), .ref m0], M291)) rfl rfl rfl ?_
                    refine pr_int (j := 50) (S' := (273, [(5, .int (nI (by2 f (p1 + 1)))), (0, .ref m0), (1, .int (nI k)), (2, .int (nI (by1 f p1)))], [.int (nI (p1 + 3)), .int (nI k), .ref m0], M291)) rfl hR295 rfl hi301 rfl ?_
                    refine ps_st (S' := (275, [(5, .int (nI (by2 f (p1 + 1)))), (0, .ref m0), (1, .int (nI k)), (2, .int (nI (by1 f p1)))], [.int (nI (by2 f (p1 + 1))), .int (nI (p1 + 3)), .int (nI k), .ref m0], M291)) rfl rfl rfl ?_
                    refine pl_call (a := [.ref m0, .int (nI k), .int (nI (p1 + 3)), .int (nI (by2 f (p1 + 1)))]) (rest := []) rfl rfl rfl (rd_utf8 (n := n) (f := f) (tx := tx1) (cN := cN1) (A := A1) (j := k) (p := (p1 + 3)) (m := (by2 f (p1 + 1))) hR295 hF_302 hY_303 (by omega) (by omega)) (fun v307 M308 q309 => ?_)
                    rcases q309 with q309 | q309
                    · skip
                      obtain ⟨tx2310, cN2311, A2312, l313, x314, I315, R316, q275_s, q275_x, q275_k, q275_r, rfl, hR317, hI318, hX319, hY_320⟩ := q309
                      have hi321 := (hI318 51 (by decide)).trans hi298
                      have hi322 := (hI318 52 (by decide)).trans hi299
                      have hi323 := (hI318 53 (by decide)).trans hi300
                      have hi324 := (hI318 50 (by decide)).trans hi301
                      have hF_325 := hF_302.mono (cIx hI318 (by decide)) (cRx hX319 (by decide))
                      have hEI326 := hEI305.tr hI318 (by decide)
                      have hER327 := hER306.tr hX319 (by decide)
                      show pl _ _ _ (278, [(5, .int (nI (by2 f (p1 + 1)))), (0, .ref m0), (1, .int (nI k)), (2, .int (nI (by1 f p1)))], [.int 1], M308) _
                      have hE_328 := hD_304.sy (I' := I315) q275_k (hX319 21 (by decide)) q275_r.2 q275_r.1 q275_x (s_utf_ok (by omega) (by omega) q275_s)
                      refine ps_if (S1 := (283, [(5, .int (nI (by2 f (p1 + 1)))), (0, .ref m0), (1, .int (nI k)), (2, .int (nI (by1 f p1)))], [], M308)) (S2 := (281, [(5, .int (nI (by2 f (p1 + 1)))), (0, .ref m0), (1, .int (nI k)), (2, .int (nI (by1 f p1)))], [], M308)) rfl rfl rfl (fun c_278 => ?_) (fun c_278 => ?_)
                      rotate_left
                      · exact absurd (by decide) (of_decide_eq_false c_278)
                      refine ps_st (S' := (284, [(5, .int (nI (by2 f (p1 + 1)))), (0, .ref m0), (1, .int (nI k)), (2, .int (nI (by1 f p1)))], [.ref m0], M308)) rfl rfl rfl ?_
                      refine ps_st (S' := (285, [(5, .int (nI (by2 f (p1 + 1)))), (0, .ref m0), (1, .int (nI k)), (2, .int (nI (by1 f p1)))], [.ref m0, .ref m0], M308)) rfl rfl rfl ?_
                      refine pr_int (j := 50) (S' := (288, [(5, .int (nI (by2 f (p1 + 1)))), (0, .ref m0), (1, .int (nI k)), (2, .int (nI (by1 f p1)))], [.int (nI (p1 + 3)), .ref m0], M308)) rfl hR317 rfl hi324 rfl ?_
                      refine ps_st (S' := (290, [(5, .int (nI (by2 f (p1 + 1)))), (0, .ref m0), (1, .int (nI k)), (2, .int (nI (by1 f p1)))], [.int (nI (by2 f (p1 + 1))), .int (nI (p1 + 3)), .ref m0], M308)) rfl rfl rfl ?_
                      refine ps_st (S' := (291, [(5, .int (nI (by2 f (p1 + 1)))), (0, .ref m0), (1, .int (nI k)), (2, .int (nI (by1 f p1)))], [.int ((nI (p1 + 3)) + (nI (by2 f (p1 + 1)))), .ref m0], M308)) rfl rfl rfl ?_
                      rw [nI_add1 (p := p1 + 3) (k := by2 f (p1 + 1)) (x := (nI (by2 f (p1 + 1)))) rfl (by omega)]
                      show pl _ _ _ (_, [(5, .int (nI (by2 f (p1 + 1)))), (0, .ref m0), (1, .int (nI k)), (2, .int (nI (by1 f p1)))], [.int (nI (p1 + 3 + by2 f (p1 + 1))), .ref m0], M308) _
                      refine pr_put (j := 50) rfl hR317 rfl (fun M329 I330 hR331 hi332 hI333 => ?_)
                      have hi334 := (hI333 51 (by decide)).trans hi321
                      have hi335 := (hI333 52 (by decide)).trans hi322
                      have hi336 := (hI333 53 (by decide)).trans hi323
                      have hF_337 := hF_325.mono (pIx hI333 (by decide)) (fun _ _ => rfl)
                      have hY_338 := hY_320.mono (pIx hI333 (by decide)) (fun _ _ => rfl)
                      have hE_339 := hE_328.mono (pIx hI333 (by decide)) (fun _ _ => rfl)
                      have hEI340 := hEI326.put hI333 (by decide)
                      show pl _ _ _ (294, [(5, .int (nI (by2 f (p1 + 1)))), (0, .ref m0), (1, .int (nI k)), (2, .int (nI (by1 f p1)))], [], M329) _
                      refine ps_st (S' := (499, [(0, .ref m0), (1, .int (nI k)), (2, .int (nI (by1 f p1)))], [], M329)) rfl rfl rfl ?_
                      exact ih.2.2.2.2 (k) (p1) (p1 + 3 + by2 f (p1 + 1)) (E) (tx2310) (cN2311) (A2312) M329 I330 R316 hR331 hEI340 hER327 hi332 hi334 hi335 hi336 hF_337 hY_338 hE_339 (hk) (hp1) (⟨by have := q275_k.1; omega, fun s9 h9 => by rw [q275_k.2 s9 (by omega), htx.2 s9 h9]⟩) (hs) (ht) (⟨_, by rw [ent_1 (by omega) ht (by omega), s_utf_ok (by omega) (by omega) q275_s]⟩) (by omega) (by omega)
                    · skip
                      obtain ⟨w341, I342, R343, q275_s, rfl, hR344, hI345, hX346, hi347, hi348⟩ := q309
                      have hi349 := (hI345 51 (by decide)).trans hi298
                      have hi350 := (hI345 52 (by decide)).trans hi299
                      have hi351 := (hI345 53 (by decide)).trans hi300
                      have hi352 := (hI345 50 (by decide)).trans hi301
                      have hF_353 := hF_302.mono (cIx hI345 (by decide)) (cRx hX346 (by decide))
                      have hEI354 := hEI305.tr hI345 (by decide)
                      have hER355 := hER306.tr hX346 (by decide)
                      show pl _ _ _ (278, [(5, .int (nI (by2 f (p1 + 1)))), (0, .ref m0), (1, .int (nI k)), (2, .int (nI (by1 f p1)))], [.int 0], M308) _
                      refine ps_if (S1 := (283, [(5, .int (nI (by2 f (p1 + 1)))), (0, .ref m0), (1, .int (nI k)), (2, .int (nI (by1 f p1)))], [], M308)) (S2 := (281, [(5, .int (nI (by2 f (p1 + 1)))), (0, .ref m0), (1, .int (nI k)), (2, .int (nI (by1 f p1)))], [], M308)) rfl rfl rfl (fun c_278 => ?_) (fun c_278 => ?_)
                      · exact absurd (of_decide_eq_true c_278) (by decide)
                      refine ps_st (S' := (282, [(5, .int (nI (by2 f (p1 + 1)))), (0, .ref m0), (1, .int (nI k)), (2, .int (nI (by1 f p1)))], [.int 0], M308)) rfl rfl rfl ?_
                      exact ps_ret rfl rfl (Or.inr ⟨(6, w341), I342, R343, by
                          rw [← hs]
                          exact s_ents_bad (by omega) (by rw [ent_1 (by omega) ht (by omega), s_utf_bad (by omega) (by omega) q275_s]), rfl, hR344, hEI354, hER355, hi347, hi348⟩)
                  · skip
                    obtain ⟨I356, R357, q254_s, rfl, hR358, hI359, hX360, hi361, hi362⟩ := q292
                    have hi363 := (hI359 51 (by decide)).trans hi283
                    have hi364 := (hI359 52 (by decide)).trans hi284
                    have hi365 := (hI359 53 (by decide)).trans hi285
                    have hi366 := (hI359 50 (by decide)).trans hi281
                    have hF_367 := hF_286.mono (cIx hI359 (by decide)) (cRx hX360 (by decide))
                    have hY_368 := hY_287.mono (cIx hI359 (by decide)) (cRx hX360 (by decide))
                    have hD_369 := hD_288.mono (cIx hI359 (by decide)) (cRx hX360 (by decide))
                    have hEI370 := hEI289.tr hI359 (by decide)
                    have hER371 := hER274.tr hX360 (by decide)
                    show pl _ _ _ (257, [(5, .int (nI (by2 f (p1 + 1)))), (0, .ref m0), (1, .int (nI k)), (2, .int (nI (by1 f p1)))], [.int 0], M291) _
                    refine ps_if (S1 := (262, [(5, .int (nI (by2 f (p1 + 1)))), (0, .ref m0), (1, .int (nI k)), (2, .int (nI (by1 f p1)))], [], M291)) (S2 := (260, [(5, .int (nI (by2 f (p1 + 1)))), (0, .ref m0), (1, .int (nI k)), (2, .int (nI (by1 f p1)))], [], M291)) rfl rfl rfl (fun c_257 => ?_) (fun c_257 => ?_)
                    · exact absurd (of_decide_eq_true c_257) (by decide)
                    refine ps_st (S' := (261, [(5, .int (nI (by2 f (p1 + 1)))), (0, .ref m0), (1, .int (nI k)), (2, .int (nI (by1 f p1)))], [.int 0], M291)) rfl rfl rfl ?_
                    exact ps_ret rfl rfl (Or.inr ⟨(1, p1 + 3), I356, R357, by
                        rw [← hs]
                        exact s_ents_bad (by omega) (by rw [ent_1 (by omega) ht (by omega), show s_utf f n (p1 + 1) = .inl (1, p1 + 3) by unfold s_utf; rw [if_neg (by omega), if_pos (by omega)]]), rfl, hR358, hEI370, hER371, hi361, hi362⟩)
                · skip
                  obtain ⟨I372, R373, q222_s, rfl, hR374, hI375, hX376, hi377, hi378⟩ := q260
                  have hi379 := (hI375 51 (by decide)).trans hi71
                  have hi380 := (hI375 52 (by decide)).trans hi72
                  have hi381 := (hI375 53 (by decide)).trans hi73
                  have hi382 := (hI375 50 (by decide)).trans hi69
                  have hF_383 := hF_74.mono (cIx hI375 (by decide)) (cRx hX376 (by decide))
                  have hY_384 := hY_75.mono (cIx hI375 (by decide)) (cRx hX376 (by decide))
                  have hD_385 := hD_76.mono (cIx hI375 (by decide)) (cRx hX376 (by decide))
                  have hEI386 := hEI77.tr hI375 (by decide)
                  have hER387 := hER1.tr hX376 (by decide)
                  show pl _ _ _ (225, [(0, .ref m0), (1, .int (nI k)), (2, .int (nI (by1 f p1)))], [.int 0], M259) _
                  refine ps_if (S1 := (230, [(0, .ref m0), (1, .int (nI k)), (2, .int (nI (by1 f p1)))], [], M259)) (S2 := (228, [(0, .ref m0), (1, .int (nI k)), (2, .int (nI (by1 f p1)))], [], M259)) rfl rfl rfl (fun c_225 => ?_) (fun c_225 => ?_)
                  · exact absurd (of_decide_eq_true c_225) (by decide)
                  refine ps_st (S' := (229, [(0, .ref m0), (1, .int (nI k)), (2, .int (nI (by1 f p1)))], [.int 0], M259)) rfl rfl rfl ?_
                  exact ps_ret rfl rfl (Or.inr ⟨(1, p1 + 1), I372, R373, by
                      rw [← hs]
                      exact s_ents_bad (by omega) (by rw [ent_1 (by omega) ht (by omega), show s_utf f n (p1 + 1) = .inl (1, p1 + 1) by unfold s_utf; rw [if_pos (by omega)]]), rfl, hR374, hEI386, hER387, hi377, hi378⟩)
            · have c_192 : ¬ ((nI (k + 1)) < (nI N)) := of_decide_eq_false c_192
              have n_192 : ¬ (k + 1 < N) := fun h9 => c_192 ((lt_nI (p := k + 1) (n := N) (by omega) (by omega)).mpr h9)
              refine ps_st (S' := (196, [(0, .ref m0), (1, .int (nI k)), (2, .int (nI (by1 f p1))), (3, .int (nI p1))], [.ref m0], M1)) rfl rfl rfl ?_
              refine ps_st (S' := (198, [(0, .ref m0), (1, .int (nI k)), (2, .int (nI (by1 f p1))), (3, .int (nI p1))], [.int 7, .ref m0], M1)) rfl rfl rfl ?_
              refine ps_st (S' := (199, [(0, .ref m0), (1, .int (nI k)), (2, .int (nI (by1 f p1))), (3, .int (nI p1))], [.int (nI p1), .int 7, .ref m0], M1)) rfl rfl rfl ?_
              refine pl_call (a := [.ref m0, .int 7, .int (nI p1)]) (rest := []) rfl rfl rfl (rd_wrong (x1 := 7) (x2 := (nI p1)) hR1) (fun v388 M389 q390 => ?_)
              obtain ⟨I391, R392, rfl, hR393, hI394, hX395, hi396, hi397⟩ := q390
              have hi398 := (hI394 50 (by decide)).trans hl50
              have hi399 := (hI394 51 (by decide)).trans hl51
              have hi400 := (hI394 52 (by decide)).trans hl52
              have hi401 := (hI394 53 (by decide)).trans hl53
              have hF_402 := hF1.mono (cIx hI394 (by decide)) (cRx hX395 (by decide))
              have hY_403 := hY1.mono (cIx hI394 (by decide)) (cRx hX395 (by decide))
              have hD_404 := hD1.mono (cIx hI394 (by decide)) (cRx hX395 (by decide))
              have hEI405 := hEI1.tr hI394 (by decide)
              have hER406 := hER1.tr hX395 (by decide)
              show pl _ _ _ (202, [(0, .ref m0), (1, .int (nI k)), (2, .int (nI (by1 f p1))), (3, .int (nI p1))], [.int 0], M389) _
              exact ps_ret rfl rfl (Or.inr ⟨(7, p1), I391, R392, by
                  rw [← hs]
                  exact s_ents_bad (by omega) (ent_7 (by omega) ht (by omega)), rfl, hR393, hEI405, hER406, hi396, hi397⟩)
          · have c_176 : ¬ ((nI (by1 f p1)) = 5) := of_decide_eq_false c_176
            have n_176 : ¬ (by1 f p1 = 5) := fun h9 => c_176 ((eq_nI (p := by1 f p1) (n := 5) (Nat.lt_trans (by1_lt _ _) (by decide)) (by decide)).mpr h9)
            refine ps_st (S' := (180, [(4, .int (nI b)), (0, .ref m0), (1, .int (nI k)), (2, .int (nI (by1 f p1))), (3, .int (nI p1))], [.int (nI (by1 f p1))], M1)) rfl rfl rfl ?_
            refine ps_st (S' := (182, [(4, .int (nI b)), (0, .ref m0), (1, .int (nI k)), (2, .int (nI (by1 f p1))), (3, .int (nI p1))], [.int 6, .int (nI (by1 f p1))], M1)) rfl rfl rfl ?_
            refine ps_if2 (S1 := (203, [(0, .ref m0), (1, .int (nI k)), (2, .int (nI (by1 f p1)))], [], M1)) (S2 := (185, [(0, .ref m0), (1, .int (nI k)), (2, .int (nI (by1 f p1))), (3, .int (nI p1))], [], M1)) rfl rfl rfl (fun c_182 => ?_) (fun c_182 => ?_)
            · have c_182 : ¬ (nI (by1 f p1)) = 6 := of_decide_eq_true c_182
              have n_182 : ¬ (by1 f p1 = 6) := fun h9 => c_182 ((eq_nI (p := by1 f p1) (n := 6) (Nat.lt_trans (by1_lt _ _) (by decide)) (by decide)).mpr h9)
              refine ps_st (S' := (204, [(0, .ref m0), (1, .int (nI k)), (2, .int (nI (by1 f p1)))], [.ref m0], M1)) rfl rfl rfl ?_
              refine ps_st (S' := (205, [(0, .ref m0), (1, .int (nI k)), (2, .int (nI (by1 f p1)))], [.ref m0, .ref m0], M1)) rfl rfl rfl ?_
              refine pr_int (j := 50) (S' := (208, [(0, .ref m0), (1, .int (nI k)), (2, .int (nI (by1 f p1)))], [.int (nI p1), .ref m0], M1)) rfl hR1 rfl hl50 rfl ?_
              refine ps_st (S' := (209, [(0, .ref m0), (1, .int (nI k)), (2, .int (nI (by1 f p1)))], [.int 1, .int (nI p1), .ref m0], M1)) rfl rfl rfl ?_
              refine ps_st (S' := (210, [(0, .ref m0), (1, .int (nI k)), (2, .int (nI (by1 f p1)))], [.int ((nI p1) + 1), .ref m0], M1)) rfl rfl rfl ?_
              rw [nI_add1 (p := p1) (k := 1) (x := 1) rfl (by omega)]
              show pl _ _ _ (_, [(0, .ref m0), (1, .int (nI k)), (2, .int (nI (by1 f p1)))], [.int (nI (p1 + 1)), .ref m0], M1) _
              refine pr_put (j := 50) rfl hR1 rfl (fun M407 I408 hR409 hi410 hI411 => ?_)
              have hi412 := (hI411 51 (by decide)).trans hl51
              have hi413 := (hI411 52 (by decide)).trans hl52
              have hi414 := (hI411 53 (by decide)).trans hl53
              have hF_415 := hF1.mono (pIx hI411 (by decide)) (fun _ _ => rfl)
              have hY_416 := hY1.mono (pIx hI411 (by decide)) (fun _ _ => rfl)
              have hD_417 := hD1.mono (pIx hI411 (by decide)) (fun _ _ => rfl)
              have hEI418 := hEI1.put hI411 (by decide)
              show pl _ _ _ (213, [(0, .ref m0), (1, .int (nI k)), (2, .int (nI (by1 f p1)))], [], M407) _
              refine ps_st (S' := (214, [(0, .ref m0), (1, .int (nI k)), (2, .int (nI (by1 f p1)))], [.int (nI (by1 f p1))], M407)) rfl rfl rfl ?_
              refine ps_st (S' := (215, [(0, .ref m0), (1, .int (nI k)), (2, .int (nI (by1 f p1)))], [.int 1, .int (nI (by1 f p1))], M407)) rfl rfl rfl ?_
              refine ps_if2 (S1 := (297, [(0, .ref m0), (1, .int (nI k)), (2, .int (nI (by1 f p1)))], [], M407)) (S2 := (218, [(0, .ref m0), (1, .int (nI k)), (2, .int (nI (by1 f p1)))], [], M407)) rfl rfl rfl (fun c_215 => ?_) (fun c_215 => ?_)
              · have c_215 : ¬ (nI (by1 f p1)) = 1 := of_decide_eq_true c_215
                have n_215 : ¬ (by1 f p1 = 1) := fun h9 => c_215 ((eq_nI (p := by1 f p1) (n := 1) (Nat.lt_trans (by1_lt _ _) (by decide)) (by decide)).mpr h9)
                refine ps_st (S' := (298, [(0, .ref m0), (1, .int (nI k)), (2, .int (nI (by1 f p1)))], [.int (nI (by1 f p1))], M407)) rfl rfl rfl ?_
                refine ps_st (S' := (300, [(0, .ref m0), (1, .int (nI k)), (2, .int (nI (by1 f p1)))], [.int 15, .int (nI (by1 f p1))], M407)) rfl rfl rfl ?_
                refine ps_if2 (S1 := (348, [(0, .ref m0), (1, .int (nI k)), (2, .int (nI (by1 f p1)))], [], M407)) (S2 := (303, [(0, .ref m0), (1, .int (nI k)), (2, .int (nI (by1 f p1)))], [], M407)) rfl rfl rfl (fun c_300 => ?_) (fun c_300 => ?_)
                · have c_300 : ¬ (nI (by1 f p1)) = 15 := of_decide_eq_true c_300
                  have n_300 : ¬ (by1 f p1 = 15) := fun h9 => c_300 ((eq_nI (p := by1 f p1) (n := 15) (Nat.lt_trans (by1_lt _ _) (by decide)) (by decide)).mpr h9)
                  refine ps_st (S' := (349, [(0, .ref m0), (1, .int (nI k)), (2, .int (nI (by1 f p1)))], [.int (nI (by1 f p1))], M407)) rfl rfl rfl ?_
                  refine ps_st (S' := (350, [(0, .ref m0), (1, .int (nI k)), (2, .int (nI (by1 f p1)))], [.int 3, .int (nI (by1 f p1))], M407)) rfl rfl rfl ?_
                  refine ps_if2 (S1 := (358, [(0, .ref m0), (1, .int (nI k)), (2, .int (nI (by1 f p1)))], [], M407)) (S2 := (353, [(0, .ref m0), (1, .int (nI k)), (2, .int (nI (by1 f p1)))], [], M407)) rfl rfl rfl (fun c_350 => ?_) (fun c_350 => ?_)
                  · have c_350 : (nI (by1 f p1)) = 3 := of_decide_eq_true c_350
                    have n_350 : by1 f p1 = 3 := (eq_nI (p := by1 f p1) (n := 3) (Nat.lt_trans (by1_lt _ _) (by decide)) (by decide)).mp c_350
                    refine ps_st (S' := (359, [(0, .ref m0), (1, .int (nI k)), (2, .int (nI (by1 f p1)))], [.ref m0], M407)) rfl rfl rfl ?_
                    refine ps_st (S' := (362, [(0, .ref m0), (1, .int (nI k)), (2, .int (nI (by1 f p1)))], [.long 4, .ref m0], M407)) rfl rfl rfl ?_
                    refine pl_call (a := [.ref m0, .long 4]) (rest := []) rfl rfl rfl (rd_item (n := n) (f := f) (p := (p1 + 1)) (k := 4) hR409 hi410 hF_415 (by omega) (by decide)) (fun v419 M420 q421 => ?_)
                    rcases q421 with q421 | q421
                    · skip
                      obtain ⟨I422, R423, q362_s, rfl, hR424, hI425, hX426⟩ := q421
                      have hi427 := (hI425 51 (by decide)).trans hi412
                      have hi428 := (hI425 52 (by decide)).trans hi413
                      have hi429 := (hI425 53 (by decide)).trans hi414
                      have hi430 := (hI425 50 (by decide)).trans hi410
                      have hF_431 := hF_415.mono (cIx hI425 (by decide)) (cRx hX426 (by decide))
                      have hY_432 := hY_416.mono (cIx hI425 (by decide)) (cRx hX426 (by decide))
                      have hD_433 := hD_417.mono (cIx hI425 (by decide)) (cRx hX426 (by decide))
                      have hEI434 := hEI418.tr hI425 (by decide)
                      have hER435 := hER1.tr hX426 (by decide)
                      show pl _ _ _ (365, [(0, .ref m0), (1, .int (nI k)), (2, .int (nI (by1 f p1)))], [.int 1], M420) _
                      refine ps_if (S1 := (370, [(0, .ref m0), (1, .int (nI k)), (2, .int (nI (by1 f p1)))], [], M420)) (S2 := (368, [(0, .ref m0), (1, .int (nI k)), (2, .int (nI (by1 f p1)))], [], M420)) rfl rfl rfl (fun c_365 => ?_) (fun c_365 => ?_)
                      rotate_left
                      · exact absurd (by decide) (of_decide_eq_false c_365)
                      refine ps_st (S' := (371, [(0, .ref m0), (1, .int (nI k)), (2, .int (nI (by1 f p1)))], [.ref m0], M420)) rfl rfl rfl ?_
                      refine ps_st (S' := (372, [(0, .ref m0), (1, .int (nI k)), (2, .int (nI (by1 f p1)))], [.ref m0, .ref m0], M420)) rfl rfl rfl ?_
                      refine pr_int (j := 50) (S' := (375, [(0, .ref m0), (1, .int (nI k)), (2, .int (nI (by1 f p1)))], [.int (nI (p1 + 1)), .ref m0], M420)) rfl hR424 rfl hi430 rfl ?_
                      refine ps_st (S' := (376, [(0, .ref m0), (1, .int (nI k)), (2, .int (nI (by1 f p1)))], [.int 4, .int (nI (p1 + 1)), .ref m0], M420)) rfl rfl rfl ?_
                      refine ps_st (S' := (377, [(0, .ref m0), (1, .int (nI k)), (2, .int (nI (by1 f p1)))], [.int ((nI (p1 + 1)) + 4), .ref m0], M420)) rfl rfl rfl ?_
                      rw [nI_add1 (p := p1 + 1) (k := 4) (x := 4) rfl (by omega)]
                      show pl _ _ _ (_, [(0, .ref m0), (1, .int (nI k)), (2, .int (nI (by1 f p1)))], [.int (nI (p1 + 5)), .ref m0], M420) _
                      refine pr_put (j := 50) rfl hR424 rfl (fun M436 I437 hR438 hi439 hI440 => ?_)
                      have hi441 := (hI440 51 (by decide)).trans hi427
                      have hi442 := (hI440 52 (by decide)).trans hi428
                      have hi443 := (hI440 53 (by decide)).trans hi429
                      have hF_444 := hF_431.mono (pIx hI440 (by decide)) (fun _ _ => rfl)
                      have hY_445 := hY_432.mono (pIx hI440 (by decide)) (fun _ _ => rfl)
                      have hD_446 := hD_433.mono (pIx hI440 (by decide)) (fun _ _ => rfl)
                      have hEI447 := hEI434.put hI440 (by decide)
                      show pl _ _ _ (380, [(0, .ref m0), (1, .int (nI k)), (2, .int (nI (by1 f p1)))], [], M436) _
                      refine ps_st (S' := (499, [(0, .ref m0), (1, .int (nI k)), (2, .int (nI (by1 f p1)))], [], M436)) rfl rfl rfl ?_
                      have hE9 := hD_446.no (by omega)
                      exact ih.2.2.2.2 (k) (p1) (p1 + 5) (E) (tx1) (cN1) (A1) M436 I437 R423 hR438 hEI447 hER435 hi439 hi441 hi442 hi443 hF_444 hY_445 hE9 (hk) (hp1) (htx) (hs) (ht) (⟨_, by rw [ent_4 (by omega) ht (by omega), if_neg (by omega)]⟩) (by omega) (by omega)
                    · skip
                      obtain ⟨I448, R449, q362_s, rfl, hR450, hI451, hX452, hi453, hi454⟩ := q421
                      have hi455 := (hI451 51 (by decide)).trans hi412
                      have hi456 := (hI451 52 (by decide)).trans hi413
                      have hi457 := (hI451 53 (by decide)).trans hi414
                      have hi458 := (hI451 50 (by decide)).trans hi410
                      have hF_459 := hF_415.mono (cIx hI451 (by decide)) (cRx hX452 (by decide))
                      have hY_460 := hY_416.mono (cIx hI451 (by decide)) (cRx hX452 (by decide))
                      have hD_461 := hD_417.mono (cIx hI451 (by decide)) (cRx hX452 (by decide))
                      have hEI462 := hEI418.tr hI451 (by decide)
                      have hER463 := hER1.tr hX452 (by decide)
                      show pl _ _ _ (365, [(0, .ref m0), (1, .int (nI k)), (2, .int (nI (by1 f p1)))], [.int 0], M420) _
                      refine ps_if (S1 := (370, [(0, .ref m0), (1, .int (nI k)), (2, .int (nI (by1 f p1)))], [], M420)) (S2 := (368, [(0, .ref m0), (1, .int (nI k)), (2, .int (nI (by1 f p1)))], [], M420)) rfl rfl rfl (fun c_365 => ?_) (fun c_365 => ?_)
                      · exact absurd (of_decide_eq_true c_365) (by decide)
                      refine ps_st (S' := (369, [(0, .ref m0), (1, .int (nI k)), (2, .int (nI (by1 f p1)))], [.int 0], M420)) rfl rfl rfl ?_
                      exact ps_ret rfl rfl (Or.inr ⟨(1, p1 + 1), I448, R449, by
                          rw [← hs]
                          exact s_ents_bad (by omega) (by rw [ent_4 (by omega) ht (by omega), if_pos (by omega)]), rfl, hR450, hEI462, hER463, hi453, hi454⟩)
                  · have c_350 : ¬ ((nI (by1 f p1)) = 3) := of_decide_eq_false c_350
                    have n_350 : ¬ (by1 f p1 = 3) := fun h9 => c_350 ((eq_nI (p := by1 f p1) (n := 3) (Nat.lt_trans (by1_lt _ _) (by decide)) (by decide)).mpr h9)
                    refine ps_st (S' := (354, [(0, .ref m0), (1, .int (nI k)), (2, .int (nI (by1 f p1)))], [.int (nI (by1 f p1))], M407)) rfl rfl rfl ?_
                    refine ps_st (S' := (355, [(0, .ref m0), (1, .int (nI k)), (2, .int (nI (by1 f p1)))], [.int 4, .int (nI (by1 f p1))], M407)) rfl rfl rfl ?_
                    refine ps_if2 (S1 := (383, [(0, .ref m0), (1, .int (nI k)), (2, .int (nI (by1 f p1)))], [], M407)) (S2 := (358, [(0, .ref m0), (1, .int (nI k)), (2, .int (nI (by1 f p1)))], [], M407)) rfl rfl rfl (fun c_355 => ?_) (fun c_355 => ?_)
                    · have c_355 : ¬ (nI (by1 f p1)) = 4 := of_decide_eq_true c_355
                      have n_355 : ¬ (by1 f p1 = 4) := fun h9 => c_355 ((eq_nI (p := by1 f p1) (n := 4) (Nat.lt_trans (by1_lt _ _) (by decide)) (by decide)).mpr h9)
                      refine ps_st (S' := (384, [(0, .ref m0), (1, .int (nI k)), (2, .int (nI (by1 f p1)))], [.int (nI (by1 f p1))], M407)) rfl rfl rfl ?_
                      refine ps_st (S' := (385, [(0, .ref m0), (1, .int (nI k)), (2, .int (nI (by1 f p1)))], [.int 5, .int (nI (by1 f p1))], M407)) rfl rfl rfl ?_
                      refine ps_if2 (S1 := (394, [(0, .ref m0), (1, .int (nI k)), (2, .int (nI (by1 f p1)))], [], M407)) (S2 := (388, [(0, .ref m0), (1, .int (nI k)), (2, .int (nI (by1 f p1)))], [], M407)) rfl rfl rfl (fun c_385 => ?_) (fun c_385 => ?_)
                      · have c_385 : (nI (by1 f p1)) = 5 := of_decide_eq_true c_385
                        have n_385 : by1 f p1 = 5 := (eq_nI (p := by1 f p1) (n := 5) (Nat.lt_trans (by1_lt _ _) (by decide)) (by decide)).mp c_385
                        refine ps_st (S' := (395, [(0, .ref m0), (1, .int (nI k)), (2, .int (nI (by1 f p1)))], [.int 0], M407)) rfl rfl rfl ?_
                        refine ps_st (S' := (397, [(0, .ref m0), (1, .int (nI k)), (2, .int (nI (by1 f p1))), (5, .int 0)], [], M407)) rfl rfl rfl ?_
                        exact ih.2.2.1 (k) (p1) (0) (E) (tx1) (cN1) (A1) M407 I408 R1 hR409 hEI418 hER1 hi410 hi412 hi413 hi414 hF_415 hY_416 hD_417 (hk) (hp1) (htx) (hs) (ht) (by omega) (by omega) (by omega)
                      · have c_385 : ¬ ((nI (by1 f p1)) = 5) := of_decide_eq_false c_385
                        have n_385 : ¬ (by1 f p1 = 5) := fun h9 => c_385 ((eq_nI (p := by1 f p1) (n := 5) (Nat.lt_trans (by1_lt _ _) (by decide)) (by decide)).mpr h9)
                        refine ps_st (S' := (389, [(0, .ref m0), (1, .int (nI k)), (2, .int (nI (by1 f p1)))], [.int (nI (by1 f p1))], M407)) rfl rfl rfl ?_
                        refine ps_st (S' := (391, [(0, .ref m0), (1, .int (nI k)), (2, .int (nI (by1 f p1)))], [.int 6, .int (nI (by1 f p1))], M407)) rfl rfl rfl ?_
                        refine ps_if2 (S1 := (434, [(0, .ref m0), (1, .int (nI k)), (2, .int (nI (by1 f p1)))], [], M407)) (S2 := (394, [(0, .ref m0), (1, .int (nI k)), (2, .int (nI (by1 f p1)))], [], M407)) rfl rfl rfl (fun c_391 => ?_) (fun c_391 => ?_)
                        · have c_391 : ¬ (nI (by1 f p1)) = 6 := of_decide_eq_true c_391
                          have n_391 : ¬ (by1 f p1 = 6) := fun h9 => c_391 ((eq_nI (p := by1 f p1) (n := 6) (Nat.lt_trans (by1_lt _ _) (by decide)) (by decide)).mpr h9)
                          refine ps_st (S' := (435, [(0, .ref m0), (1, .int (nI k)), (2, .int (nI (by1 f p1)))], [.int 0], M407)) rfl rfl rfl ?_
                          refine ps_st (S' := (437, [(0, .ref m0), (1, .int (nI k)), (2, .int (nI (by1 f p1))), (5, .int 0)], [], M407)) rfl rfl rfl ?_
                          exact ih.2.2.2.1 (k) (p1) (0) (E) (tx1) (cN1) (A1) M407 I408 R1 hR409 hEI418 hER1 hi410 hi412 hi413 hi414 hF_415 hY_416 hD_417 (hk) (hp1) (htx) (hs) (ht) (by omega) (by omega)
                        · have c_391 : ¬ (¬ (nI (by1 f p1)) = 6) := of_decide_eq_false c_391
                          have n_391 : by1 f p1 = 6 := (eq_nI (p := by1 f p1) (n := 6) (Nat.lt_trans (by1_lt _ _) (by decide)) (by decide)).mp (Decidable.not_not.mp c_391)
                          refine ps_st (S' := (395, [(0, .ref m0), (1, .int (nI k)), (2, .int (nI (by1 f p1)))], [.int 0], M407)) rfl rfl rfl ?_
                          refine ps_st (S' := (397, [(0, .ref m0), (1, .int (nI k)), (2, .int (nI (by1 f p1))), (5, .int 0)], [], M407)) rfl rfl rfl ?_
                          exact ih.2.2.1 (k) (p1) (0) (E) (tx1) (cN1) (A1) M407 I408 R1 hR409 hEI418 hER1 hi410 hi412 hi413 hi414 hF_415 hY_416 hD_417 (hk) (hp1) (htx) (hs) (ht) (by omega) (by omega) (by omega)
                    · have c_355 : ¬ (¬ (nI (by1 f p1)) = 4) := of_decide_eq_false c_355
                      have n_355 : by1 f p1 = 4 := (eq_nI (p := by1 f p1) (n := 4) (Nat.lt_trans (by1_lt _ _) (by decide)) (by decide)).mp (Decidable.not_not.mp c_355)
                      refine ps_st (S' := (359, [(0, .ref m0), (1, .int (nI k)), (2, .int (nI (by1 f p1)))], [.ref m0], M407)) rfl rfl rfl ?_
                      refine ps_st (S' := (362, [(0, .ref m0), (1, .int (nI k)), (2, .int (nI (by1 f p1)))], [.long 4, .ref m0], M407)) rfl rfl rfl ?_
                      refine pl_call (a := [.ref m0, .long 4]) (rest := []) rfl rfl rfl (rd_item (n := n) (f := f) (p := (p1 + 1)) (k := 4) hR409 hi410 hF_415 (by omega) (by decide)) (fun v464 M465 q466 => ?_)
                      rcases q466 with q466 | q466
                      · skip
                        obtain ⟨I467, R468, q362_s, rfl, hR469, hI470, hX471⟩ := q466
                        have hi472 := (hI470 51 (by decide)).trans hi412
                        have hi473 := (hI470 52 (by decide)).trans hi413
                        have hi474 := (hI470 53 (by decide)).trans hi414
                        have hi475 := (hI470 50 (by decide)).trans hi410
                        have hF_476 := hF_415.mono (cIx hI470 (by decide)) (cRx hX471 (by decide))
                        have hY_477 := hY_416.mono (cIx hI470 (by decide)) (cRx hX471 (by decide))
                        have hD_478 := hD_417.mono (cIx hI470 (by decide)) (cRx hX471 (by decide))
                        have hEI479 := hEI418.tr hI470 (by decide)
                        have hER480 := hER1.tr hX471 (by decide)
                        show pl _ _ _ (365, [(0, .ref m0), (1, .int (nI k)), (2, .int (nI (by1 f p1)))], [.int 1], M465) _
                        refine ps_if (S1 := (370, [(0, .ref m0), (1, .int (nI k)), (2, .int (nI (by1 f p1)))], [], M465)) (S2 := (368, [(0, .ref m0), (1, .int (nI k)), (2, .int (nI (by1 f p1)))], [], M465)) rfl rfl rfl (fun c_365 => ?_) (fun c_365 => ?_)
                        rotate_left
                        · exact absurd (by decide) (of_decide_eq_false c_365)
                        refine ps_st (S' := (371, [(0, .ref m0), (1, .int (nI k)), (2, .int (nI (by1 f p1)))], [.ref m0], M465)) rfl rfl rfl ?_
                        refine ps_st (S' := (372, [(0, .ref m0), (1, .int (nI k)), (2, .int (nI (by1 f p1)))], [.ref m0, .ref m0], M465)) rfl rfl rfl ?_
                        refine pr_int (j := 50) (S' := (375, [(0, .ref m0), (1, .int (nI k)), (2, .int (nI (by1 f p1)))], [.int (nI (p1 + 1)), .ref m0], M465)) rfl hR469 rfl hi475 rfl ?_
                        refine ps_st (S' := (376, [(0, .ref m0), (1, .int (nI k)), (2, .int (nI (by1 f p1)))], [.int 4, .int (nI (p1 + 1)), .ref m0], M465)) rfl rfl rfl ?_
                        refine ps_st (S' := (377, [(0, .ref m0), (1, .int (nI k)), (2, .int (nI (by1 f p1)))], [.int ((nI (p1 + 1)) + 4), .ref m0], M465)) rfl rfl rfl ?_
                        rw [nI_add1 (p := p1 + 1) (k := 4) (x := 4) rfl (by omega)]
                        show pl _ _ _ (_, [(0, .ref m0), (1, .int (nI k)), (2, .int (nI (by1 f p1)))], [.int (nI (p1 + 5)), .ref m0], M465) _
                        refine pr_put (j := 50) rfl hR469 rfl (fun M481 I482 hR483 hi484 hI485 => ?_)
                        have hi486 := (hI485 51 (by decide)).trans hi472
                        have hi487 := (hI485 52 (by decide)).trans hi473
                        have hi488 := (hI485 53 (by decide)).trans hi474
                        have hF_489 := hF_476.mono (pIx hI485 (by decide)) (fun _ _ => rfl)
                        have hY_490 := hY_477.mono (pIx hI485 (by decide)) (fun _ _ => rfl)
                        have hD_491 := hD_478.mono (pIx hI485 (by decide)) (fun _ _ => rfl)
                        have hEI492 := hEI479.put hI485 (by decide)
                        show pl _ _ _ (380, [(0, .ref m0), (1, .int (nI k)), (2, .int (nI (by1 f p1)))], [], M481) _
                        refine ps_st (S' := (499, [(0, .ref m0), (1, .int (nI k)), (2, .int (nI (by1 f p1)))], [], M481)) rfl rfl rfl ?_
                        have hE9 := hD_491.no (by omega)
                        exact ih.2.2.2.2 (k) (p1) (p1 + 5) (E) (tx1) (cN1) (A1) M481 I482 R468 hR483 hEI492 hER480 hi484 hi486 hi487 hi488 hF_489 hY_490 hE9 (hk) (hp1) (htx) (hs) (ht) (⟨_, by rw [ent_4 (by omega) ht (by omega), if_neg (by omega)]⟩) (by omega) (by omega)
                      · skip
                        obtain ⟨I493, R494, q362_s, rfl, hR495, hI496, hX497, hi498, hi499⟩ := q466
                        have hi500 := (hI496 51 (by decide)).trans hi412
                        have hi501 := (hI496 52 (by decide)).trans hi413
                        have hi502 := (hI496 53 (by decide)).trans hi414
                        have hi503 := (hI496 50 (by decide)).trans hi410
                        have hF_504 := hF_415.mono (cIx hI496 (by decide)) (cRx hX497 (by decide))
                        have hY_505 := hY_416.mono (cIx hI496 (by decide)) (cRx hX497 (by decide))
                        have hD_506 := hD_417.mono (cIx hI496 (by decide)) (cRx hX497 (by decide))
                        have hEI507 := hEI418.tr hI496 (by decide)
                        have hER508 := hER1.tr hX497 (by decide)
                        show pl _ _ _ (365, [(0, .ref m0), (1, .int (nI k)), (2, .int (nI (by1 f p1)))], [.int 0], M465) _
                        refine ps_if (S1 := (370, [(0, .ref m0), (1, .int (nI k)), (2, .int (nI (by1 f p1)))], [], M465)) (S2 := (368, [(0, .ref m0), (1, .int (nI k)), (2, .int (nI (by1 f p1)))], [], M465)) rfl rfl rfl (fun c_365 => ?_) (fun c_365 => ?_)
                        · exact absurd (of_decide_eq_true c_365) (by decide)
                        refine ps_st (S' := (369, [(0, .ref m0), (1, .int (nI k)), (2, .int (nI (by1 f p1)))], [.int 0], M465)) rfl rfl rfl ?_
                        exact ps_ret rfl rfl (Or.inr ⟨(1, p1 + 1), I493, R494, by
                            rw [← hs]
                            exact s_ents_bad (by omega) (by rw [ent_4 (by omega) ht (by omega), if_pos (by omega)]), rfl, hR495, hEI507, hER508, hi498, hi499⟩)
                · have c_300 : ¬ (¬ (nI (by1 f p1)) = 15) := of_decide_eq_false c_300
                  have n_300 : by1 f p1 = 15 := (eq_nI (p := by1 f p1) (n := 15) (Nat.lt_trans (by1_lt _ _) (by decide)) (by decide)).mp (Decidable.not_not.mp c_300)
                  refine ps_st (S' := (304, [(0, .ref m0), (1, .int (nI k)), (2, .int (nI (by1 f p1)))], [.ref m0], M407)) rfl rfl rfl ?_
                  refine ps_st (S' := (305, [(0, .ref m0), (1, .int (nI k)), (2, .int (nI (by1 f p1)))], [.long 1, .ref m0], M407)) rfl rfl rfl ?_
                  refine pl_call (a := [.ref m0, .long 1]) (rest := []) rfl rfl rfl (rd_item (n := n) (f := f) (p := (p1 + 1)) (k := 1) hR409 hi410 hF_415 (by omega) (by decide)) (fun v509 M510 q511 => ?_)
                  rcases q511 with q511 | q511
                  · skip
                    obtain ⟨I512, R513, q305_s, rfl, hR514, hI515, hX516⟩ := q511
                    have hi517 := (hI515 51 (by decide)).trans hi412
                    have hi518 := (hI515 52 (by decide)).trans hi413
                    have hi519 := (hI515 53 (by decide)).trans hi414
                    have hi520 := (hI515 50 (by decide)).trans hi410
                    have hF_521 := hF_415.mono (cIx hI515 (by decide)) (cRx hX516 (by decide))
                    have hY_522 := hY_416.mono (cIx hI515 (by decide)) (cRx hX516 (by decide))
                    have hD_523 := hD_417.mono (cIx hI515 (by decide)) (cRx hX516 (by decide))
                    have hEI524 := hEI418.tr hI515 (by decide)
                    have hER525 := hER1.tr hX516 (by decide)
                    show pl _ _ _ (308, [(0, .ref m0), (1, .int (nI k)), (2, .int (nI (by1 f p1)))], [.int 1], M510) _
                    refine ps_if (S1 := (313, [(0, .ref m0), (1, .int (nI k)), (2, .int (nI (by1 f p1)))], [], M510)) (S2 := (311, [(0, .ref m0), (1, .int (nI k)), (2, .int (nI (by1 f p1)))], [], M510)) rfl rfl rfl (fun c_308 => ?_) (fun c_308 => ?_)
                    rotate_left
                    · exact absurd (by decide) (of_decide_eq_false c_308)
                    refine ps_st (S' := (314, [(0, .ref m0), (1, .int (nI k)), (2, .int (nI (by1 f p1)))], [.ref m0], M510)) rfl rfl rfl ?_
                    refine ps_st (S' := (315, [(0, .ref m0), (1, .int (nI k)), (2, .int (nI (by1 f p1)))], [.ref m0, .ref m0], M510)) rfl rfl rfl ?_
                    refine pr_int (j := 50) (S' := (318, [(0, .ref m0), (1, .int (nI k)), (2, .int (nI (by1 f p1)))], [.int (nI (p1 + 1)), .ref m0], M510)) rfl hR514 rfl hi520 rfl ?_
                    refine ps_st (S' := (319, [(0, .ref m0), (1, .int (nI k)), (2, .int (nI (by1 f p1)))], [.int 1, .int (nI (p1 + 1)), .ref m0], M510)) rfl rfl rfl ?_
                    refine ps_st (S' := (320, [(0, .ref m0), (1, .int (nI k)), (2, .int (nI (by1 f p1)))], [.int ((nI (p1 + 1)) + 1), .ref m0], M510)) rfl rfl rfl ?_
                    rw [nI_add1 (p := p1 + 1) (k := 1) (x := 1) rfl (by omega)]
                    show pl _ _ _ (_, [(0, .ref m0), (1, .int (nI k)), (2, .int (nI (by1 f p1)))], [.int (nI (p1 + 2)), .ref m0], M510) _
                    refine pr_put (j := 50) rfl hR514 rfl (fun M526 I527 hR528 hi529 hI530 => ?_)
                    have hi531 := (hI530 51 (by decide)).trans hi517
                    have hi532 := (hI530 52 (by decide)).trans hi518
                    have hi533 := (hI530 53 (by decide)).trans hi519
                    have hF_534 := hF_521.mono (pIx hI530 (by decide)) (fun _ _ => rfl)
                    have hY_535 := hY_522.mono (pIx hI530 (by decide)) (fun _ _ => rfl)
                    have hD_536 := hD_523.mono (pIx hI530 (by decide)) (fun _ _ => rfl)
                    have hEI537 := hEI524.put hI530 (by decide)
                    show pl _ _ _ (323, [(0, .ref m0), (1, .int (nI k)), (2, .int (nI (by1 f p1)))], [], M526) _
                    refine ps_st (S' := (324, [(0, .ref m0), (1, .int (nI k)), (2, .int (nI (by1 f p1)))], [.ref m0], M526)) rfl rfl rfl ?_
                    refine ps_st (S' := (327, [(0, .ref m0), (1, .int (nI k)), (2, .int (nI (by1 f p1)))], [.long 2, .ref m0], M526)) rfl rfl rfl ?_
                    refine pl_call (a := [.ref m0, .long 2]) (rest := []) rfl rfl rfl (rd_item (n := n) (f := f) (p := (p1 + 2)) (k := 2) hR528 hi529 hF_534 (by omega) (by decide)) (fun v538 M539 q540 => ?_)
                    rcases q540 with q540 | q540
                    · skip
                      obtain ⟨I541, R542, q327_s, rfl, hR543, hI544, hX545⟩ := q540
                      have hi546 := (hI544 51 (by decide)).trans hi531
                      have hi547 := (hI544 52 (by decide)).trans hi532
                      have hi548 := (hI544 53 (by decide)).trans hi533
                      have hi549 := (hI544 50 (by decide)).trans hi529
                      have hF_550 := hF_534.mono (cIx hI544 (by decide)) (cRx hX545 (by decide))
                      have hY_551 := hY_535.mono (cIx hI544 (by decide)) (cRx hX545 (by decide))
                      have hD_552 := hD_536.mono (cIx hI544 (by decide)) (cRx hX545 (by decide))
                      have hEI553 := hEI537.tr hI544 (by decide)
                      have hER554 := hER525.tr hX545 (by decide)
                      show pl _ _ _ (330, [(0, .ref m0), (1, .int (nI k)), (2, .int (nI (by1 f p1)))], [.int 1], M539) _
                      refine ps_if (S1 := (335, [(0, .ref m0), (1, .int (nI k)), (2, .int (nI (by1 f p1)))], [], M539)) (S2 := (333, [(0, .ref m0), (1, .int (nI k)), (2, .int (nI (by1 f p1)))], [], M539)) rfl rfl rfl (fun c_330 => ?_) (fun c_330 => ?_)
                      rotate_left
                      · exact absurd (by decide) (of_decide_eq_false c_330)
                      refine ps_st (S' := (336, [(0, .ref m0), (1, .int (nI k)), (2, .int (nI (by1 f p1)))], [.ref m0], M539)) rfl rfl rfl ?_
                      refine ps_st (S' := (337, [(0, .ref m0), (1, .int (nI k)), (2, .int (nI (by1 f p1)))], [.ref m0, .ref m0], M539)) rfl rfl rfl ?_
                      refine pr_int (j := 50) (S' := (340, [(0, .ref m0), (1, .int (nI k)), (2, .int (nI (by1 f p1)))], [.int (nI (p1 + 2)), .ref m0], M539)) rfl hR543 rfl hi549 rfl ?_
                      refine ps_st (S' := (341, [(0, .ref m0), (1, .int (nI k)), (2, .int (nI (by1 f p1)))], [.int 2, .int (nI (p1 + 2)), .ref m0], M539)) rfl rfl rfl ?_
                      refine ps_st (S' := (342, [(0, .ref m0), (1, .int (nI k)), (2, .int (nI (by1 f p1)))], [.int ((nI (p1 + 2)) + 2), .ref m0], M539)) rfl rfl rfl ?_
                      rw [nI_add1 (p := p1 + 2) (k := 2) (x := 2) rfl (by omega)]
                      show pl _ _ _ (_, [(0, .ref m0), (1, .int (nI k)), (2, .int (nI (by1 f p1)))], [.int (nI (p1 + 4)), .ref m0], M539) _
                      refine pr_put (j := 50) rfl hR543 rfl (fun M555 I556 hR557 hi558 hI559 => ?_)
                      have hi560 := (hI559 51 (by decide)).trans hi546
                      have hi561 := (hI559 52 (by decide)).trans hi547
                      have hi562 := (hI559 53 (by decide)).trans hi548
                      have hF_563 := hF_550.mono (pIx hI559 (by decide)) (fun _ _ => rfl)
                      have hY_564 := hY_551.mono (pIx hI559 (by decide)) (fun _ _ => rfl)
                      have hD_565 := hD_552.mono (pIx hI559 (by decide)) (fun _ _ => rfl)
                      have hEI566 := hEI553.put hI559 (by decide)
                      show pl _ _ _ (345, [(0, .ref m0), (1, .int (nI k)), (2, .int (nI (by1 f p1)))], [], M555) _
                      refine ps_st (S' := (499, [(0, .ref m0), (1, .int (nI k)), (2, .int (nI (by1 f p1)))], [], M555)) rfl rfl rfl ?_
                      have hE9 := hD_565.no (by omega)
                      exact ih.2.2.2.2 (k) (p1) (p1 + 4) (E) (tx1) (cN1) (A1) M555 I556 R542 hR557 hEI566 hER554 hi558 hi560 hi561 hi562 hF_563 hY_564 hE9 (hk) (hp1) (htx) (hs) (ht) (⟨_, by rw [ent_x (by omega) ht (by omega), ix_15 (by omega), if_neg (by omega), if_neg (by omega)]⟩) (by omega) (by omega)
                    · skip
                      obtain ⟨I567, R568, q327_s, rfl, hR569, hI570, hX571, hi572, hi573⟩ := q540
                      have hi574 := (hI570 51 (by decide)).trans hi531
                      have hi575 := (hI570 52 (by decide)).trans hi532
                      have hi576 := (hI570 53 (by decide)).trans hi533
                      have hi577 := (hI570 50 (by decide)).trans hi529
                      have hF_578 := hF_534.mono (cIx hI570 (by decide)) (cRx hX571 (by decide))
                      have hY_579 := hY_535.mono (cIx hI570 (by decide)) (cRx hX571 (by decide))
                      have hD_580 := hD_536.mono (cIx hI570 (by decide)) (cRx hX571 (by decide))
                      have hEI581 := hEI537.tr hI570 (by decide)
                      have hER582 := hER525.tr hX571 (by decide)
                      show pl _ _ _ (330, [(0, .ref m0), (1, .int (nI k)), (2, .int (nI (by1 f p1)))], [.int 0], M539) _
                      refine ps_if (S1 := (335, [(0, .ref m0), (1, .int (nI k)), (2, .int (nI (by1 f p1)))], [], M539)) (S2 := (333, [(0, .ref m0), (1, .int (nI k)), (2, .int (nI (by1 f p1)))], [], M539)) rfl rfl rfl (fun c_330 => ?_) (fun c_330 => ?_)
                      · exact absurd (of_decide_eq_true c_330) (by decide)
                      refine ps_st (S' := (334, [(0, .ref m0), (1, .int (nI k)), (2, .int (nI (by1 f p1)))], [.int 0], M539)) rfl rfl rfl ?_
                      exact ps_ret rfl rfl (Or.inr ⟨(1, p1 + 2), I567, R568, by
                          rw [← hs]
                          exact s_ents_bad (by omega) (by rw [ent_x (by omega) ht (by omega), ix_15 (by omega), if_neg (by omega), if_pos (by omega)]), rfl, hR569, hEI581, hER582, hi572, hi573⟩)
                  · skip
                    obtain ⟨I583, R584, q305_s, rfl, hR585, hI586, hX587, hi588, hi589⟩ := q511
                    have hi590 := (hI586 51 (by decide)).trans hi412
                    have hi591 := (hI586 52 (by decide)).trans hi413
                    have hi592 := (hI586 53 (by decide)).trans hi414
                    have hi593 := (hI586 50 (by decide)).trans hi410
                    have hF_594 := hF_415.mono (cIx hI586 (by decide)) (cRx hX587 (by decide))
                    have hY_595 := hY_416.mono (cIx hI586 (by decide)) (cRx hX587 (by decide))
                    have hD_596 := hD_417.mono (cIx hI586 (by decide)) (cRx hX587 (by decide))
                    have hEI597 := hEI418.tr hI586 (by decide)
                    have hER598 := hER1.tr hX587 (by decide)
                    show pl _ _ _ (308, [(0, .ref m0), (1, .int (nI k)), (2, .int (nI (by1 f p1)))], [.int 0], M510) _
                    refine ps_if (S1 := (313, [(0, .ref m0), (1, .int (nI k)), (2, .int (nI (by1 f p1)))], [], M510)) (S2 := (311, [(0, .ref m0), (1, .int (nI k)), (2, .int (nI (by1 f p1)))], [], M510)) rfl rfl rfl (fun c_308 => ?_) (fun c_308 => ?_)
                    · exact absurd (of_decide_eq_true c_308) (by decide)
                    refine ps_st (S' := (312, [(0, .ref m0), (1, .int (nI k)), (2, .int (nI (by1 f p1)))], [.int 0], M510)) rfl rfl rfl ?_
                    exact ps_ret rfl rfl (Or.inr ⟨(1, p1 + 1), I583, R584, by
                        rw [← hs]
                        exact s_ents_bad (by omega) (by rw [ent_x (by omega) ht (by omega), ix_15 (by omega), if_pos (by omega)]), rfl, hR585, hEI597, hER598, hi588, hi589⟩)
              · have c_215 : ¬ (¬ (nI (by1 f p1)) = 1) := of_decide_eq_false c_215
                have n_215 : by1 f p1 = 1 := (eq_nI (p := by1 f p1) (n := 1) (Nat.lt_trans (by1_lt _ _) (by decide)) (by decide)).mp (Decidable.not_not.mp c_215)
                refine ps_st (S' := (219, [(0, .ref m0), (1, .int (nI k)), (2, .int (nI (by1 f p1)))], [.ref m0], M407)) rfl rfl rfl ?_
                refine ps_st (S' := (222, [(0, .ref m0), (1, .int (nI k)), (2, .int (nI (by1 f p1)))], [.long 2, .ref m0], M407)) rfl rfl rfl ?_
                refine pl_call (a := [.ref m0, .long 2]) (rest := []) rfl rfl rfl (rd_item (n := n) (f := f) (p := (p1 + 1)) (k := 2) hR409 hi410 hF_415 (by omega) (by decide)) (fun v599 M600 q601 => ?_)
                rcases q601 with q601 | q601
                · skip
                  obtain ⟨I602, R603, q222_s, rfl, hR604, hI605, hX606⟩ := q601
                  have hi607 := (hI605 51 (by decide)).trans hi412
                  have hi608 := (hI605 52 (by decide)).trans hi413
                  have hi609 := (hI605 53 (by decide)).trans hi414
                  have hi610 := (hI605 50 (by decide)).trans hi410
                  have hF_611 := hF_415.mono (cIx hI605 (by decide)) (cRx hX606 (by decide))
                  have hY_612 := hY_416.mono (cIx hI605 (by decide)) (cRx hX606 (by decide))
                  have hD_613 := hD_417.mono (cIx hI605 (by decide)) (cRx hX606 (by decide))
                  have hEI614 := hEI418.tr hI605 (by decide)
                  have hER615 := hER1.tr hX606 (by decide)
                  show pl _ _ _ (225, [(0, .ref m0), (1, .int (nI k)), (2, .int (nI (by1 f p1)))], [.int 1], M600) _
                  refine ps_if (S1 := (230, [(0, .ref m0), (1, .int (nI k)), (2, .int (nI (by1 f p1)))], [], M600)) (S2 := (228, [(0, .ref m0), (1, .int (nI k)), (2, .int (nI (by1 f p1)))], [], M600)) rfl rfl rfl (fun c_225 => ?_) (fun c_225 => ?_)
                  rotate_left
                  · exact absurd (by decide) (of_decide_eq_false c_225)
                  refine ps_st (S' := (231, [(0, .ref m0), (1, .int (nI k)), (2, .int (nI (by1 f p1)))], [.ref m0], M600)) rfl rfl rfl ?_
                  refine ps_st (S' := (232, [(0, .ref m0), (1, .int (nI k)), (2, .int (nI (by1 f p1)))], [.ref m0, .ref m0], M600)) rfl rfl rfl ?_
                  refine pr_int (j := 50) (S' := (235, [(0, .ref m0), (1, .int (nI k)), (2, .int (nI (by1 f p1)))], [.int (nI (p1 + 1)), .ref m0], M600)) rfl hR604 rfl hi610 rfl ?_
                  refine pl_call (a := [.ref m0, .int (nI (p1 + 1))]) (rest := []) rfl rfl rfl (rd_u2 (n := n) (f := f) (p := (p1 + 1)) hR604 hF_611 (by omega)) (fun v616 M617 q618 => ?_)
                  obtain ⟨rfl, rfl⟩ := q618
                  show pl _ _ _ (238, [(0, .ref m0), (1, .int (nI k)), (2, .int (nI (by1 f p1)))], [.int (nI (by2 f (p1 + 1)))], M600) _
                  have hu_235 := by2_lt f (p1 + 1)
                  refine ps_st (S' := (240, [(5, .int (nI (by2 f (p1 + 1)))), (0, .ref m0), (1, .int (nI k)), (2, .int (nI (by1 f p1)))], [], M600)) rfl rfl rfl ?_
                  refine ps_st (S' := (241, [(5, .int (nI (by2 f (p1 + 1)))), (0, .ref m0), (1, .int (nI k)), (2, .int (nI (by1 f p1)))], [.ref m0], M600)) rfl rfl rfl ?_
                  refine ps_st (S' := (242, [(5, .int (nI (by2 f (p1 + 1)))), (0, .ref m0), (1, .int (nI k)), (2, .int (nI (by1 f p1)))], [.ref m0, .ref m0], M600)) rfl rfl rfl ?_
                  refine pr_int (j := 50) (S' := (245, [(5, .int (nI (by2 f (p1 + 1)))), (0, .ref m0), (1, .int (nI k)), (2, .int (nI (by1 f p1)))], [.int (nI (p1 + 1)), .ref m0], M600)) rfl hR604 rfl hi610 rfl ?_
                  refine ps_st (S' := (246, [(5, .int (nI (by2 f (p1 + 1)))), (0, .ref m0), (1, .int (nI k)), (2, .int (nI (by1 f p1)))], [.int 2, .int (nI (p1 + 1)), .ref m0], M600)) rfl rfl rfl ?_
                  refine ps_st (S' := (247, [(5, .int (nI (by2 f (p1 + 1)))), (0, .ref m0), (1, .int (nI k)), (2, .int (nI (by1 f p1)))], [.int ((nI (p1 + 1)) + 2), .ref m0], M600)) rfl rfl rfl ?_
                  rw [nI_add1 (p := p1 + 1) (k := 2) (x := 2) rfl (by omega)]
                  show pl _ _ _ (_, [(5, .int (nI (by2 f (p1 + 1)))), (0, .ref m0), (1, .int (nI k)), (2, .int (nI (by1 f p1)))], [.int (nI (p1 + 3)), .ref m0], M600) _
                  refine pr_put (j := 50) rfl hR604 rfl (fun M619 I620 hR621 hi622 hI623 => ?_)
                  have hi624 := (hI623 51 (by decide)).trans hi607
                  have hi625 := (hI623 52 (by decide)).trans hi608
                  have hi626 := (hI623 53 (by decide)).trans hi609
                  have hF_627 := hF_611.mono (pIx hI623 (by decide)) (fun _ _ => rfl)
                  have hY_628 := hY_612.mono (pIx hI623 (by decide)) (fun _ _ => rfl)
                  have hD_629 := hD_613.mono (pIx hI623 (by decide)) (fun _ _ => rfl)
                  have hEI630 := hEI614.put hI623 (by decide)
                  show pl _ _ _ (250, [(5, .int (nI (by2 f (p1 + 1)))), (0, .ref m0), (1, .int (nI k)), (2, .int (nI (by1 f p1)))], [], M619) _
                  refine ps_st (S' := (251, [(5, .int (nI (by2 f (p1 + 1)))), (0, .ref m0), (1, .int (nI k)), (2, .int (nI (by1 f p1)))], [.ref m0], M619)) rfl rfl rfl ?_
                  refine ps_st (S' := (253, [(5, .int (nI (by2 f (p1 + 1)))), (0, .ref m0), (1, .int (nI k)), (2, .int (nI (by1 f p1)))], [.int (nI (by2 f (p1 + 1))), .ref m0], M619)) rfl rfl rfl ?_
                  refine ps_st (S' := (254, [(5, .int (nI (by2 f (p1 + 1)))), (0, .ref m0), (1, .int (nI k)), (2, .int (nI (by1 f p1)))], [.long (Int32.toInt64 (nI (by2 f (p1 + 1)))), .ref m0], M619)) rfl rfl rfl ?_
                  rw [i2l_nL (p := by2 f (p1 + 1)) (by omega)]
                  show pl _ _ _ (_, [(5, .int (nI (by2 f (p1 + 1)))), (0, .ref m0), (1, .int (nI k)), (2, .int (nI (by1 f p1)))], [.long (nL (by2 f (p1 + 1))), .ref m0], M619) _
                  refine pl_call (a := [.ref m0, .long (nL (by2 f (p1 + 1)))]) (rest := []) rfl rfl rfl (rd_item (n := n) (f := f) (p := (p1 + 3)) (k := (by2 f (p1 + 1))) hR621 hi622 hF_627 (by omega) (by omega)) (fun v631 M632 q633 => ?_)
                  rcases q633 with q633 | q633
                  · skip
                    obtain ⟨I634, R635, q254_s, rfl, hR636, hI637, hX638⟩ := q633
                    have hi639 := (hI637 51 (by decide)).trans hi624
                    have hi640 := (hI637 52 (by decide)).trans hi625
                    have hi641 := (hI637 53 (by decide)).trans hi626
                    have hi642 := (hI637 50 (by decide)).trans hi622
                    have hF_643 := hF_627.mono (cIx hI637 (by decide)) (cRx hX638 (by decide))
                    have hY_644 := hY_628.mono (cIx hI637 (by decide)) (cRx hX638 (by decide))
                    have hD_645 := hD_629.mono (cIx hI637 (by decide)) (cRx hX638 (by decide))
                    have hEI646 := hEI630.tr hI637 (by decide)
                    have hER647 := hER615.tr hX638 (by decide)
                    show pl _ _ _ (257, [(5, .int (nI (by2 f (p1 + 1)))), (0, .ref m0), (1, .int (nI k)), (2, .int (nI (by1 f p1)))], [.int 1], M632) _
                    refine ps_if (S1 := (262, [(5, .int (nI (by2 f (p1 + 1)))), (0, .ref m0), (1, .int (nI k)), (2, .int (nI (by1 f p1)))], [], M632)) (S2 := (260, [(5, .int (nI (by2 f (p1 + 1)))), (0, .ref m0), (1, .int (nI k)), (2, .int (nI (by1 f p1)))], [], M632)) rfl rfl rfl (fun c_257 => ?_) (fun c_257 => ?_)
                    rotate_left
                    · exact absurd (by decide) (of_decide_eq_false c_257)
                    refine ps_st (S' := (263, [(5, .int (nI (by2 f (p1 + 1)))), (0, .ref m0), (1, .int (nI k)), (2, .int (nI (by1 f p1)))], [.ref m0], M632)) rfl rfl rfl ?_
                    refine ps_st (S' := (264, [(5, .int (nI (by2 f (p1 + 1)))), (0, .ref m0), (1, .int (nI k)), (2, .int (nI (by1 f p1)))], [.ref m0, .ref m0], M632)) rfl rfl rfl ?_
                    refine pr_int (j := 51) (S' := (267, [(5, .int (nI (by2 f (p1 + 1)))), (0, .ref m0), (1, .int (nI k)), (2, .int (nI (by1 f p1)))], [.int 0, .ref m0], M632)) rfl hR636 rfl hi639 rfl ?_
                    refine ps_st (S' := (268, [(5, .int (nI (by2 f (p1 + 1)))), (0, .ref m0), (1, .int (nI k)), (2, .int (nI (by1 f p1)))], [.int (nI k), .int 0, .ref m0], M632)) rfl rfl rfl ?_
                    refine ps_st (S' := (269, [(5, .int (nI (by2 f (p1 + 1)))), (0, .ref m0), (1, .int (nI k)), (2, .int (nI (by1 f p1)))], [.int (0 + (nI k)), .ref m0], M632)) rfl rfl rfl ?_
                    rw [show (0 : Int32) + (nI k) = (nI k) from Int32.zero_add _]
                    show pl _ _ _ (_, [(5, .int (nI (by2 f (p1 + 1)))), (0, .ref m0), (1, .int (nI k)), (2, .int (nI (by1 f p1)))], [.int (nI k), .ref m0], M632) _
                    refine ps_st (S' := (270, [(5, .int (nI (by2 f (p1 + 1)))), (0, .ref m0), (1, .int (nI k)), (2, .int (nI (by1 f p1)))], [.ref m0, .int (nI k), .ref m0], M632)) rfl rfl rfl ?_
                    refine pr_int (j := 50) (S' := (273, [(5, .int (nI (by2 f (p1 + 1)))), (0, .ref m0), (1, .int (nI k)), (2, .int (nI (by1 f p1)))], [.int (nI (p1 + 3)), .int (nI k), .ref m0], M632)) rfl hR636 rfl hi642 rfl ?_
                    refine ps_st (S' := (275, [(5, .int (nI (by2 f (p1 + 1)))), (0, .ref m0), (1, .int (nI k)), (2, .int (nI (by1 f p1)))], [.int (nI (by2 f (p1 + 1))), .int (nI (p1 + 3)), .int (nI k), .ref m0], M632)) rfl rfl rfl ?_
                    refine pl_call (a := [.ref m0, .int (nI k), .int (nI (p1 + 3)), .int (nI (by2 f (p1 + 1)))]) (rest := []) rfl rfl rfl (rd_utf8 (n := n) (f := f) (tx := tx1) (cN := cN1) (A := A1) (j := k) (p := (p1 + 3)) (m := (by2 f (p1 + 1))) hR636 hF_643 hY_644 (by omega) (by omega)) (fun v648 M649 q650 => ?_)
                    rcases q650 with q650 | q650
                    · skip
                      obtain ⟨tx2651, cN2652, A2653, l654, x655, I656, R657, q275_s, q275_x, q275_k, q275_r, rfl, hR658, hI659, hX660, hY_661⟩ := q650
                      have hi662 := (hI659 51 (by decide)).trans hi639
                      have hi663 := (hI659 52 (by decide)).trans hi640
                      have hi664 := (hI659 53 (by decide)).trans hi641
                      have hi665 := (hI659 50 (by decide)).trans hi642
                      have hF_666 := hF_643.mono (cIx hI659 (by decide)) (cRx hX660 (by decide))
                      have hEI667 := hEI646.tr hI659 (by decide)
                      have hER668 := hER647.tr hX660 (by decide)
                      show pl _ _ _ (278, [(5, .int (nI (by2 f (p1 + 1)))), (0, .ref m0), (1, .int (nI k)), (2, .int (nI (by1 f p1)))], [.int 1], M649) _
                      have hE_669 := hD_645.sy (I' := I656) q275_k (hX660 21 (by decide)) q275_r.2 q275_r.1 q275_x (s_utf_ok (by omega) (by omega) q275_s)
                      refine ps_if (S1 := (283, [(5, .int (nI (by2 f (p1 + 1)))), (0, .ref m0), (1, .int (nI k)), (2, .int (nI (by1 f p1)))], [], M649)) (S2 := (281, [(5, .int (nI (by2 f (p1 + 1)))), (0, .ref m0), (1, .int (nI k)), (2, .int (nI (by1 f p1)))], [], M649)) rfl rfl rfl (fun c_278 => ?_) (fun c_278 => ?_)
                      rotate_left
                      · exact absurd (by decide) (of_decide_eq_false c_278)
                      refine ps_st (S' := (284, [(5, .int (nI (by2 f (p1 + 1)))), (0, .ref m0), (1, .int (nI k)), (2, .int (nI (by1 f p1)))], [.ref m0], M649)) rfl rfl rfl ?_
                      refine ps_st (S' := (285, [(5, .int (nI (by2 f (p1 + 1)))), (0, .ref m0), (1, .int (nI k)), (2, .int (nI (by1 f p1)))], [.ref m0, .ref m0], M649)) rfl rfl rfl ?_
                      refine pr_int (j := 50) (S' := (288, [(5, .int (nI (by2 f (p1 + 1)))), (0, .ref m0), (1, .int (nI k)), (2, .int (nI (by1 f p1)))], [.int (nI (p1 + 3)), .ref m0], M649)) rfl hR658 rfl hi665 rfl ?_
                      refine ps_st (S' := (290, [(5, .int (nI (by2 f (p1 + 1)))), (0, .ref m0), (1, .int (nI k)), (2, .int (nI (by1 f p1)))], [.int (nI (by2 f (p1 + 1))), .int (nI (p1 + 3)), .ref m0], M649)) rfl rfl rfl ?_
                      refine ps_st (S' := (291, [(5, .int (nI (by2 f (p1 + 1)))), (0, .ref m0), (1, .int (nI k)), (2, .int (nI (by1 f p1)))], [.int ((nI (p1 + 3)) + (nI (by2 f (p1 + 1)))), .ref m0], M649)) rfl rfl rfl ?_
                      rw [nI_add1 (p := p1 + 3) (k := by2 f (p1 + 1)) (x := (nI (by2 f (p1 + 1)))) rfl (by omega)]
                      show pl _ _ _ (_, [(5, .int (nI (by2 f (p1 + 1)))), (0, .ref m0), (1, .int (nI k)), (2, .int (nI (by1 f p1)))], [.int (nI (p1 + 3 + by2 f (p1 + 1))), .ref m0], M649) _
                      refine pr_put (j := 50) rfl hR658 rfl (fun M670 I671 hR672 hi673 hI674 => ?_)
                      have hi675 := (hI674 51 (by decide)).trans hi662
                      have hi676 := (hI674 52 (by decide)).trans hi663
                      have hi677 := (hI674 53 (by decide)).trans hi664
                      have hF_678 := hF_666.mono (pIx hI674 (by decide)) (fun _ _ => rfl)
                      have hY_679 := hY_661.mono (pIx hI674 (by decide)) (fun _ _ => rfl)
                      have hE_680 := hE_669.mono (pIx hI674 (by decide)) (fun _ _ => rfl)
                      have hEI681 := hEI667.put hI674 (by decide)
                      show pl _ _ _ (294, [(5, .int (nI (by2 f (p1 + 1)))), (0, .ref m0), (1, .int (nI k)), (2, .int (nI (by1 f p1)))], [], M670) _
                      refine ps_st (S' := (499, [(0, .ref m0), (1, .int (nI k)), (2, .int (nI (by1 f p1)))], [], M670)) rfl rfl rfl ?_
                      exact ih.2.2.2.2 (k) (p1) (p1 + 3 + by2 f (p1 + 1)) (E) (tx2651) (cN2652) (A2653) M670 I671 R657 hR672 hEI681 hER668 hi673 hi675 hi676 hi677 hF_678 hY_679 hE_680 (hk) (hp1) (⟨by have := q275_k.1; omega, fun s9 h9 => by rw [q275_k.2 s9 (by omega), htx.2 s9 h9]⟩) (hs) (ht) (⟨_, by rw [ent_1 (by omega) ht (by omega), s_utf_ok (by omega) (by omega) q275_s]⟩) (by omega) (by omega)
                    · skip
                      obtain ⟨w682, I683, R684, q275_s, rfl, hR685, hI686, hX687, hi688, hi689⟩ := q650
                      have hi690 := (hI686 51 (by decide)).trans hi639
                      have hi691 := (hI686 52 (by decide)).trans hi640
                      have hi692 := (hI686 53 (by decide)).trans hi641
                      have hi693 := (hI686 50 (by decide)).trans hi642
                      have hF_694 := hF_643.mono (cIx hI686 (by decide)) (cRx hX687 (by decide))
                      have hEI695 := hEI646.tr hI686 (by decide)
                      have hER696 := hER647.tr hX687 (by decide)
                      show pl _ _ _ (278, [(5, .int (nI (by2 f (p1 + 1)))), (0, .ref m0), (1, .int (nI k)), (2, .int (nI (by1 f p1)))], [.int 0], M649) _
                      refine ps_if (S1 := (283, [(5, .int (nI (by2 f (p1 + 1)))), (0, .ref m0), (1, .int (nI k)), (2, .int (nI (by1 f p1)))], [], M649)) (S2 := (281, [(5, .int (nI (by2 f (p1 + 1)))), (0, .ref m0), (1, .int (nI k)), (2, .int (nI (by1 f p1)))], [], M649)) rfl rfl rfl (fun c_278 => ?_) (fun c_278 => ?_)
                      · exact absurd (of_decide_eq_true c_278) (by decide)
                      refine ps_st (S' := (282, [(5, .int (nI (by2 f (p1 + 1)))), (0, .ref m0), (1, .int (nI k)), (2, .int (nI (by1 f p1)))], [.int 0], M649)) rfl rfl rfl ?_
                      exact ps_ret rfl rfl (Or.inr ⟨(6, w682), I683, R684, by
                          rw [← hs]
                          exact s_ents_bad (by omega) (by rw [ent_1 (by omega) ht (by omega), s_utf_bad (by omega) (by omega) q275_s]), rfl, hR685, hEI695, hER696, hi688, hi689⟩)
                  · skip
                    obtain ⟨I697, R698, q254_s, rfl, hR699, hI700, hX701, hi702, hi703⟩ := q633
                    have hi704 := (hI700 51 (by decide)).trans hi624
                    have hi705 := (hI700 52 (by decide)).trans hi625
                    have hi706 := (hI700 53 (by decide)).trans hi626
                    have hi707 := (hI700 50 (by decide)).trans hi622
                    have hF_708 := hF_627.mono (cIx hI700 (by decide)) (cRx hX701 (by decide))
                    have hY_709 := hY_628.mono (cIx hI700 (by decide)) (cRx hX701 (by decide))
                    have hD_710 := hD_629.mono (cIx hI700 (by decide)) (cRx hX701 (by decide))
                    have hEI711 := hEI630.tr hI700 (by decide)
                    have hER712 := hER615.tr hX701 (by decide)
                    show pl _ _ _ (257, [(5, .int (nI (by2 f (p1 + 1)))), (0, .ref m0), (1, .int (nI k)), (2, .int (nI (by1 f p1)))], [.int 0], M632) _
                    refine ps_if (S1 := (262, [(5, .int (nI (by2 f (p1 + 1)))), (0, .ref m0), (1, .int (nI k)), (2, .int (nI (by1 f p1)))], [], M632)) (S2 := (260, [(5, .int (nI (by2 f (p1 + 1)))), (0, .ref m0), (1, .int (nI k)), (2, .int (nI (by1 f p1)))], [], M632)) rfl rfl rfl (fun c_257 => ?_) (fun c_257 => ?_)
                    · exact absurd (of_decide_eq_true c_257) (by decide)
                    refine ps_st (S' := (261, [(5, .int (nI (by2 f (p1 + 1)))), (0, .ref m0), (1, .int (nI k)), (2, .int (nI (by1 f p1)))], [.int 0], M632)) rfl rfl rfl ?_
                    exact ps_ret rfl rfl (Or.inr ⟨(1, p1 + 3), I697, R698, by
                        rw [← hs]
                        exact s_ents_bad (by omega) (by rw [ent_1 (by omega) ht (by omega), show s_utf f n (p1 + 1) = .inl (1, p1 + 3) by unfold s_utf; rw [if_neg (by omega), if_pos (by omega)]]), rfl, hR699, hEI711, hER712, hi702, hi703⟩)
                · skip
                  obtain ⟨I713, R714, q222_s, rfl, hR715, hI716, hX717, hi718, hi719⟩ := q601
                  have hi720 := (hI716 51 (by decide)).trans hi412
                  have hi721 := (hI716 52 (by decide)).trans hi413
                  have hi722 := (hI716 53 (by decide)).trans hi414
                  have hi723 := (hI716 50 (by decide)).trans hi410
                  have hF_724 := hF_415.mono (cIx hI716 (by decide)) (cRx hX717 (by decide))
                  have hY_725 := hY_416.mono (cIx hI716 (by decide)) (cRx hX717 (by decide))
                  have hD_726 := hD_417.mono (cIx hI716 (by decide)) (cRx hX717 (by decide))
                  have hEI727 := hEI418.tr hI716 (by decide)
                  have hER728 := hER1.tr hX717 (by decide)
                  show pl _ _ _ (225, [(0, .ref m0), (1, .int (nI k)), (2, .int (nI (by1 f p1)))], [.int 0], M600) _
                  refine ps_if (S1 := (230, [(0, .ref m0), (1, .int (nI k)), (2, .int (nI (by1 f p1)))], [], M600)) (S2 := (228, [(0, .ref m0), (1, .int (nI k)), (2, .int (nI (by1 f p1)))], [], M600)) rfl rfl rfl (fun c_225 => ?_) (fun c_225 => ?_)
                  · exact absurd (of_decide_eq_true c_225) (by decide)
                  refine ps_st (S' := (229, [(0, .ref m0), (1, .int (nI k)), (2, .int (nI (by1 f p1)))], [.int 0], M600)) rfl rfl rfl ?_
                  exact ps_ret rfl rfl (Or.inr ⟨(1, p1 + 1), I713, R714, by
                      rw [← hs]
                      exact s_ents_bad (by omega) (by rw [ent_1 (by omega) ht (by omega), show s_utf f n (p1 + 1) = .inl (1, p1 + 1) by unfold s_utf; rw [if_pos (by omega)]]), rfl, hR715, hEI727, hER728, hi718, hi719⟩)
            · have c_182 : ¬ (¬ (nI (by1 f p1)) = 6) := of_decide_eq_false c_182
              have n_182 : by1 f p1 = 6 := (eq_nI (p := by1 f p1) (n := 6) (Nat.lt_trans (by1_lt _ _) (by decide)) (by decide)).mp (Decidable.not_not.mp c_182)
              refine ps_st (S' := (186, [(0, .ref m0), (1, .int (nI k)), (2, .int (nI (by1 f p1))), (3, .int (nI p1))], [.int (nI k)], M1)) rfl rfl rfl ?_
              refine ps_st (S' := (187, [(0, .ref m0), (1, .int (nI k)), (2, .int (nI (by1 f p1))), (3, .int (nI p1))], [.int 1, .int (nI k)], M1)) rfl rfl rfl ?_
              refine ps_st (S' := (188, [(0, .ref m0), (1, .int (nI k)), (2, .int (nI (by1 f p1))), (3, .int (nI p1))], [.int ((nI k) + 1)], M1)) rfl rfl rfl ?_
              rw [nI_add1 (p := k) (k := 1) (x := 1) rfl (by omega)]
              show pl _ _ _ (_, [(0, .ref m0), (1, .int (nI k)), (2, .int (nI (by1 f p1))), (3, .int (nI p1))], [.int (nI (k + 1))], M1) _
              refine ps_st (S' := (189, [(0, .ref m0), (1, .int (nI k)), (2, .int (nI (by1 f p1))), (3, .int (nI p1))], [.ref m0, .int (nI (k + 1))], M1)) rfl rfl rfl ?_
              refine pr_int (j := 52) (S' := (192, [(0, .ref m0), (1, .int (nI k)), (2, .int (nI (by1 f p1))), (3, .int (nI p1))], [.int (nI N), .int (nI (k + 1))], M1)) rfl hR1 rfl hl52 rfl ?_
              refine ps_if2 (S1 := (203, [(0, .ref m0), (1, .int (nI k)), (2, .int (nI (by1 f p1)))], [], M1)) (S2 := (195, [(0, .ref m0), (1, .int (nI k)), (2, .int (nI (by1 f p1))), (3, .int (nI p1))], [], M1)) rfl rfl rfl (fun c_192 => ?_) (fun c_192 => ?_)
              · have c_192 : (nI (k + 1)) < (nI N) := of_decide_eq_true c_192
                have n_192 : k + 1 < N := (lt_nI (p := k + 1) (n := N) (by omega) (by omega)).mp c_192
                refine ps_st (S' := (204, [(0, .ref m0), (1, .int (nI k)), (2, .int (nI (by1 f p1)))], [.ref m0], M1)) rfl rfl rfl ?_
                refine ps_st (S' := (205, [(0, .ref m0), (1, .int (nI k)), (2, .int (nI (by1 f p1)))], [.ref m0, .ref m0], M1)) rfl rfl rfl ?_
                refine pr_int (j := 50) (S' := (208, [(0, .ref m0), (1, .int (nI k)), (2, .int (nI (by1 f p1)))], [.int (nI p1), .ref m0], M1)) rfl hR1 rfl hl50 rfl ?_
                refine ps_st (S' := (209, [(0, .ref m0), (1, .int (nI k)), (2, .int (nI (by1 f p1)))], [.int 1, .int (nI p1), .ref m0], M1)) rfl rfl rfl ?_
                refine ps_st (S' := (210, [(0, .ref m0), (1, .int (nI k)), (2, .int (nI (by1 f p1)))], [.int ((nI p1) + 1), .ref m0], M1)) rfl rfl rfl ?_
                rw [nI_add1 (p := p1) (k := 1) (x := 1) rfl (by omega)]
                show pl _ _ _ (_, [(0, .ref m0), (1, .int (nI k)), (2, .int (nI (by1 f p1)))], [.int (nI (p1 + 1)), .ref m0], M1) _
                refine pr_put (j := 50) rfl hR1 rfl (fun M729 I730 hR731 hi732 hI733 => ?_)
                have hi734 := (hI733 51 (by decide)).trans hl51
                have hi735 := (hI733 52 (by decide)).trans hl52
                have hi736 := (hI733 53 (by decide)).trans hl53
                have hF_737 := hF1.mono (pIx hI733 (by decide)) (fun _ _ => rfl)
                have hY_738 := hY1.mono (pIx hI733 (by decide)) (fun _ _ => rfl)
                have hD_739 := hD1.mono (pIx hI733 (by decide)) (fun _ _ => rfl)
                have hEI740 := hEI1.put hI733 (by decide)
                show pl _ _ _ (213, [(0, .ref m0), (1, .int (nI k)), (2, .int (nI (by1 f p1)))], [], M729) _
                refine ps_st (S' := (214, [(0, .ref m0), (1, .int (nI k)), (2, .int (nI (by1 f p1)))], [.int (nI (by1 f p1))], M729)) rfl rfl rfl ?_
                refine ps_st (S' := (215, [(0, .ref m0), (1, .int (nI k)), (2, .int (nI (by1 f p1)))], [.int 1, .int (nI (by1 f p1))], M729)) rfl rfl rfl ?_
                refine ps_if2 (S1 := (297, [(0, .ref m0), (1, .int (nI k)), (2, .int (nI (by1 f p1)))], [], M729)) (S2 := (218, [(0, .ref m0), (1, .int (nI k)), (2, .int (nI (by1 f p1)))], [], M729)) rfl rfl rfl (fun c_215 => ?_) (fun c_215 => ?_)
                · have c_215 : ¬ (nI (by1 f p1)) = 1 := of_decide_eq_true c_215
                  have n_215 : ¬ (by1 f p1 = 1) := fun h9 => c_215 ((eq_nI (p := by1 f p1) (n := 1) (Nat.lt_trans (by1_lt _ _) (by decide)) (by decide)).mpr h9)
                  refine ps_st (S' := (298, [(0, .ref m0), (1, .int (nI k)), (2, .int (nI (by1 f p1)))], [.int (nI (by1 f p1))], M729)) rfl rfl rfl ?_
                  refine ps_st (S' := (300, [(0, .ref m0), (1, .int (nI k)), (2, .int (nI (by1 f p1)))], [.int 15, .int (nI (by1 f p1))], M729)) rfl rfl rfl ?_
                  refine ps_if2 (S1 := (348, [(0, .ref m0), (1, .int (nI k)), (2, .int (nI (by1 f p1)))], [], M729)) (S2 := (303, [(0, .ref m0), (1, .int (nI k)), (2, .int (nI (by1 f p1)))], [], M729)) rfl rfl rfl (fun c_300 => ?_) (fun c_300 => ?_)
                  · have c_300 : ¬ (nI (by1 f p1)) = 15 := of_decide_eq_true c_300
                    have n_300 : ¬ (by1 f p1 = 15) := fun h9 => c_300 ((eq_nI (p := by1 f p1) (n := 15) (Nat.lt_trans (by1_lt _ _) (by decide)) (by decide)).mpr h9)
                    refine ps_st (S' := (349, [(0, .ref m0), (1, .int (nI k)), (2, .int (nI (by1 f p1)))], [.int (nI (by1 f p1))], M729)) rfl rfl rfl ?_
                    refine ps_st (S' := (350, [(0, .ref m0), (1, .int (nI k)), (2, .int (nI (by1 f p1)))], [.int 3, .int (nI (by1 f p1))], M729)) rfl rfl rfl ?_
                    refine ps_if2 (S1 := (358, [(0, .ref m0), (1, .int (nI k)), (2, .int (nI (by1 f p1)))], [], M729)) (S2 := (353, [(0, .ref m0), (1, .int (nI k)), (2, .int (nI (by1 f p1)))], [], M729)) rfl rfl rfl (fun c_350 => ?_) (fun c_350 => ?_)
                    · have c_350 : (nI (by1 f p1)) = 3 := of_decide_eq_true c_350
                      have n_350 : by1 f p1 = 3 := (eq_nI (p := by1 f p1) (n := 3) (Nat.lt_trans (by1_lt _ _) (by decide)) (by decide)).mp c_350
                      refine ps_st (S' := (359, [(0, .ref m0), (1, .int (nI k)), (2, .int (nI (by1 f p1)))], [.ref m0], M729)) rfl rfl rfl ?_
                      refine ps_st (S' := (362, [(0, .ref m0), (1, .int (nI k)), (2, .int (nI (by1 f p1)))], [.long 4, .ref m0], M729)) rfl rfl rfl ?_
                      refine pl_call (a := [.ref m0, .long 4]) (rest := []) rfl rfl rfl (rd_item (n := n) (f := f) (p := (p1 + 1)) (k := 4) hR731 hi732 hF_737 (by omega) (by decide)) (fun v741 M742 q743 => ?_)
                      rcases q743 with q743 | q743
                      · skip
                        obtain ⟨I744, R745, q362_s, rfl, hR746, hI747, hX748⟩ := q743
                        have hi749 := (hI747 51 (by decide)).trans hi734
                        have hi750 := (hI747 52 (by decide)).trans hi735
                        have hi751 := (hI747 53 (by decide)).trans hi736
                        have hi752 := (hI747 50 (by decide)).trans hi732
                        have hF_753 := hF_737.mono (cIx hI747 (by decide)) (cRx hX748 (by decide))
                        have hY_754 := hY_738.mono (cIx hI747 (by decide)) (cRx hX748 (by decide))
                        have hD_755 := hD_739.mono (cIx hI747 (by decide)) (cRx hX748 (by decide))
                        have hEI756 := hEI740.tr hI747 (by decide)
                        have hER757 := hER1.tr hX748 (by decide)
                        show pl _ _ _ (365, [(0, .ref m0), (1, .int (nI k)), (2, .int (nI (by1 f p1)))], [.int 1], M742) _
                        refine ps_if (S1 := (370, [(0, .ref m0), (1, .int (nI k)), (2, .int (nI (by1 f p1)))], [], M742)) (S2 := (368, [(0, .ref m0), (1, .int (nI k)), (2, .int (nI (by1 f p1)))], [], M742)) rfl rfl rfl (fun c_365 => ?_) (fun c_365 => ?_)
                        rotate_left
                        · exact absurd (by decide) (of_decide_eq_false c_365)
                        refine ps_st (S' := (371, [(0, .ref m0), (1, .int (nI k)), (2, .int (nI (by1 f p1)))], [.ref m0], M742)) rfl rfl rfl ?_
                        refine ps_st (S' := (372, [(0, .ref m0), (1, .int (nI k)), (2, .int (nI (by1 f p1)))], [.ref m0, .ref m0], M742)) rfl rfl rfl ?_
                        refine pr_int (j := 50) (S' := (375, [(0, .ref m0), (1, .int (nI k)), (2, .int (nI (by1 f p1)))], [.int (nI (p1 + 1)), .ref m0], M742)) rfl hR746 rfl hi752 rfl ?_
                        refine ps_st (S' := (376, [(0, .ref m0), (1, .int (nI k)), (2, .int (nI (by1 f p1)))], [.int 4, .int (nI (p1 + 1)), .ref m0], M742)) rfl rfl rfl ?_
                        refine ps_st (S' := (377, [(0, .ref m0), (1, .int (nI k)), (2, .int (nI (by1 f p1)))], [.int ((nI (p1 + 1)) + 4), .ref m0], M742)) rfl rfl rfl ?_
                        rw [nI_add1 (p := p1 + 1) (k := 4) (x := 4) rfl (by omega)]
                        show pl _ _ _ (_, [(0, .ref m0), (1, .int (nI k)), (2, .int (nI (by1 f p1)))], [.int (nI (p1 + 5)), .ref m0], M742) _
                        refine pr_put (j := 50) rfl hR746 rfl (fun M758 I759 hR760 hi761 hI762 => ?_)
                        have hi763 := (hI762 51 (by decide)).trans hi749
                        have hi764 := (hI762 52 (by decide)).trans hi750
                        have hi765 := (hI762 53 (by decide)).trans hi751
                        have hF_766 := hF_753.mono (pIx hI762 (by decide)) (fun _ _ => rfl)
                        have hY_767 := hY_754.mono (pIx hI762 (by decide)) (fun _ _ => rfl)
                        have hD_768 := hD_755.mono (pIx hI762 (by decide)) (fun _ _ => rfl)
                        have hEI769 := hEI756.put hI762 (by decide)
                        show pl _ _ _ (380, [(0, .ref m0), (1, .int (nI k)), (2, .int (nI (by1 f p1)))], [], M758) _
                        refine ps_st (S' := (499, [(0, .ref m0), (1, .int (nI k)), (2, .int (nI (by1 f p1)))], [], M758)) rfl rfl rfl ?_
                        have hE9 := hD_768.no (by omega)
                        exact ih.2.2.2.2 (k) (p1) (p1 + 5) (E) (tx1) (cN1) (A1) M758 I759 R745 hR760 hEI769 hER757 hi761 hi763 hi764 hi765 hF_766 hY_767 hE9 (hk) (hp1) (htx) (hs) (ht) (⟨_, by rw [ent_4 (by omega) ht (by omega), if_neg (by omega)]⟩) (by omega) (by omega)
                      · skip
                        obtain ⟨I770, R771, q362_s, rfl, hR772, hI773, hX774, hi775, hi776⟩ := q743
                        have hi777 := (hI773 51 (by decide)).trans hi734
                        have hi778 := (hI773 52 (by decide)).trans hi735
                        have hi779 := (hI773 53 (by decide)).trans hi736
                        have hi780 := (hI773 50 (by decide)).trans hi732
                        have hF_781 := hF_737.mono (cIx hI773 (by decide)) (cRx hX774 (by decide))
                        have hY_782 := hY_738.mono (cIx hI773 (by decide)) (cRx hX774 (by decide))
                        have hD_783 := hD_739.mono (cIx hI773 (by decide)) (cRx hX774 (by decide))
                        have hEI784 := hEI740.tr hI773 (by decide)
                        have hER785 := hER1.tr hX774 (by decide)
                        show pl _ _ _ (365, [(0, .ref m0), (1, .int (nI k)), (2, .int (nI (by1 f p1)))], [.int 0], M742) _
                        refine ps_if (S1 := (370, [(0, .ref m0), (1, .int (nI k)), (2, .int (nI (by1 f p1)))], [], M742)) (S2 := (368, [(0, .ref m0), (1, .int (nI k)), (2, .int (nI (by1 f p1)))], [], M742)) rfl rfl rfl (fun c_365 => ?_) (fun c_365 => ?_)
                        · exact absurd (of_decide_eq_true c_365) (by decide)
                        refine ps_st (S' := (369, [(0, .ref m0), (1, .int (nI k)), (2, .int (nI (by1 f p1)))], [.int 0], M742)) rfl rfl rfl ?_
                        exact ps_ret rfl rfl (Or.inr ⟨(1, p1 + 1), I770, R771, by
                            rw [← hs]
                            exact s_ents_bad (by omega) (by rw [ent_4 (by omega) ht (by omega), if_pos (by omega)]), rfl, hR772, hEI784, hER785, hi775, hi776⟩)
                    · have c_350 : ¬ ((nI (by1 f p1)) = 3) := of_decide_eq_false c_350
                      have n_350 : ¬ (by1 f p1 = 3) := fun h9 => c_350 ((eq_nI (p := by1 f p1) (n := 3) (Nat.lt_trans (by1_lt _ _) (by decide)) (by decide)).mpr h9)
                      refine ps_st (S' := (354, [(0, .ref m0), (1, .int (nI k)), (2, .int (nI (by1 f p1)))], [.int (nI (by1 f p1))], M729)) rfl rfl rfl ?_
                      refine ps_st (S' := (355, [(0, .ref m0), (1, .int (nI k)), (2, .int (nI (by1 f p1)))], [.int 4, .int (nI (by1 f p1))], M729)) rfl rfl rfl ?_
                      refine ps_if2 (S1 := (383, [(0, .ref m0), (1, .int (nI k)), (2, .int (nI (by1 f p1)))], [], M729)) (S2 := (358, [(0, .ref m0), (1, .int (nI k)), (2, .int (nI (by1 f p1)))], [], M729)) rfl rfl rfl (fun c_355 => ?_) (fun c_355 => ?_)
                      · have c_355 : ¬ (nI (by1 f p1)) = 4 := of_decide_eq_true c_355
                        have n_355 : ¬ (by1 f p1 = 4) := fun h9 => c_355 ((eq_nI (p := by1 f p1) (n := 4) (Nat.lt_trans (by1_lt _ _) (by decide)) (by decide)).mpr h9)
                        refine ps_st (S' := (384, [(0, .ref m0), (1, .int (nI k)), (2, .int (nI (by1 f p1)))], [.int (nI (by1 f p1))], M729)) rfl rfl rfl ?_
                        refine ps_st (S' := (385, [(0, .ref m0), (1, .int (nI k)), (2, .int (nI (by1 f p1)))], [.int 5, .int (nI (by1 f p1))], M729)) rfl rfl rfl ?_
                        refine ps_if2 (S1 := (394, [(0, .ref m0), (1, .int (nI k)), (2, .int (nI (by1 f p1)))], [], M729)) (S2 := (388, [(0, .ref m0), (1, .int (nI k)), (2, .int (nI (by1 f p1)))], [], M729)) rfl rfl rfl (fun c_385 => ?_) (fun c_385 => ?_)
                        · have c_385 : (nI (by1 f p1)) = 5 := of_decide_eq_true c_385
                          have n_385 : by1 f p1 = 5 := (eq_nI (p := by1 f p1) (n := 5) (Nat.lt_trans (by1_lt _ _) (by decide)) (by decide)).mp c_385
                          refine ps_st (S' := (395, [(0, .ref m0), (1, .int (nI k)), (2, .int (nI (by1 f p1)))], [.int 0], M729)) rfl rfl rfl ?_
                          refine ps_st (S' := (397, [(0, .ref m0), (1, .int (nI k)), (2, .int (nI (by1 f p1))), (5, .int 0)], [], M729)) rfl rfl rfl ?_
                          exact ih.2.2.1 (k) (p1) (0) (E) (tx1) (cN1) (A1) M729 I730 R1 hR731 hEI740 hER1 hi732 hi734 hi735 hi736 hF_737 hY_738 hD_739 (hk) (hp1) (htx) (hs) (ht) (by omega) (by omega) (by omega)
                        · have c_385 : ¬ ((nI (by1 f p1)) = 5) := of_decide_eq_false c_385
                          have n_385 : ¬ (by1 f p1 = 5) := fun h9 => c_385 ((eq_nI (p := by1 f p1) (n := 5) (Nat.lt_trans (by1_lt _ _) (by decide)) (by decide)).mpr h9)
                          refine ps_st (S' := (389, [(0, .ref m0), (1, .int (nI k)), (2, .int (nI (by1 f p1)))], [.int (nI (by1 f p1))], M729)) rfl rfl rfl ?_
                          refine ps_st (S' := (391, [(0, .ref m0), (1, .int (nI k)), (2, .int (nI (by1 f p1)))], [.int 6, .int (nI (by1 f p1))], M729)) rfl rfl rfl ?_
                          refine ps_if2 (S1 := (434, [(0, .ref m0), (1, .int (nI k)), (2, .int (nI (by1 f p1)))], [], M729)) (S2 := (394, [(0, .ref m0), (1, .int (nI k)), (2, .int (nI (by1 f p1)))], [], M729)) rfl rfl rfl (fun c_391 => ?_) (fun c_391 => ?_)
                          · have c_391 : ¬ (nI (by1 f p1)) = 6 := of_decide_eq_true c_391
                            have n_391 : ¬ (by1 f p1 = 6) := fun h9 => c_391 ((eq_nI (p := by1 f p1) (n := 6) (Nat.lt_trans (by1_lt _ _) (by decide)) (by decide)).mpr h9)
                            refine ps_st (S' := (435, [(0, .ref m0), (1, .int (nI k)), (2, .int (nI (by1 f p1)))], [.int 0], M729)) rfl rfl rfl ?_
                            refine ps_st (S' := (437, [(0, .ref m0), (1, .int (nI k)), (2, .int (nI (by1 f p1))), (5, .int 0)], [], M729)) rfl rfl rfl ?_
                            exact ih.2.2.2.1 (k) (p1) (0) (E) (tx1) (cN1) (A1) M729 I730 R1 hR731 hEI740 hER1 hi732 hi734 hi735 hi736 hF_737 hY_738 hD_739 (hk) (hp1) (htx) (hs) (ht) (by omega) (by omega)
                          · have c_391 : ¬ (¬ (nI (by1 f p1)) = 6) := of_decide_eq_false c_391
                            have n_391 : by1 f p1 = 6 := (eq_nI (p := by1 f p1) (n := 6) (Nat.lt_trans (by1_lt _ _) (by decide)) (by decide)).mp (Decidable.not_not.mp c_391)
                            refine ps_st (S' := (395, [(0, .ref m0), (1, .int (nI k)), (2, .int (nI (by1 f p1)))], [.int 0], M729)) rfl rfl rfl ?_
                            refine ps_st (S' := (397, [(0, .ref m0), (1, .int (nI k)), (2, .int (nI (by1 f p1))), (5, .int 0)], [], M729)) rfl rfl rfl ?_
                            exact ih.2.2.1 (k) (p1) (0) (E) (tx1) (cN1) (A1) M729 I730 R1 hR731 hEI740 hER1 hi732 hi734 hi735 hi736 hF_737 hY_738 hD_739 (hk) (hp1) (htx) (hs) (ht) (by omega) (by omega) (by omega)
                      · have c_355 : ¬ (¬ (nI (by1 f p1)) = 4) := of_decide_eq_false c_355
                        have n_355 : by1 f p1 = 4 := (eq_nI (p := by1 f p1) (n := 4) (Nat.lt_trans (by1_lt _ _) (by decide)) (by decide)).mp (Decidable.not_not.mp c_355)
                        refine ps_st (S' := (359, [(0, .ref m0), (1, .int (nI k)), (2, .int (nI (by1 f p1)))], [.ref m0], M729)) rfl rfl rfl ?_
                        refine ps_st (S' := (362, [(0, .ref m0), (1, .int (nI k)), (2, .int (nI (by1 f p1)))], [.long 4, .ref m0], M729)) rfl rfl rfl ?_
                        refine pl_call (a := [.ref m0, .long 4]) (rest := []) rfl rfl rfl (rd_item (n := n) (f := f) (p := (p1 + 1)) (k := 4) hR731 hi732 hF_737 (by omega) (by decide)) (fun v786 M787 q788 => ?_)
                        rcases q788 with q788 | q788
                        · skip
                          obtain ⟨I789, R790, q362_s, rfl, hR791, hI792, hX793⟩ := q788
                          have hi794 := (hI792 51 (by decide)).trans hi734
                          have hi795 := (hI792 52 (by decide)).trans hi735
                          have hi796 := (hI792 53 (by decide)).trans hi736
                          have hi797 := (hI792 50 (by decide)).trans hi732
                          have hF_798 := hF_737.mono (cIx hI792 (by decide)) (cRx hX793 (by decide))
                          have hY_799 := hY_738.mono (cIx hI792 (by decide)) (cRx hX793 (by decide))
                          have hD_800 := hD_739.mono (cIx hI792 (by decide)) (cRx hX793 (by decide))
                          have hEI801 := hEI740.tr hI792 (by decide)
                          have hER802 := hER1.tr hX793 (by decide)
                          show pl _ _ _ (365, [(0, .ref m0), (1, .int (nI k)), (2, .int (nI (by1 f p1)))], [.int 1], M787) _
                          refine ps_if (S1 := (370, [(0, .ref m0), (1, .int (nI k)), (2, .int (nI (by1 f p1)))], [], M787)) (S2 := (368, [(0, .ref m0), (1, .int (nI k)), (2, .int (nI (by1 f p1)))], [], M787)) rfl rfl rfl (fun c_365 => ?_) (fun c_365 => ?_)
                          rotate_left
                          · exact absurd (by decide) (of_decide_eq_false c_365)
                          refine ps_st (S' := (371, [(0, .ref m0), (1, .int (nI k)), (2, .int (nI (by1 f p1)))], [.ref m0], M787)) rfl rfl rfl ?_
                          refine ps_st (S' := (372, [(0, .ref m0), (1, .int (nI k)), (2, .int (nI (by1 f p1)))], [.ref m0, .ref m0], M787)) rfl rfl rfl ?_
                          refine pr_int (j := 50) (S' := (375, [(0, .ref m0), (1, .int (nI k)), (2, .int (nI (by1 f p1)))], [.int (nI (p1 + 1)), .ref m0], M787)) rfl hR791 rfl hi797 rfl ?_
                          refine ps_st (S' := (376, [(0, .ref m0), (1, .int (nI k)), (2, .int (nI (by1 f p1)))], [.int 4, .int (nI (p1 + 1)), .ref m0], M787)) rfl rfl rfl ?_
                          refine ps_st (S' := (377, [(0, .ref m0), (1, .int (nI k)), (2, .int (nI (by1 f p1)))], [.int ((nI (p1 + 1)) + 4), .ref m0], M787)) rfl rfl rfl ?_
                          rw [nI_add1 (p := p1 + 1) (k := 4) (x := 4) rfl (by omega)]
                          show pl _ _ _ (_, [(0, .ref m0), (1, .int (nI k)), (2, .int (nI (by1 f p1)))], [.int (nI (p1 + 5)), .ref m0], M787) _
                          refine pr_put (j := 50) rfl hR791 rfl (fun M803 I804 hR805 hi806 hI807 => ?_)
                          have hi808 := (hI807 51 (by decide)).trans hi794
                          have hi809 := (hI807 52 (by decide)).trans hi795
                          have hi810 := (hI807 53 (by decide)).trans hi796
                          have hF_811 := hF_798.mono (pIx hI807 (by decide)) (fun _ _ => rfl)
                          have hY_812 := hY_799.mono (pIx hI807 (by decide)) (fun _ _ => rfl)
                          have hD_813 := hD_800.mono (pIx hI807 (by decide)) (fun _ _ => rfl)
                          have hEI814 := hEI801.put hI807 (by decide)
                          show pl _ _ _ (380, [(0, .ref m0), (1, .int (nI k)), (2, .int (nI (by1 f p1)))], [], M803) _
                          refine ps_st (S' := (499, [(0, .ref m0), (1, .int (nI k)), (2, .int (nI (by1 f p1)))], [], M803)) rfl rfl rfl ?_
                          have hE9 := hD_813.no (by omega)
                          exact ih.2.2.2.2 (k) (p1) (p1 + 5) (E) (tx1) (cN1) (A1) M803 I804 R790 hR805 hEI814 hER802 hi806 hi808 hi809 hi810 hF_811 hY_812 hE9 (hk) (hp1) (htx) (hs) (ht) (⟨_, by rw [ent_4 (by omega) ht (by omega), if_neg (by omega)]⟩) (by omega) (by omega)
                        · skip
                          obtain ⟨I815, R816, q362_s, rfl, hR817, hI818, hX819, hi820, hi821⟩ := q788
                          have hi822 := (hI818 51 (by decide)).trans hi734
                          have hi823 := (hI818 52 (by decide)).trans hi735
                          have hi824 := (hI818 53 (by decide)).trans hi736
                          have hi825 := (hI818 50 (by decide)).trans hi732
                          have hF_826 := hF_737.mono (cIx hI818 (by decide)) (cRx hX819 (by decide))
                          have hY_827 := hY_738.mono (cIx hI818 (by decide)) (cRx hX819 (by decide))
                          have hD_828 := hD_739.mono (cIx hI818 (by decide)) (cRx hX819 (by decide))
                          have hEI829 := hEI740.tr hI818 (by decide)
                          have hER830 := hER1.tr hX819 (by decide)
                          show pl _ _ _ (365, [(0, .ref m0), (1, .int (nI k)), (2, .int (nI (by1 f p1)))], [.int 0], M787) _
                          refine ps_if (S1 := (370, [(0, .ref m0), (1, .int (nI k)), (2, .int (nI (by1 f p1)))], [], M787)) (S2 := (368, [(0, .ref m0), (1, .int (nI k)), (2, .int (nI (by1 f p1)))], [], M787)) rfl rfl rfl (fun c_365 => ?_) (fun c_365 => ?_)
                          · exact absurd (of_decide_eq_true c_365) (by decide)
                          refine ps_st (S' := (369, [(0, .ref m0), (1, .int (nI k)), (2, .int (nI (by1 f p1)))], [.int 0], M787)) rfl rfl rfl ?_
                          exact ps_ret rfl rfl (Or.inr ⟨(1, p1 + 1), I815, R816, by
                              rw [← hs]
                              exact s_ents_bad (by omega) (by rw [ent_4 (by omega) ht (by omega), if_pos (by omega)]), rfl, hR817, hEI829, hER830, hi820, hi821⟩)
                  · have c_300 : ¬ (¬ (nI (by1 f p1)) = 15) := of_decide_eq_false c_300
                    have n_300 : by1 f p1 = 15 := (eq_nI (p := by1 f p1) (n := 15) (Nat.lt_trans (by1_lt _ _) (by decide)) (by decide)).mp (Decidable.not_not.mp c_300)
                    refine ps_st (S' := (304, [(0, .ref m0), (1, .int (nI k)), (2, .int (nI (by1 f p1)))], [.ref m0], M729)) rfl rfl rfl ?_
                    refine ps_st (S' := (305, [(0, .ref m0), (1, .int (nI k)), (2, .int (nI (by1 f p1)))], [.long 1, .ref m0], M729)) rfl rfl rfl ?_
                    refine pl_call (a := [.ref m0, .long 1]) (rest := []) rfl rfl rfl (rd_item (n := n) (f := f) (p := (p1 + 1)) (k := 1) hR731 hi732 hF_737 (by omega) (by decide)) (fun v831 M832 q833 => ?_)
                    rcases q833 with q833 | q833
                    · skip
                      obtain ⟨I834, R835, q305_s, rfl, hR836, hI837, hX838⟩ := q833
                      have hi839 := (hI837 51 (by decide)).trans hi734
                      have hi840 := (hI837 52 (by decide)).trans hi735
                      have hi841 := (hI837 53 (by decide)).trans hi736
                      have hi842 := (hI837 50 (by decide)).trans hi732
                      have hF_843 := hF_737.mono (cIx hI837 (by decide)) (cRx hX838 (by decide))
                      have hY_844 := hY_738.mono (cIx hI837 (by decide)) (cRx hX838 (by decide))
                      have hD_845 := hD_739.mono (cIx hI837 (by decide)) (cRx hX838 (by decide))
                      have hEI846 := hEI740.tr hI837 (by decide)
                      have hER847 := hER1.tr hX838 (by decide)
                      show pl _ _ _ (308, [(0, .ref m0), (1, .int (nI k)), (2, .int (nI (by1 f p1)))], [.int 1], M832) _
                      refine ps_if (S1 := (313, [(0, .ref m0), (1, .int (nI k)), (2, .int (nI (by1 f p1)))], [], M832)) (S2 := (311, [(0, .ref m0), (1, .int (nI k)), (2, .int (nI (by1 f p1)))], [], M832)) rfl rfl rfl (fun c_308 => ?_) (fun c_308 => ?_)
                      rotate_left
                      · exact absurd (by decide) (of_decide_eq_false c_308)
                      refine ps_st (S' := (314, [(0, .ref m0), (1, .int (nI k)), (2, .int (nI (by1 f p1)))], [.ref m0], M832)) rfl rfl rfl ?_
                      refine ps_st (S' := (315, [(0, .ref m0), (1, .int (nI k)), (2, .int (nI (by1 f p1)))], [.ref m0, .ref m0], M832)) rfl rfl rfl ?_
                      refine pr_int (j := 50) (S' := (318, [(0, .ref m0), (1, .int (nI k)), (2, .int (nI (by1 f p1)))], [.int (nI (p1 + 1)), .ref m0], M832)) rfl hR836 rfl hi842 rfl ?_
                      refine ps_st (S' := (319, [(0, .ref m0), (1, .int (nI k)), (2, .int (nI (by1 f p1)))], [.int 1, .int (nI (p1 + 1)), .ref m0], M832)) rfl rfl rfl ?_
                      refine ps_st (S' := (320, [(0, .ref m0), (1, .int (nI k)), (2, .int (nI (by1 f p1)))], [.int ((nI (p1 + 1)) + 1), .ref m0], M832)) rfl rfl rfl ?_
                      rw [nI_add1 (p := p1 + 1) (k := 1) (x := 1) rfl (by omega)]
                      show pl _ _ _ (_, [(0, .ref m0), (1, .int (nI k)), (2, .int (nI (by1 f p1)))], [.int (nI (p1 + 2)), .ref m0], M832) _
                      refine pr_put (j := 50) rfl hR836 rfl (fun M848 I849 hR850 hi851 hI852 => ?_)
                      have hi853 := (hI852 51 (by decide)).trans hi839
                      have hi854 := (hI852 52 (by decide)).trans hi840
                      have hi855 := (hI852 53 (by decide)).trans hi841
                      have hF_856 := hF_843.mono (pIx hI852 (by decide)) (fun _ _ => rfl)
                      have hY_857 := hY_844.mono (pIx hI852 (by decide)) (fun _ _ => rfl)
                      have hD_858 := hD_845.mono (pIx hI852 (by decide)) (fun _ _ => rfl)
                      have hEI859 := hEI846.put hI852 (by decide)
                      show pl _ _ _ (323, [(0, .ref m0), (1, .int (nI k)), (2, .int (nI (by1 f p1)))], [], M848) _
                      refine ps_st (S' := (324, [(0, .ref m0), (1, .int (nI k)), (2, .int (nI (by1 f p1)))], [.ref m0], M848)) rfl rfl rfl ?_
                      refine ps_st (S' := (327, [(0, .ref m0), (1, .int (nI k)), (2, .int (nI (by1 f p1)))], [.long 2, .ref m0], M848)) rfl rfl rfl ?_
                      refine pl_call (a := [.ref m0, .long 2]) (rest := []) rfl rfl rfl (rd_item (n := n) (f := f) (p := (p1 + 2)) (k := 2) hR850 hi851 hF_856 (by omega) (by decide)) (fun v860 M861 q862 => ?_)
                      rcases q862 with q862 | q862
                      · skip
                        obtain ⟨I863, R864, q327_s, rfl, hR865, hI866, hX867⟩ := q862
                        have hi868 := (hI866 51 (by decide)).trans hi853
                        have hi869 := (hI866 52 (by decide)).trans hi854
                        have hi870 := (hI866 53 (by decide)).trans hi855
                        have hi871 := (hI866 50 (by decide)).trans hi851
                        have hF_872 := hF_856.mono (cIx hI866 (by decide)) (cRx hX867 (by decide))
                        have hY_873 := hY_857.mono (cIx hI866 (by decide)) (cRx hX867 (by decide))
                        have hD_874 := hD_858.mono (cIx hI866 (by decide)) (cRx hX867 (by decide))
                        have hEI875 := hEI859.tr hI866 (by decide)
                        have hER876 := hER847.tr hX867 (by decide)
                        show pl _ _ _ (330, [(0, .ref m0), (1, .int (nI k)), (2, .int (nI (by1 f p1)))], [.int 1], M861) _
                        refine ps_if (S1 := (335, [(0, .ref m0), (1, .int (nI k)), (2, .int (nI (by1 f p1)))], [], M861)) (S2 := (333, [(0, .ref m0), (1, .int (nI k)), (2, .int (nI (by1 f p1)))], [], M861)) rfl rfl rfl (fun c_330 => ?_) (fun c_330 => ?_)
                        rotate_left
                        · exact absurd (by decide) (of_decide_eq_false c_330)
                        refine ps_st (S' := (336, [(0, .ref m0), (1, .int (nI k)), (2, .int (nI (by1 f p1)))], [.ref m0], M861)) rfl rfl rfl ?_
                        refine ps_st (S' := (337, [(0, .ref m0), (1, .int (nI k)), (2, .int (nI (by1 f p1)))], [.ref m0, .ref m0], M861)) rfl rfl rfl ?_
                        refine pr_int (j := 50) (S' := (340, [(0, .ref m0), (1, .int (nI k)), (2, .int (nI (by1 f p1)))], [.int (nI (p1 + 2)), .ref m0], M861)) rfl hR865 rfl hi871 rfl ?_
                        refine ps_st (S' := (341, [(0, .ref m0), (1, .int (nI k)), (2, .int (nI (by1 f p1)))], [.int 2, .int (nI (p1 + 2)), .ref m0], M861)) rfl rfl rfl ?_
                        refine ps_st (S' := (342, [(0, .ref m0), (1, .int (nI k)), (2, .int (nI (by1 f p1)))], [.int ((nI (p1 + 2)) + 2), .ref m0], M861)) rfl rfl rfl ?_
                        rw [nI_add1 (p := p1 + 2) (k := 2) (x := 2) rfl (by omega)]
                        show pl _ _ _ (_, [(0, .ref m0), (1, .int (nI k)), (2, .int (nI (by1 f p1)))], [.int (nI (p1 + 4)), .ref m0], M861) _
                        refine pr_put (j := 50) rfl hR865 rfl (fun M877 I878 hR879 hi880 hI881 => ?_)
                        have hi882 := (hI881 51 (by decide)).trans hi868
                        have hi883 := (hI881 52 (by decide)).trans hi869
                        have hi884 := (hI881 53 (by decide)).trans hi870
                        have hF_885 := hF_872.mono (pIx hI881 (by decide)) (fun _ _ => rfl)
                        have hY_886 := hY_873.mono (pIx hI881 (by decide)) (fun _ _ => rfl)
                        have hD_887 := hD_874.mono (pIx hI881 (by decide)) (fun _ _ => rfl)
                        have hEI888 := hEI875.put hI881 (by decide)
                        show pl _ _ _ (345, [(0, .ref m0), (1, .int (nI k)), (2, .int (nI (by1 f p1)))], [], M877) _
                        refine ps_st (S' := (499, [(0, .ref m0), (1, .int (nI k)), (2, .int (nI (by1 f p1)))], [], M877)) rfl rfl rfl ?_
                        have hE9 := hD_887.no (by omega)
                        exact ih.2.2.2.2 (k) (p1) (p1 + 4) (E) (tx1) (cN1) (A1) M877 I878 R864 hR879 hEI888 hER876 hi880 hi882 hi883 hi884 hF_885 hY_886 hE9 (hk) (hp1) (htx) (hs) (ht) (⟨_, by rw [ent_x (by omega) ht (by omega), ix_15 (by omega), if_neg (by omega), if_neg (by omega)]⟩) (by omega) (by omega)
                      · skip
                        obtain ⟨I889, R890, q327_s, rfl, hR891, hI892, hX893, hi894, hi895⟩ := q862
                        have hi896 := (hI892 51 (by decide)).trans hi853
                        have hi897 := (hI892 52 (by decide)).trans hi854
                        have hi898 := (hI892 53 (by decide)).trans hi855
                        have hi899 := (hI892 50 (by decide)).trans hi851
                        have hF_900 := hF_856.mono (cIx hI892 (by decide)) (cRx hX893 (by decide))
                        have hY_901 := hY_857.mono (cIx hI892 (by decide)) (cRx hX893 (by decide))
                        have hD_902 := hD_858.mono (cIx hI892 (by decide)) (cRx hX893 (by decide))
                        have hEI903 := hEI859.tr hI892 (by decide)
                        have hER904 := hER847.tr hX893 (by decide)
                        show pl _ _ _ (330, [(0, .ref m0), (1, .int (nI k)), (2, .int (nI (by1 f p1)))], [.int 0], M861) _
                        refine ps_if (S1 := (335, [(0, .ref m0), (1, .int (nI k)), (2, .int (nI (by1 f p1)))], [], M861)) (S2 := (333, [(0, .ref m0), (1, .int (nI k)), (2, .int (nI (by1 f p1)))], [], M861)) rfl rfl rfl (fun c_330 => ?_) (fun c_330 => ?_)
                        · exact absurd (of_decide_eq_true c_330) (by decide)
                        refine ps_st (S' := (334, [(0, .ref m0), (1, .int (nI k)), (2, .int (nI (by1 f p1)))], [.int 0], M861)) rfl rfl rfl ?_
                        exact ps_ret rfl rfl (Or.inr ⟨(1, p1 + 2), I889, R890, by
                            rw [← hs]
                            exact s_ents_bad (by omega) (by rw [ent_x (by omega) ht (by omega), ix_15 (by omega), if_neg (by omega), if_pos (by omega)]), rfl, hR891, hEI903, hER904, hi894, hi895⟩)
                    · skip
                      obtain ⟨I905, R906, q305_s, rfl, hR907, hI908, hX909, hi910, hi911⟩ := q833
                      have hi912 := (hI908 51 (by decide)).trans hi734
                      have hi913 := (hI908 52 (by decide)).trans hi735
                      have hi914 := (hI908 53 (by decide)).trans hi736
                      have hi915 := (hI908 50 (by decide)).trans hi732
                      have hF_916 := hF_737.mono (cIx hI908 (by decide)) (cRx hX909 (by decide))
                      have hY_917 := hY_738.mono (cIx hI908 (by decide)) (cRx hX909 (by decide))
                      have hD_918 := hD_739.mono (cIx hI908 (by decide)) (cRx hX909 (by decide))
                      have hEI919 := hEI740.tr hI908 (by decide)
                      have hER920 := hER1.tr hX909 (by decide)
                      show pl _ _ _ (308, [(0, .ref m0), (1, .int (nI k)), (2, .int (nI (by1 f p1)))], [.int 0], M832) _
                      refine ps_if (S1 := (313, [(0, .ref m0), (1, .int (nI k)), (2, .int (nI (by1 f p1)))], [], M832)) (S2 := (311, [(0, .ref m0), (1, .int (nI k)), (2, .int (nI (by1 f p1)))], [], M832)) rfl rfl rfl (fun c_308 => ?_) (fun c_308 => ?_)
                      · exact absurd (of_decide_eq_true c_308) (by decide)
                      refine ps_st (S' := (312, [(0, .ref m0), (1, .int (nI k)), (2, .int (nI (by1 f p1)))], [.int 0], M832)) rfl rfl rfl ?_
                      exact ps_ret rfl rfl (Or.inr ⟨(1, p1 + 1), I905, R906, by
                          rw [← hs]
                          exact s_ents_bad (by omega) (by rw [ent_x (by omega) ht (by omega), ix_15 (by omega), if_pos (by omega)]), rfl, hR907, hEI919, hER920, hi910, hi911⟩)
                · have c_215 : ¬ (¬ (nI (by1 f p1)) = 1) := of_decide_eq_false c_215
                  have n_215 : by1 f p1 = 1 := (eq_nI (p := by1 f p1) (n := 1) (Nat.lt_trans (by1_lt _ _) (by decide)) (by decide)).mp (Decidable.not_not.mp c_215)
                  refine ps_st (S' := (219, [(0, .ref m0), (1, .int (nI k)), (2, .int (nI (by1 f p1)))], [.ref m0], M729)) rfl rfl rfl ?_
                  refine ps_st (S' := (222, [(0, .ref m0), (1, .int (nI k)), (2, .int (nI (by1 f p1)))], [.long 2, .ref m0], M729)) rfl rfl rfl ?_
                  refine pl_call (a := [.ref m0, .long 2]) (rest := []) rfl rfl rfl (rd_item (n := n) (f := f) (p := (p1 + 1)) (k := 2) hR731 hi732 hF_737 (by omega) (by decide)) (fun v921 M922 q923 => ?_)
                  rcases q923 with q923 | q923
                  · skip
                    obtain ⟨I924, R925, q222_s, rfl, hR926, hI927, hX928⟩ := q923
                    have hi929 := (hI927 51 (by decide)).trans hi734
                    have hi930 := (hI927 52 (by decide)).trans hi735
                    have hi931 := (hI927 53 (by decide)).trans hi736
                    have hi932 := (hI927 50 (by decide)).trans hi732
                    have hF_933 := hF_737.mono (cIx hI927 (by decide)) (cRx hX928 (by decide))
                    have hY_934 := hY_738.mono (cIx hI927 (by decide)) (cRx hX928 (by decide))
                    have hD_935 := hD_739.mono (cIx hI927 (by decide)) (cRx hX928 (by decide))
                    have hEI936 := hEI740.tr hI927 (by decide)
                    have hER937 := hER1.tr hX928 (by decide)
                    show pl _ _ _ (225, [(0, .ref m0), (1, .int (nI k)), (2, .int (nI (by1 f p1)))], [.int 1], M922) _
                    refine ps_if (S1 := (230, [(0, .ref m0), (1, .int (nI k)), (2, .int (nI (by1 f p1)))], [], M922)) (S2 := (228, [(0, .ref m0), (1, .int (nI k)), (2, .int (nI (by1 f p1)))], [], M922)) rfl rfl rfl (fun c_225 => ?_) (fun c_225 => ?_)
                    rotate_left
                    · exact absurd (by decide) (of_decide_eq_false c_225)
                    refine ps_st (S' := (231, [(0, .ref m0), (1, .int (nI k)), (2, .int (nI (by1 f p1)))], [.ref m0], M922)) rfl rfl rfl ?_
                    refine ps_st (S' := (232, [(0, .ref m0), (1, .int (nI k)), (2, .int (nI (by1 f p1)))], [.ref m0, .ref m0], M922)) rfl rfl rfl ?_
                    refine pr_int (j := 50) (S' := (235, [(0, .ref m0), (1, .int (nI k)), (2, .int (nI (by1 f p1)))], [.int (nI (p1 + 1)), .ref m0], M922)) rfl hR926 rfl hi932 rfl ?_
                    refine pl_call (a := [.ref m0, .int (nI (p1 + 1))]) (rest := []) rfl rfl rfl (rd_u2 (n := n) (f := f) (p := (p1 + 1)) hR926 hF_933 (by omega)) (fun v938 M939 q940 => ?_)
                    obtain ⟨rfl, rfl⟩ := q940
                    show pl _ _ _ (238, [(0, .ref m0), (1, .int (nI k)), (2, .int (nI (by1 f p1)))], [.int (nI (by2 f (p1 + 1)))], M922) _
                    have hu_235 := by2_lt f (p1 + 1)
                    refine ps_st (S' := (240, [(5, .int (nI (by2 f (p1 + 1)))), (0, .ref m0), (1, .int (nI k)), (2, .int (nI (by1 f p1)))], [], M922)) rfl rfl rfl ?_
                    refine ps_st (S' := (241, [(5, .int (nI (by2 f (p1 + 1)))), (0, .ref m0), (1, .int (nI k)), (2, .int (nI (by1 f p1)))], [.ref m0], M922)) rfl rfl rfl ?_
                    refine ps_st (S' := (242, [(5, .int (nI (by2 f (p1 + 1)))), (0, .ref m0), (1, .int (nI k)), (2, .int (nI (by1 f p1)))], [.ref m0, .ref m0], M922)) rfl rfl rfl ?_
                    refine pr_int (j := 50) (S' := (245, [(5, .int (nI (by2 f (p1 + 1)))), (0, .ref m0), (1, .int (nI k)), (2, .int (nI (by1 f p1)))], [.int (nI (p1 + 1)), .ref m0], M922)) rfl hR926 rfl hi932 rfl ?_
                    refine ps_st (S' := (246, [(5, .int (nI (by2 f (p1 + 1)))), (0, .ref m0), (1, .int (nI k)), (2, .int (nI (by1 f p1)))], [.int 2, .int (nI (p1 + 1)), .ref m0], M922)) rfl rfl rfl ?_
                    refine ps_st (S' := (247, [(5, .int (nI (by2 f (p1 + 1)))), (0, .ref m0), (1, .int (nI k)), (2, .int (nI (by1 f p1)))], [.int ((nI (p1 + 1)) + 2), .ref m0], M922)) rfl rfl rfl ?_
                    rw [nI_add1 (p := p1 + 1) (k := 2) (x := 2) rfl (by omega)]
                    show pl _ _ _ (_, [(5, .int (nI (by2 f (p1 + 1)))), (0, .ref m0), (1, .int (nI k)), (2, .int (nI (by1 f p1)))], [.int (nI (p1 + 3)), .ref m0], M922) _
                    refine pr_put (j := 50) rfl hR926 rfl (fun M941 I942 hR943 hi944 hI945 => ?_)
                    have hi946 := (hI945 51 (by decide)).trans hi929
                    have hi947 := (hI945 52 (by decide)).trans hi930
                    have hi948 := (hI945 53 (by decide)).trans hi931
                    have hF_949 := hF_933.mono (pIx hI945 (by decide)) (fun _ _ => rfl)
                    have hY_950 := hY_934.mono (pIx hI945 (by decide)) (fun _ _ => rfl)
                    have hD_951 := hD_935.mono (pIx hI945 (by decide)) (fun _ _ => rfl)
                    have hEI952 := hEI936.put hI945 (by decide)
                    show pl _ _ _ (250, [(5, .int (nI (by2 f (p1 + 1)))), (0, .ref m0), (1, .int (nI k)), (2, .int (nI (by1 f p1)))], [], M941) _
                    refine ps_st (S' := (251, [(5, .int (nI (by2 f (p1 + 1)))), (0, .ref m0), (1, .int (nI k)), (2, .int (nI (by1 f p1)))], [.ref m0], M941)) rfl rfl rfl ?_
                    refine ps_st (S' := (253, [(5, .int (nI (by2 f (p1 + 1)))), (0, .ref m0), (1, .int (nI k)), (2, .int (nI (by1 f p1)))], [.int (nI (by2 f (p1 + 1))), .ref m0], M941)) rfl rfl rfl ?_
                    refine ps_st (S' := (254, [(5, .int (nI (by2 f (p1 + 1)))), (0, .ref m0), (1, .int (nI k)), (2, .int (nI (by1 f p1)))], [.long (Int32.toInt64 (nI (by2 f (p1 + 1)))), .ref m0], M941)) rfl rfl rfl ?_
                    rw [i2l_nL (p := by2 f (p1 + 1)) (by omega)]
                    show pl _ _ _ (_, [(5, .int (nI (by2 f (p1 + 1)))), (0, .ref m0), (1, .int (nI k)), (2, .int (nI (by1 f p1)))], [.long (nL (by2 f (p1 + 1))), .ref m0], M941) _
                    refine pl_call (a := [.ref m0, .long (nL (by2 f (p1 + 1)))]) (rest := []) rfl rfl rfl (rd_item (n := n) (f := f) (p := (p1 + 3)) (k := (by2 f (p1 + 1))) hR943 hi944 hF_949 (by omega) (by omega)) (fun v953 M954 q955 => ?_)
                    rcases q955 with q955 | q955
                    · skip
                      obtain ⟨I956, R957, q254_s, rfl, hR958, hI959, hX960⟩ := q955
                      have hi961 := (hI959 51 (by decide)).trans hi946
                      have hi962 := (hI959 52 (by decide)).trans hi947
                      have hi963 := (hI959 53 (by decide)).trans hi948
                      have hi964 := (hI959 50 (by decide)).trans hi944
                      have hF_965 := hF_949.mono (cIx hI959 (by decide)) (cRx hX960 (by decide))
                      have hY_966 := hY_950.mono (cIx hI959 (by decide)) (cRx hX960 (by decide))
                      have hD_967 := hD_951.mono (cIx hI959 (by decide)) (cRx hX960 (by decide))
                      have hEI968 := hEI952.tr hI959 (by decide)
                      have hER969 := hER937.tr hX960 (by decide)
                      show pl _ _ _ (257, [(5, .int (nI (by2 f (p1 + 1)))), (0, .ref m0), (1, .int (nI k)), (2, .int (nI (by1 f p1)))], [.int 1], M954) _
                      refine ps_if (S1 := (262, [(5, .int (nI (by2 f (p1 + 1)))), (0, .ref m0), (1, .int (nI k)), (2, .int (nI (by1 f p1)))], [], M954)) (S2 := (260, [(5, .int (nI (by2 f (p1 + 1)))), (0, .ref m0), (1, .int (nI k)), (2, .int (nI (by1 f p1)))], [], M954)) rfl rfl rfl (fun c_257 => ?_) (fun c_257 => ?_)
                      rotate_left
                      · exact absurd (by decide) (of_decide_eq_false c_257)
                      refine ps_st (S' := (263, [(5, .int (nI (by2 f (p1 + 1)))), (0, .ref m0), (1, .int (nI k)), (2, .int (nI (by1 f p1)))], [.ref m0], M954)) rfl rfl rfl ?_
                      refine ps_st (S' := (264, [(5, .int (nI (by2 f (p1 + 1)))), (0, .ref m0), (1, .int (nI k)), (2, .int (nI (by1 f p1)))], [.ref m0, .ref m0], M954)) rfl rfl rfl ?_
                      refine pr_int (j := 51) (S' := (267, [(5, .int (nI (by2 f (p1 + 1)))), (0, .ref m0), (1, .int (nI k)), (2, .int (nI (by1 f p1)))], [.int 0, .ref m0], M954)) rfl hR958 rfl hi961 rfl ?_
                      refine ps_st (S' := (268, [(5, .int (nI (by2 f (p1 + 1)))), (0, .ref m0), (1, .int (nI k)), (2, .int (nI (by1 f p1)))], [.int (nI k), .int 0, .ref m0], M954)) rfl rfl rfl ?_
                      refine ps_st (S' := (269, [(5, .int (nI (by2 f (p1 + 1)))), (0, .ref m0), (1, .int (nI k)), (2, .int (nI (by1 f p1)))], [.int (0 + (nI k)), .ref m0], M954)) rfl rfl rfl ?_
                      rw [show (0 : Int32) + (nI k) = (nI k) from Int32.zero_add _]
                      show pl _ _ _ (_, [(5, .int (nI (by2 f (p1 + 1)))), (0, .ref m0), (1, .int (nI k)), (2, .int (nI (by1 f p1)))], [.int (nI k), .ref m0], M954) _
                      refine ps_st (S' := (270, [(5, .int (nI (by2 f (p1 + 1)))), (0, .ref m0), (1, .int (nI k)), (2, .int (nI (by1 f p1)))], [.ref m0, .int (nI k), .ref m0], M954)) rfl rfl rfl ?_
                      refine pr_int (j := 50) (S' := (273, [(5, .int (nI (by2 f (p1 + 1)))), (0, .ref m0), (1, .int (nI k)), (2, .int (nI (by1 f p1)))], [.int (nI (p1 + 3)), .int (nI k), .ref m0], M954)) rfl hR958 rfl hi964 rfl ?_
                      refine ps_st (S' := (275, [(5, .int (nI (by2 f (p1 + 1)))), (0, .ref m0), (1, .int (nI k)), (2, .int (nI (by1 f p1)))], [.int (nI (by2 f (p1 + 1))), .int (nI (p1 + 3)), .int (nI k), .ref m0], M954)) rfl rfl rfl ?_
                      refine pl_call (a := [.ref m0, .int (nI k), .int (nI (p1 + 3)), .int (nI (by2 f (p1 + 1)))]) (rest := []) rfl rfl rfl (rd_utf8 (n := n) (f := f) (tx := tx1) (cN := cN1) (A := A1) (j := k) (p := (p1 + 3)) (m := (by2 f (p1 + 1))) hR958 hF_965 hY_966 (by omega) (by omega)) (fun v970 M971 q972 => ?_)
                      rcases q972 with q972 | q972
                      · skip
                        obtain ⟨tx2973, cN2974, A2975, l976, x977, I978, R979, q275_s, q275_x, q275_k, q275_r, rfl, hR980, hI981, hX982, hY_983⟩ := q972
                        have hi984 := (hI981 51 (by decide)).trans hi961
                        have hi985 := (hI981 52 (by decide)).trans hi962
                        have hi986 := (hI981 53 (by decide)).trans hi963
                        have hi987 := (hI981 50 (by decide)).trans hi964
                        have hF_988 := hF_965.mono (cIx hI981 (by decide)) (cRx hX982 (by decide))
                        have hEI989 := hEI968.tr hI981 (by decide)
                        have hER990 := hER969.tr hX982 (by decide)
                        show pl _ _ _ (278, [(5, .int (nI (by2 f (p1 + 1)))), (0, .ref m0), (1, .int (nI k)), (2, .int (nI (by1 f p1)))], [.int 1], M971) _
                        have hE_991 := hD_967.sy (I' := I978) q275_k (hX982 21 (by decide)) q275_r.2 q275_r.1 q275_x (s_utf_ok (by omega) (by omega) q275_s)
                        refine ps_if (S1 := (283, [(5, .int (nI (by2 f (p1 + 1)))), (0, .ref m0), (1, .int (nI k)), (2, .int (nI (by1 f p1)))], [], M971)) (S2 := (281, [(5, .int (nI (by2 f (p1 + 1)))), (0, .ref m0), (1, .int (nI k)), (2, .int (nI (by1 f p1)))], [], M971)) rfl rfl rfl (fun c_278 => ?_) (fun c_278 => ?_)
                        rotate_left
                        · exact absurd (by decide) (of_decide_eq_false c_278)
                        refine ps_st (S' := (284, [(5, .int (nI (by2 f (p1 + 1)))), (0, .ref m0), (1, .int (nI k)), (2, .int (nI (by1 f p1)))], [.ref m0], M971)) rfl rfl rfl ?_
                        refine ps_st (S' := (285, [(5, .int (nI (by2 f (p1 + 1)))), (0, .ref m0), (1, .int (nI k)), (2, .int (nI (by1 f p1)))], [.ref m0, .ref m0], M971)) rfl rfl rfl ?_
                        refine pr_int (j := 50) (S' := (288, [(5, .int (nI (by2 f (p1 + 1)))), (0, .ref m0), (1, .int (nI k)), (2, .int (nI (by1 f p1)))], [.int (nI (p1 + 3)), .ref m0], M971)) rfl hR980 rfl hi987 rfl ?_
                        refine ps_st (S' := (290, [(5, .int (nI (by2 f (p1 + 1)))), (0, .ref m0), (1, .int (nI k)), (2, .int (nI (by1 f p1)))], [.int (nI (by2 f (p1 + 1))), .int (nI (p1 + 3)), .ref m0], M971)) rfl rfl rfl ?_
                        refine ps_st (S' := (291, [(5, .int (nI (by2 f (p1 + 1)))), (0, .ref m0), (1, .int (nI k)), (2, .int (nI (by1 f p1)))], [.int ((nI (p1 + 3)) + (nI (by2 f (p1 + 1)))), .ref m0], M971)) rfl rfl rfl ?_
                        rw [nI_add1 (p := p1 + 3) (k := by2 f (p1 + 1)) (x := (nI (by2 f (p1 + 1)))) rfl (by omega)]
                        show pl _ _ _ (_, [(5, .int (nI (by2 f (p1 + 1)))), (0, .ref m0), (1, .int (nI k)), (2, .int (nI (by1 f p1)))], [.int (nI (p1 + 3 + by2 f (p1 + 1))), .ref m0], M971) _
                        refine pr_put (j := 50) rfl hR980 rfl (fun M992 I993 hR994 hi995 hI996 => ?_)
                        have hi997 := (hI996 51 (by decide)).trans hi984
                        have hi998 := (hI996 52 (by decide)).trans hi985
                        have hi999 := (hI996 53 (by decide)).trans hi986
                        have hF_1000 := hF_988.mono (pIx hI996 (by decide)) (fun _ _ => rfl)
                        have hY_1001 := hY_983.mono (pIx hI996 (by decide)) (fun _ _ => rfl)
                        have hE_1002 := hE_991.mono (pIx hI996 (by decide)) (fun _ _ => rfl)
                        have hEI1003 := hEI989.put hI996 (by decide)
                        show pl _ _ _ (294, [(5, .int (nI (by2 f (p1 + 1)))), (0, .ref m0), (1, .int (nI k)), (2, .int (nI (by1 f p1)))], [], M992) _
                        refine ps_st (S' := (499, [(0, .ref m0), (1, .int (nI k)), (2, .int (nI (by1 f p1)))], [], M992)) rfl rfl rfl ?_
                        exact ih.2.2.2.2 (k) (p1) (p1 + 3 + by2 f (p1 + 1)) (E) (tx2973) (cN2974) (A2975) M992 I993 R979 hR994 hEI1003 hER990 hi995 hi997 hi998 hi999 hF_1000 hY_1001 hE_1002 (hk) (hp1) (⟨by have := q275_k.1; omega, fun s9 h9 => by rw [q275_k.2 s9 (by omega), htx.2 s9 h9]⟩) (hs) (ht) (⟨_, by rw [ent_1 (by omega) ht (by omega), s_utf_ok (by omega) (by omega) q275_s]⟩) (by omega) (by omega)
                      · skip
                        obtain ⟨w1004, I1005, R1006, q275_s, rfl, hR1007, hI1008, hX1009, hi1010, hi1011⟩ := q972
                        have hi1012 := (hI1008 51 (by decide)).trans hi961
                        have hi1013 := (hI1008 52 (by decide)).trans hi962
                        have hi1014 := (hI1008 53 (by decide)).trans hi963
                        have hi1015 := (hI1008 50 (by decide)).trans hi964
                        have hF_1016 := hF_965.mono (cIx hI1008 (by decide)) (cRx hX1009 (by decide))
                        have hEI1017 := hEI968.tr hI1008 (by decide)
                        have hER1018 := hER969.tr hX1009 (by decide)
                        show pl _ _ _ (278, [(5, .int (nI (by2 f (p1 + 1)))), (0, .ref m0), (1, .int (nI k)), (2, .int (nI (by1 f p1)))], [.int 0], M971) _
                        refine ps_if (S1 := (283, [(5, .int (nI (by2 f (p1 + 1)))), (0, .ref m0), (1, .int (nI k)), (2, .int (nI (by1 f p1)))], [], M971)) (S2 := (281, [(5, .int (nI (by2 f (p1 + 1)))), (0, .ref m0), (1, .int (nI k)), (2, .int (nI (by1 f p1)))], [], M971)) rfl rfl rfl (fun c_278 => ?_) (fun c_278 => ?_)
                        · exact absurd (of_decide_eq_true c_278) (by decide)
                        refine ps_st (S' := (282, [(5, .int (nI (by2 f (p1 + 1)))), (0, .ref m0), (1, .int (nI k)), (2, .int (nI (by1 f p1)))], [.int 0], M971)) rfl rfl rfl ?_
                        exact ps_ret rfl rfl (Or.inr ⟨(6, w1004), I1005, R1006, by
                            rw [← hs]
                            exact s_ents_bad (by omega) (by rw [ent_1 (by omega) ht (by omega), s_utf_bad (by omega) (by omega) q275_s]), rfl, hR1007, hEI1017, hER1018, hi1010, hi1011⟩)
                    · skip
                      obtain ⟨I1019, R1020, q254_s, rfl, hR1021, hI1022, hX1023, hi1024, hi1025⟩ := q955
                      have hi1026 := (hI1022 51 (by decide)).trans hi946
                      have hi1027 := (hI1022 52 (by decide)).trans hi947
                      have hi1028 := (hI1022 53 (by decide)).trans hi948
                      have hi1029 := (hI1022 50 (by decide)).trans hi944
                      have hF_1030 := hF_949.mono (cIx hI1022 (by decide)) (cRx hX1023 (by decide))
                      have hY_1031 := hY_950.mono (cIx hI1022 (by decide)) (cRx hX1023 (by decide))
                      have hD_1032 := hD_951.mono (cIx hI1022 (by decide)) (cRx hX1023 (by decide))
                      have hEI1033 := hEI952.tr hI1022 (by decide)
                      have hER1034 := hER937.tr hX1023 (by decide)
                      show pl _ _ _ (257, [(5, .int (nI (by2 f (p1 + 1)))), (0, .ref m0), (1, .int (nI k)), (2, .int (nI (by1 f p1)))], [.int 0], M954) _
                      refine ps_if (S1 := (262, [(5, .int (nI (by2 f (p1 + 1)))), (0, .ref m0), (1, .int (nI k)), (2, .int (nI (by1 f p1)))], [], M954)) (S2 := (260, [(5, .int (nI (by2 f (p1 + 1)))), (0, .ref m0), (1, .int (nI k)), (2, .int (nI (by1 f p1)))], [], M954)) rfl rfl rfl (fun c_257 => ?_) (fun c_257 => ?_)
                      · exact absurd (of_decide_eq_true c_257) (by decide)
                      refine ps_st (S' := (261, [(5, .int (nI (by2 f (p1 + 1)))), (0, .ref m0), (1, .int (nI k)), (2, .int (nI (by1 f p1)))], [.int 0], M954)) rfl rfl rfl ?_
                      exact ps_ret rfl rfl (Or.inr ⟨(1, p1 + 3), I1019, R1020, by
                          rw [← hs]
                          exact s_ents_bad (by omega) (by rw [ent_1 (by omega) ht (by omega), show s_utf f n (p1 + 1) = .inl (1, p1 + 3) by unfold s_utf; rw [if_neg (by omega), if_pos (by omega)]]), rfl, hR1021, hEI1033, hER1034, hi1024, hi1025⟩)
                  · skip
                    obtain ⟨I1035, R1036, q222_s, rfl, hR1037, hI1038, hX1039, hi1040, hi1041⟩ := q923
                    have hi1042 := (hI1038 51 (by decide)).trans hi734
                    have hi1043 := (hI1038 52 (by decide)).trans hi735
                    have hi1044 := (hI1038 53 (by decide)).trans hi736
                    have hi1045 := (hI1038 50 (by decide)).trans hi732
                    have hF_1046 := hF_737.mono (cIx hI1038 (by decide)) (cRx hX1039 (by decide))
                    have hY_1047 := hY_738.mono (cIx hI1038 (by decide)) (cRx hX1039 (by decide))
                    have hD_1048 := hD_739.mono (cIx hI1038 (by decide)) (cRx hX1039 (by decide))
                    have hEI1049 := hEI740.tr hI1038 (by decide)
                    have hER1050 := hER1.tr hX1039 (by decide)
                    show pl _ _ _ (225, [(0, .ref m0), (1, .int (nI k)), (2, .int (nI (by1 f p1)))], [.int 0], M922) _
                    refine ps_if (S1 := (230, [(0, .ref m0), (1, .int (nI k)), (2, .int (nI (by1 f p1)))], [], M922)) (S2 := (228, [(0, .ref m0), (1, .int (nI k)), (2, .int (nI (by1 f p1)))], [], M922)) rfl rfl rfl (fun c_225 => ?_) (fun c_225 => ?_)
                    · exact absurd (of_decide_eq_true c_225) (by decide)
                    refine ps_st (S' := (229, [(0, .ref m0), (1, .int (nI k)), (2, .int (nI (by1 f p1)))], [.int 0], M922)) rfl rfl rfl ?_
                    exact ps_ret rfl rfl (Or.inr ⟨(1, p1 + 1), I1035, R1036, by
                        rw [← hs]
                        exact s_ents_bad (by omega) (by rw [ent_1 (by omega) ht (by omega), show s_utf f n (p1 + 1) = .inl (1, p1 + 1) by unfold s_utf; rw [if_pos (by omega)]]), rfl, hR1037, hEI1049, hER1050, hi1040, hi1041⟩)
              · have c_192 : ¬ ((nI (k + 1)) < (nI N)) := of_decide_eq_false c_192
                have n_192 : ¬ (k + 1 < N) := fun h9 => c_192 ((lt_nI (p := k + 1) (n := N) (by omega) (by omega)).mpr h9)
                refine ps_st (S' := (196, [(0, .ref m0), (1, .int (nI k)), (2, .int (nI (by1 f p1))), (3, .int (nI p1))], [.ref m0], M1)) rfl rfl rfl ?_
                refine ps_st (S' := (198, [(0, .ref m0), (1, .int (nI k)), (2, .int (nI (by1 f p1))), (3, .int (nI p1))], [.int 7, .ref m0], M1)) rfl rfl rfl ?_
                refine ps_st (S' := (199, [(0, .ref m0), (1, .int (nI k)), (2, .int (nI (by1 f p1))), (3, .int (nI p1))], [.int (nI p1), .int 7, .ref m0], M1)) rfl rfl rfl ?_
                refine pl_call (a := [.ref m0, .int 7, .int (nI p1)]) (rest := []) rfl rfl rfl (rd_wrong (x1 := 7) (x2 := (nI p1)) hR1) (fun v1051 M1052 q1053 => ?_)
                obtain ⟨I1054, R1055, rfl, hR1056, hI1057, hX1058, hi1059, hi1060⟩ := q1053
                have hi1061 := (hI1057 50 (by decide)).trans hl50
                have hi1062 := (hI1057 51 (by decide)).trans hl51
                have hi1063 := (hI1057 52 (by decide)).trans hl52
                have hi1064 := (hI1057 53 (by decide)).trans hl53
                have hF_1065 := hF1.mono (cIx hI1057 (by decide)) (cRx hX1058 (by decide))
                have hY_1066 := hY1.mono (cIx hI1057 (by decide)) (cRx hX1058 (by decide))
                have hD_1067 := hD1.mono (cIx hI1057 (by decide)) (cRx hX1058 (by decide))
                have hEI1068 := hEI1.tr hI1057 (by decide)
                have hER1069 := hER1.tr hX1058 (by decide)
                show pl _ _ _ (202, [(0, .ref m0), (1, .int (nI k)), (2, .int (nI (by1 f p1))), (3, .int (nI p1))], [.int 0], M1052) _
                exact ps_ret rfl rfl (Or.inr ⟨(7, p1), I1054, R1055, by
                    rw [← hs]
                    exact s_ents_bad (by omega) (ent_7 (by omega) ht (by omega)), rfl, hR1056, hEI1068, hER1069, hi1059, hi1060⟩)
        · have c_164 : ¬ (¬ (nI b) = 0) := of_decide_eq_false c_164
          have n_164 : b = 0 := (eq_nI (p := b) (n := 0) (by omega) (by decide)).mp (Decidable.not_not.mp c_164)
          refine ps_st (S' := (168, [(4, .int (nI b)), (0, .ref m0), (1, .int (nI k)), (2, .int (nI (by1 f p1))), (3, .int (nI p1))], [.ref m0], M1)) rfl rfl rfl ?_
          refine ps_st (S' := (169, [(4, .int (nI b)), (0, .ref m0), (1, .int (nI k)), (2, .int (nI (by1 f p1))), (3, .int (nI p1))], [.int 5, .ref m0], M1)) rfl rfl rfl ?_
          refine ps_st (S' := (170, [(4, .int (nI b)), (0, .ref m0), (1, .int (nI k)), (2, .int (nI (by1 f p1))), (3, .int (nI p1))], [.int (nI p1), .int 5, .ref m0], M1)) rfl rfl rfl ?_
          refine pl_call (a := [.ref m0, .int 5, .int (nI p1)]) (rest := []) rfl rfl rfl (rd_wrong (x1 := 5) (x2 := (nI p1)) hR1) (fun v1070 M1071 q1072 => ?_)
          obtain ⟨I1073, R1074, rfl, hR1075, hI1076, hX1077, hi1078, hi1079⟩ := q1072
          have hi1080 := (hI1076 50 (by decide)).trans hl50
          have hi1081 := (hI1076 51 (by decide)).trans hl51
          have hi1082 := (hI1076 52 (by decide)).trans hl52
          have hi1083 := (hI1076 53 (by decide)).trans hl53
          have hF_1084 := hF1.mono (cIx hI1076 (by decide)) (cRx hX1077 (by decide))
          have hY_1085 := hY1.mono (cIx hI1076 (by decide)) (cRx hX1077 (by decide))
          have hD_1086 := hD1.mono (cIx hI1076 (by decide)) (cRx hX1077 (by decide))
          have hEI1087 := hEI1.tr hI1076 (by decide)
          have hER1088 := hER1.tr hX1077 (by decide)
          show pl _ _ _ (173, [(4, .int (nI b)), (0, .ref m0), (1, .int (nI k)), (2, .int (nI (by1 f p1))), (3, .int (nI p1))], [.int 0], M1071) _
          exact ps_ret rfl rfl (Or.inr ⟨(5, p1), I1073, R1074, by
              rw [← hs]
              refine s_ents_bad (by omega) (ent_5 (by omega) ?_)
              rcases hb with ⟨h1, h2⟩ | ⟨h1, h2⟩
              · omega
              · exact h2, rfl, hR1075, hEI1087, hER1088, hi1078, hi1079⟩)
      · skip
        intro k p1 j E tx1 cN1 A1 M1 I1 R1 hR1 hEI1 hER1 hl50 hl51 hl52 hl53 hF1 hY1 hD1 hk hp1 htx hs ht h56 hw hj
        have hn := hF1.1
        have hu9 := by1_lt f p1
        refine ps_st1 (S' := (399, [(0, .ref m0), (1, .int (nI k)), (2, .int (nI (by1 f p1))), (5, .int (nI j))], [.int (nI j)], M1)) rfl rfl rfl ?_
        refine ps_st (S' := (400, [(0, .ref m0), (1, .int (nI k)), (2, .int (nI (by1 f p1))), (5, .int (nI j))], [.int 2, .int (nI j)], M1)) rfl rfl rfl ?_
        refine ps_if2 (S1 := (431, [(0, .ref m0), (1, .int (nI k)), (2, .int (nI (by1 f p1))), (5, .int (nI j))], [], M1)) (S2 := (403, [(0, .ref m0), (1, .int (nI k)), (2, .int (nI (by1 f p1))), (5, .int (nI j))], [], M1)) rfl rfl rfl (fun c_400 => ?_) (fun c_400 => ?_)
        · have c_400 : 2 ≤ (nI j) := of_decide_eq_true c_400
          have n_400 : 2 ≤ j := (le_nI (p := 2) (n := j) (by decide) (by omega)).mp c_400
          refine ps_st (S' := (499, [(0, .ref m0), (1, .int (nI k)), (2, .int (nI (by1 f p1)))], [], M1)) rfl rfl rfl ?_
          have hE9 := hD1.no (by omega)
          exact ih.2.2.2.2 (k) (p1) (p1 + 1 + 4 * j) (E) (tx1) (cN1) (A1) M1 I1 R1 hR1 hEI1 hER1 hl50 hl51 hl52 hl53 hF1 hY1 hE9 (hk) (hp1) (htx) (hs) (ht) (by
              have ej : j = 2 := by omega
              subst ej
              exact ⟨_, by rw [ent_8 (by omega) ht h56 hw, if_neg (by omega), if_neg (by omega)]⟩) (by omega) (by omega)
        · have c_400 : ¬ (2 ≤ (nI j)) := of_decide_eq_false c_400
          have n_400 : ¬ (2 ≤ j) := fun h9 => c_400 ((le_nI (p := 2) (n := j) (by decide) (by omega)).mpr h9)
          refine ps_st (S' := (404, [(0, .ref m0), (1, .int (nI k)), (2, .int (nI (by1 f p1))), (5, .int (nI j))], [.ref m0], M1)) rfl rfl rfl ?_
          refine ps_st (S' := (407, [(0, .ref m0), (1, .int (nI k)), (2, .int (nI (by1 f p1))), (5, .int (nI j))], [.long 4, .ref m0], M1)) rfl rfl rfl ?_
          refine pl_call (a := [.ref m0, .long 4]) (rest := []) rfl rfl rfl (rd_item (n := n) (f := f) (p := (p1 + 1 + 4 * j)) (k := 4) hR1 hl50 hF1 (by omega) (by decide)) (fun v1089 M1090 q1091 => ?_)
          rcases q1091 with q1091 | q1091
          · skip
            obtain ⟨I1092, R1093, q407_s, rfl, hR1094, hI1095, hX1096⟩ := q1091
            have hi1097 := (hI1095 50 (by decide)).trans hl50
            have hi1098 := (hI1095 51 (by decide)).trans hl51
            have hi1099 := (hI1095 52 (by decide)).trans hl52
            have hi1100 := (hI1095 53 (by decide)).trans hl53
            have hF_1101 := hF1.mono (cIx hI1095 (by decide)) (cRx hX1096 (by decide))
            have hY_1102 := hY1.mono (cIx hI1095 (by decide)) (cRx hX1096 (by decide))
            have hD_1103 := hD1.mono (cIx hI1095 (by decide)) (cRx hX1096 (by decide))
            have hEI1104 := hEI1.tr hI1095 (by decide)
            have hER1105 := hER1.tr hX1096 (by decide)
            show pl _ _ _ (410, [(0, .ref m0), (1, .int (nI k)), (2, .int (nI (by1 f p1))), (5, .int (nI j))], [.int 1], M1090) _
            refine ps_if (S1 := (415, [(0, .ref m0), (1, .int (nI k)), (2, .int (nI (by1 f p1))), (5, .int (nI j))], [], M1090)) (S2 := (413, [(0, .ref m0), (1, .int (nI k)), (2, .int (nI (by1 f p1))), (5, .int (nI j))], [], M1090)) rfl rfl rfl (fun c_410 => ?_) (fun c_410 => ?_)
            rotate_left
            · exact absurd (by decide) (of_decide_eq_false c_410)
            refine ps_st (S' := (416, [(0, .ref m0), (1, .int (nI k)), (2, .int (nI (by1 f p1))), (5, .int (nI j))], [.ref m0], M1090)) rfl rfl rfl ?_
            refine ps_st (S' := (417, [(0, .ref m0), (1, .int (nI k)), (2, .int (nI (by1 f p1))), (5, .int (nI j))], [.ref m0, .ref m0], M1090)) rfl rfl rfl ?_
            refine pr_int (j := 50) (S' := (420, [(0, .ref m0), (1, .int (nI k)), (2, .int (nI (by1 f p1))), (5, .int (nI j))], [.int (nI (p1 + 1 + 4 * j)), .ref m0], M1090)) rfl hR1094 rfl hi1097 rfl ?_
            refine ps_st (S' := (421, [(0, .ref m0), (1, .int (nI k)), (2, .int (nI (by1 f p1))), (5, .int (nI j))], [.int 4, .int (nI (p1 + 1 + 4 * j)), .ref m0], M1090)) rfl rfl rfl ?_
            refine ps_st (S' := (422, [(0, .ref m0), (1, .int (nI k)), (2, .int (nI (by1 f p1))), (5, .int (nI j))], [.int ((nI (p1 + 1 + 4 * j)) + 4), .ref m0], M1090)) rfl rfl rfl ?_
            rw [nI_add1 (p := p1 + 1 + 4 * j) (k := 4) (x := 4) rfl (by omega)]
            show pl _ _ _ (_, [(0, .ref m0), (1, .int (nI k)), (2, .int (nI (by1 f p1))), (5, .int (nI j))], [.int (nI (p1 + 1 + 4 * j + 4)), .ref m0], M1090) _
            refine pr_put (j := 50) rfl hR1094 rfl (fun M1106 I1107 hR1108 hi1109 hI1110 => ?_)
            have hi1111 := (hI1110 51 (by decide)).trans hi1098
            have hi1112 := (hI1110 52 (by decide)).trans hi1099
            have hi1113 := (hI1110 53 (by decide)).trans hi1100
            have hF_1114 := hF_1101.mono (pIx hI1110 (by decide)) (fun _ _ => rfl)
            have hY_1115 := hY_1102.mono (pIx hI1110 (by decide)) (fun _ _ => rfl)
            have hD_1116 := hD_1103.mono (pIx hI1110 (by decide)) (fun _ _ => rfl)
            have hEI1117 := hEI1104.put hI1110 (by decide)
            show pl _ _ _ (425, [(0, .ref m0), (1, .int (nI k)), (2, .int (nI (by1 f p1))), (5, .int (nI j))], [], M1106) _
            refine ps_st (S' := (428, [(5, .int ((nI j) + 1)), (0, .ref m0), (1, .int (nI k)), (2, .int (nI (by1 f p1)))], [], M1106)) rfl rfl rfl ?_
            rw [nI_add1 (p := j) (k := 1) (x := 1) rfl (by omega)]
            show pl _ _ _ (_, [(5, .int (nI (j + 1))), (0, .ref m0), (1, .int (nI k)), (2, .int (nI (by1 f p1)))], [], M1106) _
            refine ps_st (S' := (397, [(0, .ref m0), (1, .int (nI k)), (2, .int (nI (by1 f p1))), (5, .int (nI (j + 1)))], [], M1106)) rfl rfl rfl ?_
            exact ih.2.2.1 (k) (p1) (j + 1) (E) (tx1) (cN1) (A1) M1106 I1107 R1093 hR1108 hEI1117 hER1105 hi1109 hi1111 hi1112 hi1113 hF_1114 hY_1115 hD_1116 (hk) (hp1) (htx) (hs) (ht) (h56) (hw) (by omega)
          · skip
            obtain ⟨I1118, R1119, q407_s, rfl, hR1120, hI1121, hX1122, hi1123, hi1124⟩ := q1091
            have hi1125 := (hI1121 50 (by decide)).trans hl50
            have hi1126 := (hI1121 51 (by decide)).trans hl51
            have hi1127 := (hI1121 52 (by decide)).trans hl52
            have hi1128 := (hI1121 53 (by decide)).trans hl53
            have hF_1129 := hF1.mono (cIx hI1121 (by decide)) (cRx hX1122 (by decide))
            have hY_1130 := hY1.mono (cIx hI1121 (by decide)) (cRx hX1122 (by decide))
            have hD_1131 := hD1.mono (cIx hI1121 (by decide)) (cRx hX1122 (by decide))
            have hEI1132 := hEI1.tr hI1121 (by decide)
            have hER1133 := hER1.tr hX1122 (by decide)
            show pl _ _ _ (410, [(0, .ref m0), (1, .int (nI k)), (2, .int (nI (by1 f p1))), (5, .int (nI j))], [.int 0], M1090) _
            refine ps_if (S1 := (415, [(0, .ref m0), (1, .int (nI k)), (2, .int (nI (by1 f p1))), (5, .int (nI j))], [], M1090)) (S2 := (413, [(0, .ref m0), (1, .int (nI k)), (2, .int (nI (by1 f p1))), (5, .int (nI j))], [], M1090)) rfl rfl rfl (fun c_410 => ?_) (fun c_410 => ?_)
            · exact absurd (of_decide_eq_true c_410) (by decide)
            refine ps_st (S' := (414, [(0, .ref m0), (1, .int (nI k)), (2, .int (nI (by1 f p1))), (5, .int (nI j))], [.int 0], M1090)) rfl rfl rfl ?_
            exact ps_ret rfl rfl (Or.inr ⟨(1, p1 + 1 + 4 * j), I1118, R1119, by
                rw [← hs]
                refine s_ents_bad (by omega) ?_
                rw [ent_8 (by omega) ht h56 hw]
                have ej : j = 0 ∨ j = 1 := by omega
                rcases ej with rfl | rfl
                · rw [if_pos (by omega)]
                · rw [if_neg (by omega), if_pos (by omega)], rfl, hR1120, hEI1132, hER1133, hi1123, hi1124⟩)
      · skip
        intro k p1 j E tx1 cN1 A1 M1 I1 R1 hR1 hEI1 hER1 hl50 hl51 hl52 hl53 hF1 hY1 hD1 hk hp1 htx hs ht hx hj
        have hn := hF1.1
        have hu9 := by1_lt f p1
        refine ps_st1 (S' := (439, [(0, .ref m0), (1, .int (nI k)), (2, .int (nI (by1 f p1))), (5, .int (nI j))], [.int (nI j)], M1)) rfl rfl rfl ?_
        refine ps_st (S' := (440, [(0, .ref m0), (1, .int (nI k)), (2, .int (nI (by1 f p1))), (5, .int (nI j))], [.int (nI (by1 f p1)), .int (nI j)], M1)) rfl rfl rfl ?_
        refine ps_st (S' := (442, [(0, .ref m0), (1, .int (nI k)), (2, .int (nI (by1 f p1))), (5, .int (nI j))], [.int 9, .int (nI (by1 f p1)), .int (nI j)], M1)) rfl rfl rfl ?_
        refine ps_if2 (S1 := (451, [(0, .ref m0), (1, .int (nI k)), (2, .int (nI (by1 f p1))), (5, .int (nI j))], [.int (nI j)], M1)) (S2 := (445, [(0, .ref m0), (1, .int (nI k)), (2, .int (nI (by1 f p1))), (5, .int (nI j))], [.int (nI j)], M1)) rfl rfl rfl (fun c_442 => ?_) (fun c_442 => ?_)
        · have c_442 : (nI (by1 f p1)) < 9 := of_decide_eq_true c_442
          have n_442 : by1 f p1 < 9 := (lt_nI (p := by1 f p1) (n := 9) (Nat.lt_trans (by1_lt _ _) (by decide)) (by decide)).mp c_442
          refine ps_st (S' := (452, [(0, .ref m0), (1, .int (nI k)), (2, .int (nI (by1 f p1))), (5, .int (nI j))], [.int (nI (by1 f p1)), .int (nI j)], M1)) rfl rfl rfl ?_
          refine ps_st (S' := (454, [(0, .ref m0), (1, .int (nI k)), (2, .int (nI (by1 f p1))), (5, .int (nI j))], [.int 17, .int (nI (by1 f p1)), .int (nI j)], M1)) rfl rfl rfl ?_
          refine ps_if2 (S1 := (463, [(0, .ref m0), (1, .int (nI k)), (2, .int (nI (by1 f p1))), (5, .int (nI j))], [.int (nI j)], M1)) (S2 := (457, [(0, .ref m0), (1, .int (nI k)), (2, .int (nI (by1 f p1))), (5, .int (nI j))], [.int (nI j)], M1)) rfl rfl rfl (fun c_454 => ?_) (fun c_454 => ?_)
          · have c_454 : (nI (by1 f p1)) = 17 := of_decide_eq_true c_454
            have n_454 : by1 f p1 = 17 := (eq_nI (p := by1 f p1) (n := 17) (Nat.lt_trans (by1_lt _ _) (by decide)) (by decide)).mp c_454
            refine ps_st (S' := (464, [(0, .ref m0), (1, .int (nI k)), (2, .int (nI (by1 f p1))), (5, .int (nI j))], [.int 2, .int (nI j)], M1)) rfl rfl rfl ?_
            refine ps_st (S' := (468, [(0, .ref m0), (1, .int (nI k)), (2, .int (nI (by1 f p1))), (5, .int (nI j))], [.int 2, .int (nI j)], M1)) rfl rfl rfl ?_
            refine ps_if2 (S1 := (499, [(0, .ref m0), (1, .int (nI k)), (2, .int (nI (by1 f p1)))], [], M1)) (S2 := (471, [(0, .ref m0), (1, .int (nI k)), (2, .int (nI (by1 f p1))), (5, .int (nI j))], [], M1)) rfl rfl rfl (fun c_468 => ?_) (fun c_468 => ?_)
            · have c_468 : 2 ≤ (nI j) := of_decide_eq_true c_468
              have n_468 : 2 ≤ j := (le_nI (p := 2) (n := j) (by decide) (by omega)).mp c_468
              have hE9 := hD1.no (by omega)
              exact ih.2.2.2.2 (k) (p1) (p1 + 1 + 2 * j) (E) (tx1) (cN1) (A1) M1 I1 R1 hR1 hEI1 hER1 hl50 hl51 hl52 hl53 hF1 hY1 hE9 (hk) (hp1) (htx) (hs) (ht) (by
                  by_cases h9 : by1 f p1 = 7 ∨ by1 f p1 = 8 ∨ by1 f p1 = 16 ∨ by1 f p1 = 19 ∨ by1 f p1 = 20
                  · have ej : j = 1 := by omega
                    subst ej
                    exact ⟨_, by rw [ent_x (by omega) ht (by omega), ix_1 h9, if_neg (by omega)]⟩
                  · have ej : j = 2 := by omega
                    subst ej
                    exact ⟨_, by rw [ent_x (by omega) ht (by omega), ix_2 (by omega), if_neg (by omega), if_neg (by omega)]⟩) (by omega) (by omega)
            · have c_468 : ¬ (2 ≤ (nI j)) := of_decide_eq_false c_468
              have n_468 : ¬ (2 ≤ j) := fun h9 => c_468 ((le_nI (p := 2) (n := j) (by decide) (by omega)).mpr h9)
              refine ps_st (S' := (472, [(0, .ref m0), (1, .int (nI k)), (2, .int (nI (by1 f p1))), (5, .int (nI j))], [.ref m0], M1)) rfl rfl rfl ?_
              refine ps_st (S' := (475, [(0, .ref m0), (1, .int (nI k)), (2, .int (nI (by1 f p1))), (5, .int (nI j))], [.long 2, .ref m0], M1)) rfl rfl rfl ?_
              refine pl_call (a := [.ref m0, .long 2]) (rest := []) rfl rfl rfl (rd_item (n := n) (f := f) (p := (p1 + 1 + 2 * j)) (k := 2) hR1 hl50 hF1 (by omega) (by decide)) (fun v1134 M1135 q1136 => ?_)
              rcases q1136 with q1136 | q1136
              · skip
                obtain ⟨I1137, R1138, q475_s, rfl, hR1139, hI1140, hX1141⟩ := q1136
                have hi1142 := (hI1140 50 (by decide)).trans hl50
                have hi1143 := (hI1140 51 (by decide)).trans hl51
                have hi1144 := (hI1140 52 (by decide)).trans hl52
                have hi1145 := (hI1140 53 (by decide)).trans hl53
                have hF_1146 := hF1.mono (cIx hI1140 (by decide)) (cRx hX1141 (by decide))
                have hY_1147 := hY1.mono (cIx hI1140 (by decide)) (cRx hX1141 (by decide))
                have hD_1148 := hD1.mono (cIx hI1140 (by decide)) (cRx hX1141 (by decide))
                have hEI1149 := hEI1.tr hI1140 (by decide)
                have hER1150 := hER1.tr hX1141 (by decide)
                show pl _ _ _ (478, [(0, .ref m0), (1, .int (nI k)), (2, .int (nI (by1 f p1))), (5, .int (nI j))], [.int 1], M1135) _
                refine ps_if (S1 := (483, [(0, .ref m0), (1, .int (nI k)), (2, .int (nI (by1 f p1))), (5, .int (nI j))], [], M1135)) (S2 := (481, [(0, .ref m0), (1, .int (nI k)), (2, .int (nI (by1 f p1))), (5, .int (nI j))], [], M1135)) rfl rfl rfl (fun c_478 => ?_) (fun c_478 => ?_)
                rotate_left
                · exact absurd (by decide) (of_decide_eq_false c_478)
                refine ps_st (S' := (484, [(0, .ref m0), (1, .int (nI k)), (2, .int (nI (by1 f p1))), (5, .int (nI j))], [.ref m0], M1135)) rfl rfl rfl ?_
                refine ps_st (S' := (485, [(0, .ref m0), (1, .int (nI k)), (2, .int (nI (by1 f p1))), (5, .int (nI j))], [.ref m0, .ref m0], M1135)) rfl rfl rfl ?_
                refine pr_int (j := 50) (S' := (488, [(0, .ref m0), (1, .int (nI k)), (2, .int (nI (by1 f p1))), (5, .int (nI j))], [.int (nI (p1 + 1 + 2 * j)), .ref m0], M1135)) rfl hR1139 rfl hi1142 rfl ?_
                refine ps_st (S' := (489, [(0, .ref m0), (1, .int (nI k)), (2, .int (nI (by1 f p1))), (5, .int (nI j))], [.int 2, .int (nI (p1 + 1 + 2 * j)), .ref m0], M1135)) rfl rfl rfl ?_
                refine ps_st (S' := (490, [(0, .ref m0), (1, .int (nI k)), (2, .int (nI (by1 f p1))), (5, .int (nI j))], [.int ((nI (p1 + 1 + 2 * j)) + 2), .ref m0], M1135)) rfl rfl rfl ?_
                rw [nI_add1 (p := p1 + 1 + 2 * j) (k := 2) (x := 2) rfl (by omega)]
                show pl _ _ _ (_, [(0, .ref m0), (1, .int (nI k)), (2, .int (nI (by1 f p1))), (5, .int (nI j))], [.int (nI (p1 + 1 + 2 * j + 2)), .ref m0], M1135) _
                refine pr_put (j := 50) rfl hR1139 rfl (fun M1151 I1152 hR1153 hi1154 hI1155 => ?_)
                have hi1156 := (hI1155 51 (by decide)).trans hi1143
                have hi1157 := (hI1155 52 (by decide)).trans hi1144
                have hi1158 := (hI1155 53 (by decide)).trans hi1145
                have hF_1159 := hF_1146.mono (pIx hI1155 (by decide)) (fun _ _ => rfl)
                have hY_1160 := hY_1147.mono (pIx hI1155 (by decide)) (fun _ _ => rfl)
                have hD_1161 := hD_1148.mono (pIx hI1155 (by decide)) (fun _ _ => rfl)
                have hEI1162 := hEI1149.put hI1155 (by decide)
                show pl _ _ _ (493, [(0, .ref m0), (1, .int (nI k)), (2, .int (nI (by1 f p1))), (5, .int (nI j))], [], M1151) _
                refine ps_st (S' := (496, [(5, .int ((nI j) + 1)), (0, .ref m0), (1, .int (nI k)), (2, .int (nI (by1 f p1)))], [], M1151)) rfl rfl rfl ?_
                rw [nI_add1 (p := j) (k := 1) (x := 1) rfl (by omega)]
                show pl _ _ _ (_, [(5, .int (nI (j + 1))), (0, .ref m0), (1, .int (nI k)), (2, .int (nI (by1 f p1)))], [], M1151) _
                refine ps_st (S' := (437, [(0, .ref m0), (1, .int (nI k)), (2, .int (nI (by1 f p1))), (5, .int (nI (j + 1)))], [], M1151)) rfl rfl rfl ?_
                exact ih.2.2.2.1 (k) (p1) (j + 1) (E) (tx1) (cN1) (A1) M1151 I1152 R1138 hR1153 hEI1162 hER1150 hi1154 hi1156 hi1157 hi1158 hF_1159 hY_1160 hD_1161 (hk) (hp1) (htx) (hs) (ht) (hx) (by omega)
              · skip
                obtain ⟨I1163, R1164, q475_s, rfl, hR1165, hI1166, hX1167, hi1168, hi1169⟩ := q1136
                have hi1170 := (hI1166 50 (by decide)).trans hl50
                have hi1171 := (hI1166 51 (by decide)).trans hl51
                have hi1172 := (hI1166 52 (by decide)).trans hl52
                have hi1173 := (hI1166 53 (by decide)).trans hl53
                have hF_1174 := hF1.mono (cIx hI1166 (by decide)) (cRx hX1167 (by decide))
                have hY_1175 := hY1.mono (cIx hI1166 (by decide)) (cRx hX1167 (by decide))
                have hD_1176 := hD1.mono (cIx hI1166 (by decide)) (cRx hX1167 (by decide))
                have hEI1177 := hEI1.tr hI1166 (by decide)
                have hER1178 := hER1.tr hX1167 (by decide)
                show pl _ _ _ (478, [(0, .ref m0), (1, .int (nI k)), (2, .int (nI (by1 f p1))), (5, .int (nI j))], [.int 0], M1135) _
                refine ps_if (S1 := (483, [(0, .ref m0), (1, .int (nI k)), (2, .int (nI (by1 f p1))), (5, .int (nI j))], [], M1135)) (S2 := (481, [(0, .ref m0), (1, .int (nI k)), (2, .int (nI (by1 f p1))), (5, .int (nI j))], [], M1135)) rfl rfl rfl (fun c_478 => ?_) (fun c_478 => ?_)
                · exact absurd (of_decide_eq_true c_478) (by decide)
                refine ps_st (S' := (482, [(0, .ref m0), (1, .int (nI k)), (2, .int (nI (by1 f p1))), (5, .int (nI j))], [.int 0], M1135)) rfl rfl rfl ?_
                exact ps_ret rfl rfl (Or.inr ⟨(1, p1 + 1 + 2 * j), I1163, R1164, by
                    rw [← hs]
                    refine s_ents_bad (by omega) ?_
                    rw [ent_x (by omega) ht (by omega)]
                    by_cases h9 : by1 f p1 = 7 ∨ by1 f p1 = 8 ∨ by1 f p1 = 16 ∨ by1 f p1 = 19 ∨ by1 f p1 = 20
                    · have ej : j = 0 := by omega
                      subst ej
                      rw [ix_1 h9, if_pos (by omega)]
                    · rw [ix_2 (by omega)]
                      have ej : j = 0 ∨ j = 1 := by omega
                      rcases ej with rfl | rfl
                      · rw [if_pos (by omega)]
                      · rw [if_neg (by omega), if_pos (by omega)], rfl, hR1165, hEI1177, hER1178, hi1168, hi1169⟩)
          · have c_454 : ¬ ((nI (by1 f p1)) = 17) := of_decide_eq_false c_454
            have n_454 : ¬ (by1 f p1 = 17) := fun h9 => c_454 ((eq_nI (p := by1 f p1) (n := 17) (Nat.lt_trans (by1_lt _ _) (by decide)) (by decide)).mpr h9)
            refine ps_st (S' := (458, [(0, .ref m0), (1, .int (nI k)), (2, .int (nI (by1 f p1))), (5, .int (nI j))], [.int (nI (by1 f p1)), .int (nI j)], M1)) rfl rfl rfl ?_
            refine ps_st (S' := (460, [(0, .ref m0), (1, .int (nI k)), (2, .int (nI (by1 f p1))), (5, .int (nI j))], [.int 18, .int (nI (by1 f p1)), .int (nI j)], M1)) rfl rfl rfl ?_
            refine ps_if2 (S1 := (467, [(0, .ref m0), (1, .int (nI k)), (2, .int (nI (by1 f p1))), (5, .int (nI j))], [.int (nI j)], M1)) (S2 := (463, [(0, .ref m0), (1, .int (nI k)), (2, .int (nI (by1 f p1))), (5, .int (nI j))], [.int (nI j)], M1)) rfl rfl rfl (fun c_460 => ?_) (fun c_460 => ?_)
            · have c_460 : ¬ (nI (by1 f p1)) = 18 := of_decide_eq_true c_460
              have n_460 : ¬ (by1 f p1 = 18) := fun h9 => c_460 ((eq_nI (p := by1 f p1) (n := 18) (Nat.lt_trans (by1_lt _ _) (by decide)) (by decide)).mpr h9)
              refine ps_st (S' := (468, [(0, .ref m0), (1, .int (nI k)), (2, .int (nI (by1 f p1))), (5, .int (nI j))], [.int 1, .int (nI j)], M1)) rfl rfl rfl ?_
              refine ps_if2 (S1 := (499, [(0, .ref m0), (1, .int (nI k)), (2, .int (nI (by1 f p1)))], [], M1)) (S2 := (471, [(0, .ref m0), (1, .int (nI k)), (2, .int (nI (by1 f p1))), (5, .int (nI j))], [], M1)) rfl rfl rfl (fun c_468 => ?_) (fun c_468 => ?_)
              · have c_468 : 1 ≤ (nI j) := of_decide_eq_true c_468
                have n_468 : 1 ≤ j := (le_nI (p := 1) (n := j) (by decide) (by omega)).mp c_468
                have hE9 := hD1.no (by omega)
                exact ih.2.2.2.2 (k) (p1) (p1 + 1 + 2 * j) (E) (tx1) (cN1) (A1) M1 I1 R1 hR1 hEI1 hER1 hl50 hl51 hl52 hl53 hF1 hY1 hE9 (hk) (hp1) (htx) (hs) (ht) (by
                    by_cases h9 : by1 f p1 = 7 ∨ by1 f p1 = 8 ∨ by1 f p1 = 16 ∨ by1 f p1 = 19 ∨ by1 f p1 = 20
                    · have ej : j = 1 := by omega
                      subst ej
                      exact ⟨_, by rw [ent_x (by omega) ht (by omega), ix_1 h9, if_neg (by omega)]⟩
                    · have ej : j = 2 := by omega
                      subst ej
                      exact ⟨_, by rw [ent_x (by omega) ht (by omega), ix_2 (by omega), if_neg (by omega), if_neg (by omega)]⟩) (by omega) (by omega)
              · have c_468 : ¬ (1 ≤ (nI j)) := of_decide_eq_false c_468
                have n_468 : ¬ (1 ≤ j) := fun h9 => c_468 ((le_nI (p := 1) (n := j) (by decide) (by omega)).mpr h9)
                refine ps_st (S' := (472, [(0, .ref m0), (1, .int (nI k)), (2, .int (nI (by1 f p1))), (5, .int (nI j))], [.ref m0], M1)) rfl rfl rfl ?_
                refine ps_st (S' := (475, [(0, .ref m0), (1, .int (nI k)), (2, .int (nI (by1 f p1))), (5, .int (nI j))], [.long 2, .ref m0], M1)) rfl rfl rfl ?_
                refine pl_call (a := [.ref m0, .long 2]) (rest := []) rfl rfl rfl (rd_item (n := n) (f := f) (p := (p1 + 1 + 2 * j)) (k := 2) hR1 hl50 hF1 (by omega) (by decide)) (fun v1179 M1180 q1181 => ?_)
                rcases q1181 with q1181 | q1181
                · skip
                  obtain ⟨I1182, R1183, q475_s, rfl, hR1184, hI1185, hX1186⟩ := q1181
                  have hi1187 := (hI1185 50 (by decide)).trans hl50
                  have hi1188 := (hI1185 51 (by decide)).trans hl51
                  have hi1189 := (hI1185 52 (by decide)).trans hl52
                  have hi1190 := (hI1185 53 (by decide)).trans hl53
                  have hF_1191 := hF1.mono (cIx hI1185 (by decide)) (cRx hX1186 (by decide))
                  have hY_1192 := hY1.mono (cIx hI1185 (by decide)) (cRx hX1186 (by decide))
                  have hD_1193 := hD1.mono (cIx hI1185 (by decide)) (cRx hX1186 (by decide))
                  have hEI1194 := hEI1.tr hI1185 (by decide)
                  have hER1195 := hER1.tr hX1186 (by decide)
                  show pl _ _ _ (478, [(0, .ref m0), (1, .int (nI k)), (2, .int (nI (by1 f p1))), (5, .int (nI j))], [.int 1], M1180) _
                  refine ps_if (S1 := (483, [(0, .ref m0), (1, .int (nI k)), (2, .int (nI (by1 f p1))), (5, .int (nI j))], [], M1180)) (S2 := (481, [(0, .ref m0), (1, .int (nI k)), (2, .int (nI (by1 f p1))), (5, .int (nI j))], [], M1180)) rfl rfl rfl (fun c_478 => ?_) (fun c_478 => ?_)
                  rotate_left
                  · exact absurd (by decide) (of_decide_eq_false c_478)
                  refine ps_st (S' := (484, [(0, .ref m0), (1, .int (nI k)), (2, .int (nI (by1 f p1))), (5, .int (nI j))], [.ref m0], M1180)) rfl rfl rfl ?_
                  refine ps_st (S' := (485, [(0, .ref m0), (1, .int (nI k)), (2, .int (nI (by1 f p1))), (5, .int (nI j))], [.ref m0, .ref m0], M1180)) rfl rfl rfl ?_
                  refine pr_int (j := 50) (S' := (488, [(0, .ref m0), (1, .int (nI k)), (2, .int (nI (by1 f p1))), (5, .int (nI j))], [.int (nI (p1 + 1 + 2 * j)), .ref m0], M1180)) rfl hR1184 rfl hi1187 rfl ?_
                  refine ps_st (S' := (489, [(0, .ref m0), (1, .int (nI k)), (2, .int (nI (by1 f p1))), (5, .int (nI j))], [.int 2, .int (nI (p1 + 1 + 2 * j)), .ref m0], M1180)) rfl rfl rfl ?_
                  refine ps_st (S' := (490, [(0, .ref m0), (1, .int (nI k)), (2, .int (nI (by1 f p1))), (5, .int (nI j))], [.int ((nI (p1 + 1 + 2 * j)) + 2), .ref m0], M1180)) rfl rfl rfl ?_
                  rw [nI_add1 (p := p1 + 1 + 2 * j) (k := 2) (x := 2) rfl (by omega)]
                  show pl _ _ _ (_, [(0, .ref m0), (1, .int (nI k)), (2, .int (nI (by1 f p1))), (5, .int (nI j))], [.int (nI (p1 + 1 + 2 * j + 2)), .ref m0], M1180) _
                  refine pr_put (j := 50) rfl hR1184 rfl (fun M1196 I1197 hR1198 hi1199 hI1200 => ?_)
                  have hi1201 := (hI1200 51 (by decide)).trans hi1188
                  have hi1202 := (hI1200 52 (by decide)).trans hi1189
                  have hi1203 := (hI1200 53 (by decide)).trans hi1190
                  have hF_1204 := hF_1191.mono (pIx hI1200 (by decide)) (fun _ _ => rfl)
                  have hY_1205 := hY_1192.mono (pIx hI1200 (by decide)) (fun _ _ => rfl)
                  have hD_1206 := hD_1193.mono (pIx hI1200 (by decide)) (fun _ _ => rfl)
                  have hEI1207 := hEI1194.put hI1200 (by decide)
                  show pl _ _ _ (493, [(0, .ref m0), (1, .int (nI k)), (2, .int (nI (by1 f p1))), (5, .int (nI j))], [], M1196) _
                  refine ps_st (S' := (496, [(5, .int ((nI j) + 1)), (0, .ref m0), (1, .int (nI k)), (2, .int (nI (by1 f p1)))], [], M1196)) rfl rfl rfl ?_
                  rw [nI_add1 (p := j) (k := 1) (x := 1) rfl (by omega)]
                  show pl _ _ _ (_, [(5, .int (nI (j + 1))), (0, .ref m0), (1, .int (nI k)), (2, .int (nI (by1 f p1)))], [], M1196) _
                  refine ps_st (S' := (437, [(0, .ref m0), (1, .int (nI k)), (2, .int (nI (by1 f p1))), (5, .int (nI (j + 1)))], [], M1196)) rfl rfl rfl ?_
                  exact ih.2.2.2.1 (k) (p1) (j + 1) (E) (tx1) (cN1) (A1) M1196 I1197 R1183 hR1198 hEI1207 hER1195 hi1199 hi1201 hi1202 hi1203 hF_1204 hY_1205 hD_1206 (hk) (hp1) (htx) (hs) (ht) (hx) (by omega)
                · skip
                  obtain ⟨I1208, R1209, q475_s, rfl, hR1210, hI1211, hX1212, hi1213, hi1214⟩ := q1181
                  have hi1215 := (hI1211 50 (by decide)).trans hl50
                  have hi1216 := (hI1211 51 (by decide)).trans hl51
                  have hi1217 := (hI1211 52 (by decide)).trans hl52
                  have hi1218 := (hI1211 53 (by decide)).trans hl53
                  have hF_1219 := hF1.mono (cIx hI1211 (by decide)) (cRx hX1212 (by decide))
                  have hY_1220 := hY1.mono (cIx hI1211 (by decide)) (cRx hX1212 (by decide))
                  have hD_1221 := hD1.mono (cIx hI1211 (by decide)) (cRx hX1212 (by decide))
                  have hEI1222 := hEI1.tr hI1211 (by decide)
                  have hER1223 := hER1.tr hX1212 (by decide)
                  show pl _ _ _ (478, [(0, .ref m0), (1, .int (nI k)), (2, .int (nI (by1 f p1))), (5, .int (nI j))], [.int 0], M1180) _
                  refine ps_if (S1 := (483, [(0, .ref m0), (1, .int (nI k)), (2, .int (nI (by1 f p1))), (5, .int (nI j))], [], M1180)) (S2 := (481, [(0, .ref m0), (1, .int (nI k)), (2, .int (nI (by1 f p1))), (5, .int (nI j))], [], M1180)) rfl rfl rfl (fun c_478 => ?_) (fun c_478 => ?_)
                  · exact absurd (of_decide_eq_true c_478) (by decide)
                  refine ps_st (S' := (482, [(0, .ref m0), (1, .int (nI k)), (2, .int (nI (by1 f p1))), (5, .int (nI j))], [.int 0], M1180)) rfl rfl rfl ?_
                  exact ps_ret rfl rfl (Or.inr ⟨(1, p1 + 1 + 2 * j), I1208, R1209, by
                      rw [← hs]
                      refine s_ents_bad (by omega) ?_
                      rw [ent_x (by omega) ht (by omega)]
                      by_cases h9 : by1 f p1 = 7 ∨ by1 f p1 = 8 ∨ by1 f p1 = 16 ∨ by1 f p1 = 19 ∨ by1 f p1 = 20
                      · have ej : j = 0 := by omega
                        subst ej
                        rw [ix_1 h9, if_pos (by omega)]
                      · rw [ix_2 (by omega)]
                        have ej : j = 0 ∨ j = 1 := by omega
                        rcases ej with rfl | rfl
                        · rw [if_pos (by omega)]
                        · rw [if_neg (by omega), if_pos (by omega)], rfl, hR1210, hEI1222, hER1223, hi1213, hi1214⟩)
            · have c_460 : ¬ (¬ (nI (by1 f p1)) = 18) := of_decide_eq_false c_460
              have n_460 : by1 f p1 = 18 := (eq_nI (p := by1 f p1) (n := 18) (Nat.lt_trans (by1_lt _ _) (by decide)) (by decide)).mp (Decidable.not_not.mp c_460)
              refine ps_st (S' := (464, [(0, .ref m0), (1, .int (nI k)), (2, .int (nI (by1 f p1))), (5, .int (nI j))], [.int 2, .int (nI j)], M1)) rfl rfl rfl ?_
              refine ps_st (S' := (468, [(0, .ref m0), (1, .int (nI k)), (2, .int (nI (by1 f p1))), (5, .int (nI j))], [.int 2, .int (nI j)], M1)) rfl rfl rfl ?_
              refine ps_if2 (S1 := (499, [(0, .ref m0), (1, .int (nI k)), (2, .int (nI (by1 f p1)))], [], M1)) (S2 := (471, [(0, .ref m0), (1, .int (nI k)), (2, .int (nI (by1 f p1))), (5, .int (nI j))], [], M1)) rfl rfl rfl (fun c_468 => ?_) (fun c_468 => ?_)
              · have c_468 : 2 ≤ (nI j) := of_decide_eq_true c_468
                have n_468 : 2 ≤ j := (le_nI (p := 2) (n := j) (by decide) (by omega)).mp c_468
                have hE9 := hD1.no (by omega)
                exact ih.2.2.2.2 (k) (p1) (p1 + 1 + 2 * j) (E) (tx1) (cN1) (A1) M1 I1 R1 hR1 hEI1 hER1 hl50 hl51 hl52 hl53 hF1 hY1 hE9 (hk) (hp1) (htx) (hs) (ht) (by
                    by_cases h9 : by1 f p1 = 7 ∨ by1 f p1 = 8 ∨ by1 f p1 = 16 ∨ by1 f p1 = 19 ∨ by1 f p1 = 20
                    · have ej : j = 1 := by omega
                      subst ej
                      exact ⟨_, by rw [ent_x (by omega) ht (by omega), ix_1 h9, if_neg (by omega)]⟩
                    · have ej : j = 2 := by omega
                      subst ej
                      exact ⟨_, by rw [ent_x (by omega) ht (by omega), ix_2 (by omega), if_neg (by omega), if_neg (by omega)]⟩) (by omega) (by omega)
              · have c_468 : ¬ (2 ≤ (nI j)) := of_decide_eq_false c_468
                have n_468 : ¬ (2 ≤ j) := fun h9 => c_468 ((le_nI (p := 2) (n := j) (by decide) (by omega)).mpr h9)
                refine ps_st (S' := (472, [(0, .ref m0), (1, .int (nI k)), (2, .int (nI (by1 f p1))), (5, .int (nI j))], [.ref m0], M1)) rfl rfl rfl ?_
                refine ps_st (S' := (475, [(0, .ref m0), (1, .int (nI k)), (2, .int (nI (by1 f p1))), (5, .int (nI j))], [.long 2, .ref m0], M1)) rfl rfl rfl ?_
                refine pl_call (a := [.ref m0, .long 2]) (rest := []) rfl rfl rfl (rd_item (n := n) (f := f) (p := (p1 + 1 + 2 * j)) (k := 2) hR1 hl50 hF1 (by omega) (by decide)) (fun v1224 M1225 q1226 => ?_)
                rcases q1226 with q1226 | q1226
                · skip
                  obtain ⟨I1227, R1228, q475_s, rfl, hR1229, hI1230, hX1231⟩ := q1226
                  have hi1232 := (hI1230 50 (by decide)).trans hl50
                  have hi1233 := (hI1230 51 (by decide)).trans hl51
                  have hi1234 := (hI1230 52 (by decide)).trans hl52
                  have hi1235 := (hI1230 53 (by decide)).trans hl53
                  have hF_1236 := hF1.mono (cIx hI1230 (by decide)) (cRx hX1231 (by decide))
                  have hY_1237 := hY1.mono (cIx hI1230 (by decide)) (cRx hX1231 (by decide))
                  have hD_1238 := hD1.mono (cIx hI1230 (by decide)) (cRx hX1231 (by decide))
                  have hEI1239 := hEI1.tr hI1230 (by decide)
                  have hER1240 := hER1.tr hX1231 (by decide)
                  show pl _ _ _ (478, [(0, .ref m0), (1, .int (nI k)), (2, .int (nI (by1 f p1))), (5, .int (nI j))], [.int 1], M1225) _
                  refine ps_if (S1 := (483, [(0, .ref m0), (1, .int (nI k)), (2, .int (nI (by1 f p1))), (5, .int (nI j))], [], M1225)) (S2 := (481, [(0, .ref m0), (1, .int (nI k)), (2, .int (nI (by1 f p1))), (5, .int (nI j))], [], M1225)) rfl rfl rfl (fun c_478 => ?_) (fun c_478 => ?_)
                  rotate_left
                  · exact absurd (by decide) (of_decide_eq_false c_478)
                  refine ps_st (S' := (484, [(0, .ref m0), (1, .int (nI k)), (2, .int (nI (by1 f p1))), (5, .int (nI j))], [.ref m0], M1225)) rfl rfl rfl ?_
                  refine ps_st (S' := (485, [(0, .ref m0), (1, .int (nI k)), (2, .int (nI (by1 f p1))), (5, .int (nI j))], [.ref m0, .ref m0], M1225)) rfl rfl rfl ?_
                  refine pr_int (j := 50) (S' := (488, [(0, .ref m0), (1, .int (nI k)), (2, .int (nI (by1 f p1))), (5, .int (nI j))], [.int (nI (p1 + 1 + 2 * j)), .ref m0], M1225)) rfl hR1229 rfl hi1232 rfl ?_
                  refine ps_st (S' := (489, [(0, .ref m0), (1, .int (nI k)), (2, .int (nI (by1 f p1))), (5, .int (nI j))], [.int 2, .int (nI (p1 + 1 + 2 * j)), .ref m0], M1225)) rfl rfl rfl ?_
                  refine ps_st (S' := (490, [(0, .ref m0), (1, .int (nI k)), (2, .int (nI (by1 f p1))), (5, .int (nI j))], [.int ((nI (p1 + 1 + 2 * j)) + 2), .ref m0], M1225)) rfl rfl rfl ?_
                  rw [nI_add1 (p := p1 + 1 + 2 * j) (k := 2) (x := 2) rfl (by omega)]
                  show pl _ _ _ (_, [(0, .ref m0), (1, .int (nI k)), (2, .int (nI (by1 f p1))), (5, .int (nI j))], [.int (nI (p1 + 1 + 2 * j + 2)), .ref m0], M1225) _
                  refine pr_put (j := 50) rfl hR1229 rfl (fun M1241 I1242 hR1243 hi1244 hI1245 => ?_)
                  have hi1246 := (hI1245 51 (by decide)).trans hi1233
                  have hi1247 := (hI1245 52 (by decide)).trans hi1234
                  have hi1248 := (hI1245 53 (by decide)).trans hi1235
                  have hF_1249 := hF_1236.mono (pIx hI1245 (by decide)) (fun _ _ => rfl)
                  have hY_1250 := hY_1237.mono (pIx hI1245 (by decide)) (fun _ _ => rfl)
                  have hD_1251 := hD_1238.mono (pIx hI1245 (by decide)) (fun _ _ => rfl)
                  have hEI1252 := hEI1239.put hI1245 (by decide)
                  show pl _ _ _ (493, [(0, .ref m0), (1, .int (nI k)), (2, .int (nI (by1 f p1))), (5, .int (nI j))], [], M1241) _
                  refine ps_st (S' := (496, [(5, .int ((nI j) + 1)), (0, .ref m0), (1, .int (nI k)), (2, .int (nI (by1 f p1)))], [], M1241)) rfl rfl rfl ?_
                  rw [nI_add1 (p := j) (k := 1) (x := 1) rfl (by omega)]
                  show pl _ _ _ (_, [(5, .int (nI (j + 1))), (0, .ref m0), (1, .int (nI k)), (2, .int (nI (by1 f p1)))], [], M1241) _
                  refine ps_st (S' := (437, [(0, .ref m0), (1, .int (nI k)), (2, .int (nI (by1 f p1))), (5, .int (nI (j + 1)))], [], M1241)) rfl rfl rfl ?_
                  exact ih.2.2.2.1 (k) (p1) (j + 1) (E) (tx1) (cN1) (A1) M1241 I1242 R1228 hR1243 hEI1252 hER1240 hi1244 hi1246 hi1247 hi1248 hF_1249 hY_1250 hD_1251 (hk) (hp1) (htx) (hs) (ht) (hx) (by omega)
                · skip
                  obtain ⟨I1253, R1254, q475_s, rfl, hR1255, hI1256, hX1257, hi1258, hi1259⟩ := q1226
                  have hi1260 := (hI1256 50 (by decide)).trans hl50
                  have hi1261 := (hI1256 51 (by decide)).trans hl51
                  have hi1262 := (hI1256 52 (by decide)).trans hl52
                  have hi1263 := (hI1256 53 (by decide)).trans hl53
                  have hF_1264 := hF1.mono (cIx hI1256 (by decide)) (cRx hX1257 (by decide))
                  have hY_1265 := hY1.mono (cIx hI1256 (by decide)) (cRx hX1257 (by decide))
                  have hD_1266 := hD1.mono (cIx hI1256 (by decide)) (cRx hX1257 (by decide))
                  have hEI1267 := hEI1.tr hI1256 (by decide)
                  have hER1268 := hER1.tr hX1257 (by decide)
                  show pl _ _ _ (478, [(0, .ref m0), (1, .int (nI k)), (2, .int (nI (by1 f p1))), (5, .int (nI j))], [.int 0], M1225) _
                  refine ps_if (S1 := (483, [(0, .ref m0), (1, .int (nI k)), (2, .int (nI (by1 f p1))), (5, .int (nI j))], [], M1225)) (S2 := (481, [(0, .ref m0), (1, .int (nI k)), (2, .int (nI (by1 f p1))), (5, .int (nI j))], [], M1225)) rfl rfl rfl (fun c_478 => ?_) (fun c_478 => ?_)
                  · exact absurd (of_decide_eq_true c_478) (by decide)
                  refine ps_st (S' := (482, [(0, .ref m0), (1, .int (nI k)), (2, .int (nI (by1 f p1))), (5, .int (nI j))], [.int 0], M1225)) rfl rfl rfl ?_
                  exact ps_ret rfl rfl (Or.inr ⟨(1, p1 + 1 + 2 * j), I1253, R1254, by
                      rw [← hs]
                      refine s_ents_bad (by omega) ?_
                      rw [ent_x (by omega) ht (by omega)]
                      by_cases h9 : by1 f p1 = 7 ∨ by1 f p1 = 8 ∨ by1 f p1 = 16 ∨ by1 f p1 = 19 ∨ by1 f p1 = 20
                      · have ej : j = 0 := by omega
                        subst ej
                        rw [ix_1 h9, if_pos (by omega)]
                      · rw [ix_2 (by omega)]
                        have ej : j = 0 ∨ j = 1 := by omega
                        rcases ej with rfl | rfl
                        · rw [if_pos (by omega)]
                        · rw [if_neg (by omega), if_pos (by omega)], rfl, hR1255, hEI1267, hER1268, hi1258, hi1259⟩)
        · have c_442 : ¬ ((nI (by1 f p1)) < 9) := of_decide_eq_false c_442
          have n_442 : ¬ (by1 f p1 < 9) := fun h9 => c_442 ((lt_nI (p := by1 f p1) (n := 9) (Nat.lt_trans (by1_lt _ _) (by decide)) (by decide)).mpr h9)
          refine ps_st (S' := (446, [(0, .ref m0), (1, .int (nI k)), (2, .int (nI (by1 f p1))), (5, .int (nI j))], [.int (nI (by1 f p1)), .int (nI j)], M1)) rfl rfl rfl ?_
          refine ps_st (S' := (448, [(0, .ref m0), (1, .int (nI k)), (2, .int (nI (by1 f p1))), (5, .int (nI j))], [.int 12, .int (nI (by1 f p1)), .int (nI j)], M1)) rfl rfl rfl ?_
          refine ps_if2 (S1 := (463, [(0, .ref m0), (1, .int (nI k)), (2, .int (nI (by1 f p1))), (5, .int (nI j))], [.int (nI j)], M1)) (S2 := (451, [(0, .ref m0), (1, .int (nI k)), (2, .int (nI (by1 f p1))), (5, .int (nI j))], [.int (nI j)], M1)) rfl rfl rfl (fun c_448 => ?_) (fun c_448 => ?_)
          · have c_448 : (nI (by1 f p1)) ≤ 12 := of_decide_eq_true c_448
            have n_448 : by1 f p1 ≤ 12 := (le_nI (p := by1 f p1) (n := 12) (Nat.lt_trans (by1_lt _ _) (by decide)) (by decide)).mp c_448
            refine ps_st (S' := (464, [(0, .ref m0), (1, .int (nI k)), (2, .int (nI (by1 f p1))), (5, .int (nI j))], [.int 2, .int (nI j)], M1)) rfl rfl rfl ?_
            refine ps_st (S' := (468, [(0, .ref m0), (1, .int (nI k)), (2, .int (nI (by1 f p1))), (5, .int (nI j))], [.int 2, .int (nI j)], M1)) rfl rfl rfl ?_
            refine ps_if2 (S1 := (499, [(0, .ref m0), (1, .int (nI k)), (2, .int (nI (by1 f p1)))], [], M1)) (S2 := (471, [(0, .ref m0), (1, .int (nI k)), (2, .int (nI (by1 f p1))), (5, .int (nI j))], [], M1)) rfl rfl rfl (fun c_468 => ?_) (fun c_468 => ?_)
            · have c_468 : 2 ≤ (nI j) := of_decide_eq_true c_468
              have n_468 : 2 ≤ j := (le_nI (p := 2) (n := j) (by decide) (by omega)).mp c_468
              have hE9 := hD1.no (by omega)
              exact ih.2.2.2.2 (k) (p1) (p1 + 1 + 2 * j) (E) (tx1) (cN1) (A1) M1 I1 R1 hR1 hEI1 hER1 hl50 hl51 hl52 hl53 hF1 hY1 hE9 (hk) (hp1) (htx) (hs) (ht) (by
                  by_cases h9 : by1 f p1 = 7 ∨ by1 f p1 = 8 ∨ by1 f p1 = 16 ∨ by1 f p1 = 19 ∨ by1 f p1 = 20
                  · have ej : j = 1 := by omega
                    subst ej
                    exact ⟨_, by rw [ent_x (by omega) ht (by omega), ix_1 h9, if_neg (by omega)]⟩
                  · have ej : j = 2 := by omega
                    subst ej
                    exact ⟨_, by rw [ent_x (by omega) ht (by omega), ix_2 (by omega), if_neg (by omega), if_neg (by omega)]⟩) (by omega) (by omega)
            · have c_468 : ¬ (2 ≤ (nI j)) := of_decide_eq_false c_468
              have n_468 : ¬ (2 ≤ j) := fun h9 => c_468 ((le_nI (p := 2) (n := j) (by decide) (by omega)).mpr h9)
              refine ps_st (S' := (472, [(0, .ref m0), (1, .int (nI k)), (2, .int (nI (by1 f p1))), (5, .int (nI j))], [.ref m0], M1)) rfl rfl rfl ?_
              refine ps_st (S' := (475, [(0, .ref m0), (1, .int (nI k)), (2, .int (nI (by1 f p1))), (5, .int (nI j))], [.long 2, .ref m0], M1)) rfl rfl rfl ?_
              refine pl_call (a := [.ref m0, .long 2]) (rest := []) rfl rfl rfl (rd_item (n := n) (f := f) (p := (p1 + 1 + 2 * j)) (k := 2) hR1 hl50 hF1 (by omega) (by decide)) (fun v1269 M1270 q1271 => ?_)
              rcases q1271 with q1271 | q1271
              · skip
                obtain ⟨I1272, R1273, q475_s, rfl, hR1274, hI1275, hX1276⟩ := q1271
                have hi1277 := (hI1275 50 (by decide)).trans hl50
                have hi1278 := (hI1275 51 (by decide)).trans hl51
                have hi1279 := (hI1275 52 (by decide)).trans hl52
                have hi1280 := (hI1275 53 (by decide)).trans hl53
                have hF_1281 := hF1.mono (cIx hI1275 (by decide)) (cRx hX1276 (by decide))
                have hY_1282 := hY1.mono (cIx hI1275 (by decide)) (cRx hX1276 (by decide))
                have hD_1283 := hD1.mono (cIx hI1275 (by decide)) (cRx hX1276 (by decide))
                have hEI1284 := hEI1.tr hI1275 (by decide)
                have hER1285 := hER1.tr hX1276 (by decide)
                show pl _ _ _ (478, [(0, .ref m0), (1, .int (nI k)), (2, .int (nI (by1 f p1))), (5, .int (nI j))], [.int 1], M1270) _
                refine ps_if (S1 := (483, [(0, .ref m0), (1, .int (nI k)), (2, .int (nI (by1 f p1))), (5, .int (nI j))], [], M1270)) (S2 := (481, [(0, .ref m0), (1, .int (nI k)), (2, .int (nI (by1 f p1))), (5, .int (nI j))], [], M1270)) rfl rfl rfl (fun c_478 => ?_) (fun c_478 => ?_)
                rotate_left
                · exact absurd (by decide) (of_decide_eq_false c_478)
                refine ps_st (S' := (484, [(0, .ref m0), (1, .int (nI k)), (2, .int (nI (by1 f p1))), (5, .int (nI j))], [.ref m0], M1270)) rfl rfl rfl ?_
                refine ps_st (S' := (485, [(0, .ref m0), (1, .int (nI k)), (2, .int (nI (by1 f p1))), (5, .int (nI j))], [.ref m0, .ref m0], M1270)) rfl rfl rfl ?_
                refine pr_int (j := 50) (S' := (488, [(0, .ref m0), (1, .int (nI k)), (2, .int (nI (by1 f p1))), (5, .int (nI j))], [.int (nI (p1 + 1 + 2 * j)), .ref m0], M1270)) rfl hR1274 rfl hi1277 rfl ?_
                refine ps_st (S' := (489, [(0, .ref m0), (1, .int (nI k)), (2, .int (nI (by1 f p1))), (5, .int (nI j))], [.int 2, .int (nI (p1 + 1 + 2 * j)), .ref m0], M1270)) rfl rfl rfl ?_
                refine ps_st (S' := (490, [(0, .ref m0), (1, .int (nI k)), (2, .int (nI (by1 f p1))), (5, .int (nI j))], [.int ((nI (p1 + 1 + 2 * j)) + 2), .ref m0], M1270)) rfl rfl rfl ?_
                rw [nI_add1 (p := p1 + 1 + 2 * j) (k := 2) (x := 2) rfl (by omega)]
                show pl _ _ _ (_, [(0, .ref m0), (1, .int (nI k)), (2, .int (nI (by1 f p1))), (5, .int (nI j))], [.int (nI (p1 + 1 + 2 * j + 2)), .ref m0], M1270) _
                refine pr_put (j := 50) rfl hR1274 rfl (fun M1286 I1287 hR1288 hi1289 hI1290 => ?_)
                have hi1291 := (hI1290 51 (by decide)).trans hi1278
                have hi1292 := (hI1290 52 (by decide)).trans hi1279
                have hi1293 := (hI1290 53 (by decide)).trans hi1280
                have hF_1294 := hF_1281.mono (pIx hI1290 (by decide)) (fun _ _ => rfl)
                have hY_1295 := hY_1282.mono (pIx hI1290 (by decide)) (fun _ _ => rfl)
                have hD_1296 := hD_1283.mono (pIx hI1290 (by decide)) (fun _ _ => rfl)
                have hEI1297 := hEI1284.put hI1290 (by decide)
                show pl _ _ _ (493, [(0, .ref m0), (1, .int (nI k)), (2, .int (nI (by1 f p1))), (5, .int (nI j))], [], M1286) _
                refine ps_st (S' := (496, [(5, .int ((nI j) + 1)), (0, .ref m0), (1, .int (nI k)), (2, .int (nI (by1 f p1)))], [], M1286)) rfl rfl rfl ?_
                rw [nI_add1 (p := j) (k := 1) (x := 1) rfl (by omega)]
                show pl _ _ _ (_, [(5, .int (nI (j + 1))), (0, .ref m0), (1, .int (nI k)), (2, .int (nI (by1 f p1)))], [], M1286) _
                refine ps_st (S' := (437, [(0, .ref m0), (1, .int (nI k)), (2, .int (nI (by1 f p1))), (5, .int (nI (j + 1)))], [], M1286)) rfl rfl rfl ?_
                exact ih.2.2.2.1 (k) (p1) (j + 1) (E) (tx1) (cN1) (A1) M1286 I1287 R1273 hR1288 hEI1297 hER1285 hi1289 hi1291 hi1292 hi1293 hF_1294 hY_1295 hD_1296 (hk) (hp1) (htx) (hs) (ht) (hx) (by omega)
              · skip
                obtain ⟨I1298, R1299, q475_s, rfl, hR1300, hI1301, hX1302, hi1303, hi1304⟩ := q1271
                have hi1305 := (hI1301 50 (by decide)).trans hl50
                have hi1306 := (hI1301 51 (by decide)).trans hl51
                have hi1307 := (hI1301 52 (by decide)).trans hl52
                have hi1308 := (hI1301 53 (by decide)).trans hl53
                have hF_1309 := hF1.mono (cIx hI1301 (by decide)) (cRx hX1302 (by decide))
                have hY_1310 := hY1.mono (cIx hI1301 (by decide)) (cRx hX1302 (by decide))
                have hD_1311 := hD1.mono (cIx hI1301 (by decide)) (cRx hX1302 (by decide))
                have hEI1312 := hEI1.tr hI1301 (by decide)
                have hER1313 := hER1.tr hX1302 (by decide)
                show pl _ _ _ (478, [(0, .ref m0), (1, .int (nI k)), (2, .int (nI (by1 f p1))), (5, .int (nI j))], [.int 0], M1270) _
                refine ps_if (S1 := (483, [(0, .ref m0), (1, .int (nI k)), (2, .int (nI (by1 f p1))), (5, .int (nI j))], [], M1270)) (S2 := (481, [(0, .ref m0), (1, .int (nI k)), (2, .int (nI (by1 f p1))), (5, .int (nI j))], [], M1270)) rfl rfl rfl (fun c_478 => ?_) (fun c_478 => ?_)
                · exact absurd (of_decide_eq_true c_478) (by decide)
                refine ps_st (S' := (482, [(0, .ref m0), (1, .int (nI k)), (2, .int (nI (by1 f p1))), (5, .int (nI j))], [.int 0], M1270)) rfl rfl rfl ?_
                exact ps_ret rfl rfl (Or.inr ⟨(1, p1 + 1 + 2 * j), I1298, R1299, by
                    rw [← hs]
                    refine s_ents_bad (by omega) ?_
                    rw [ent_x (by omega) ht (by omega)]
                    by_cases h9 : by1 f p1 = 7 ∨ by1 f p1 = 8 ∨ by1 f p1 = 16 ∨ by1 f p1 = 19 ∨ by1 f p1 = 20
                    · have ej : j = 0 := by omega
                      subst ej
                      rw [ix_1 h9, if_pos (by omega)]
                    · rw [ix_2 (by omega)]
                      have ej : j = 0 ∨ j = 1 := by omega
                      rcases ej with rfl | rfl
                      · rw [if_pos (by omega)]
                      · rw [if_neg (by omega), if_pos (by omega)], rfl, hR1300, hEI1312, hER1313, hi1303, hi1304⟩)
          · have c_448 : ¬ ((nI (by1 f p1)) ≤ 12) := of_decide_eq_false c_448
            have n_448 : ¬ (by1 f p1 ≤ 12) := fun h9 => c_448 ((le_nI (p := by1 f p1) (n := 12) (Nat.lt_trans (by1_lt _ _) (by decide)) (by decide)).mpr h9)
            refine ps_st (S' := (452, [(0, .ref m0), (1, .int (nI k)), (2, .int (nI (by1 f p1))), (5, .int (nI j))], [.int (nI (by1 f p1)), .int (nI j)], M1)) rfl rfl rfl ?_
            refine ps_st (S' := (454, [(0, .ref m0), (1, .int (nI k)), (2, .int (nI (by1 f p1))), (5, .int (nI j))], [.int 17, .int (nI (by1 f p1)), .int (nI j)], M1)) rfl rfl rfl ?_
            refine ps_if2 (S1 := (463, [(0, .ref m0), (1, .int (nI k)), (2, .int (nI (by1 f p1))), (5, .int (nI j))], [.int (nI j)], M1)) (S2 := (457, [(0, .ref m0), (1, .int (nI k)), (2, .int (nI (by1 f p1))), (5, .int (nI j))], [.int (nI j)], M1)) rfl rfl rfl (fun c_454 => ?_) (fun c_454 => ?_)
            · have c_454 : (nI (by1 f p1)) = 17 := of_decide_eq_true c_454
              have n_454 : by1 f p1 = 17 := (eq_nI (p := by1 f p1) (n := 17) (Nat.lt_trans (by1_lt _ _) (by decide)) (by decide)).mp c_454
              refine ps_st (S' := (464, [(0, .ref m0), (1, .int (nI k)), (2, .int (nI (by1 f p1))), (5, .int (nI j))], [.int 2, .int (nI j)], M1)) rfl rfl rfl ?_
              refine ps_st (S' := (468, [(0, .ref m0), (1, .int (nI k)), (2, .int (nI (by1 f p1))), (5, .int (nI j))], [.int 2, .int (nI j)], M1)) rfl rfl rfl ?_
              refine ps_if2 (S1 := (499, [(0, .ref m0), (1, .int (nI k)), (2, .int (nI (by1 f p1)))], [], M1)) (S2 := (471, [(0, .ref m0), (1, .int (nI k)), (2, .int (nI (by1 f p1))), (5, .int (nI j))], [], M1)) rfl rfl rfl (fun c_468 => ?_) (fun c_468 => ?_)
              · have c_468 : 2 ≤ (nI j) := of_decide_eq_true c_468
                have n_468 : 2 ≤ j := (le_nI (p := 2) (n := j) (by decide) (by omega)).mp c_468
                have hE9 := hD1.no (by omega)
                exact ih.2.2.2.2 (k) (p1) (p1 + 1 + 2 * j) (E) (tx1) (cN1) (A1) M1 I1 R1 hR1 hEI1 hER1 hl50 hl51 hl52 hl53 hF1 hY1 hE9 (hk) (hp1) (htx) (hs) (ht) (by
                    by_cases h9 : by1 f p1 = 7 ∨ by1 f p1 = 8 ∨ by1 f p1 = 16 ∨ by1 f p1 = 19 ∨ by1 f p1 = 20
                    · have ej : j = 1 := by omega
                      subst ej
                      exact ⟨_, by rw [ent_x (by omega) ht (by omega), ix_1 h9, if_neg (by omega)]⟩
                    · have ej : j = 2 := by omega
                      subst ej
                      exact ⟨_, by rw [ent_x (by omega) ht (by omega), ix_2 (by omega), if_neg (by omega), if_neg (by omega)]⟩) (by omega) (by omega)
              · have c_468 : ¬ (2 ≤ (nI j)) := of_decide_eq_false c_468
                have n_468 : ¬ (2 ≤ j) := fun h9 => c_468 ((le_nI (p := 2) (n := j) (by decide) (by omega)).mpr h9)
                refine ps_st (S' := (472, [(0, .ref m0), (1, .int (nI k)), (2, .int (nI (by1 f p1))), (5, .int (nI j))], [.ref m0], M1)) rfl rfl rfl ?_
                refine ps_st (S' := (475, [(0, .ref m0), (1, .int (nI k)), (2, .int (nI (by1 f p1))), (5, .int (nI j))], [.long 2, .ref m0], M1)) rfl rfl rfl ?_
                refine pl_call (a := [.ref m0, .long 2]) (rest := []) rfl rfl rfl (rd_item (n := n) (f := f) (p := (p1 + 1 + 2 * j)) (k := 2) hR1 hl50 hF1 (by omega) (by decide)) (fun v1314 M1315 q1316 => ?_)
                rcases q1316 with q1316 | q1316
                · skip
                  obtain ⟨I1317, R1318, q475_s, rfl, hR1319, hI1320, hX1321⟩ := q1316
                  have hi1322 := (hI1320 50 (by decide)).trans hl50
                  have hi1323 := (hI1320 51 (by decide)).trans hl51
                  have hi1324 := (hI1320 52 (by decide)).trans hl52
                  have hi1325 := (hI1320 53 (by decide)).trans hl53
                  have hF_1326 := hF1.mono (cIx hI1320 (by decide)) (cRx hX1321 (by decide))
                  have hY_1327 := hY1.mono (cIx hI1320 (by decide)) (cRx hX1321 (by decide))
                  have hD_1328 := hD1.mono (cIx hI1320 (by decide)) (cRx hX1321 (by decide))
                  have hEI1329 := hEI1.tr hI1320 (by decide)
                  have hER1330 := hER1.tr hX1321 (by decide)
                  show pl _ _ _ (478, [(0, .ref m0), (1, .int (nI k)), (2, .int (nI (by1 f p1))), (5, .int (nI j))], [.int 1], M1315) _
                  refine ps_if (S1 := (483, [(0, .ref m0), (1, .int (nI k)), (2, .int (nI (by1 f p1))), (5, .int (nI j))], [], M1315)) (S2 := (481, [(0, .ref m0), (1, .int (nI k)), (2, .int (nI (by1 f p1))), (5, .int (nI j))], [], M1315)) rfl rfl rfl (fun c_478 => ?_) (fun c_478 => ?_)
                  rotate_left
                  · exact absurd (by decide) (of_decide_eq_false c_478)
                  refine ps_st (S' := (484, [(0, .ref m0), (1, .int (nI k)), (2, .int (nI (by1 f p1))), (5, .int (nI j))], [.ref m0], M1315)) rfl rfl rfl ?_
                  refine ps_st (S' := (485, [(0, .ref m0), (1, .int (nI k)), (2, .int (nI (by1 f p1))), (5, .int (nI j))], [.ref m0, .ref m0], M1315)) rfl rfl rfl ?_
                  refine pr_int (j := 50) (S' := (488, [(0, .ref m0), (1, .int (nI k)), (2, .int (nI (by1 f p1))), (5, .int (nI j))], [.int (nI (p1 + 1 + 2 * j)), .ref m0], M1315)) rfl hR1319 rfl hi1322 rfl ?_
                  refine ps_st (S' := (489, [(0, .ref m0), (1, .int (nI k)), (2, .int (nI (by1 f p1))), (5, .int (nI j))], [.int 2, .int (nI (p1 + 1 + 2 * j)), .ref m0], M1315)) rfl rfl rfl ?_
                  refine ps_st (S' := (490, [(0, .ref m0), (1, .int (nI k)), (2, .int (nI (by1 f p1))), (5, .int (nI j))], [.int ((nI (p1 + 1 + 2 * j)) + 2), .ref m0], M1315)) rfl rfl rfl ?_
                  rw [nI_add1 (p := p1 + 1 + 2 * j) (k := 2) (x := 2) rfl (by omega)]
                  show pl _ _ _ (_, [(0, .ref m0), (1, .int (nI k)), (2, .int (nI (by1 f p1))), (5, .int (nI j))], [.int (nI (p1 + 1 + 2 * j + 2)), .ref m0], M1315) _
                  refine pr_put (j := 50) rfl hR1319 rfl (fun M1331 I1332 hR1333 hi1334 hI1335 => ?_)
                  have hi1336 := (hI1335 51 (by decide)).trans hi1323
                  have hi1337 := (hI1335 52 (by decide)).trans hi1324
                  have hi1338 := (hI1335 53 (by decide)).trans hi1325
                  have hF_1339 := hF_1326.mono (pIx hI1335 (by decide)) (fun _ _ => rfl)
                  have hY_1340 := hY_1327.mono (pIx hI1335 (by decide)) (fun _ _ => rfl)
                  have hD_1341 := hD_1328.mono (pIx hI1335 (by decide)) (fun _ _ => rfl)
                  have hEI1342 := hEI1329.put hI1335 (by decide)
                  show pl _ _ _ (493, [(0, .ref m0), (1, .int (nI k)), (2, .int (nI (by1 f p1))), (5, .int (nI j))], [], M1331) _
                  refine ps_st (S' := (496, [(5, .int ((nI j) + 1)), (0, .ref m0), (1, .int (nI k)), (2, .int (nI (by1 f p1)))], [], M1331)) rfl rfl rfl ?_
                  rw [nI_add1 (p := j) (k := 1) (x := 1) rfl (by omega)]
                  show pl _ _ _ (_, [(5, .int (nI (j + 1))), (0, .ref m0), (1, .int (nI k)), (2, .int (nI (by1 f p1)))], [], M1331) _
                  refine ps_st (S' := (437, [(0, .ref m0), (1, .int (nI k)), (2, .int (nI (by1 f p1))), (5, .int (nI (j + 1)))], [], M1331)) rfl rfl rfl ?_
                  exact ih.2.2.2.1 (k) (p1) (j + 1) (E) (tx1) (cN1) (A1) M1331 I1332 R1318 hR1333 hEI1342 hER1330 hi1334 hi1336 hi1337 hi1338 hF_1339 hY_1340 hD_1341 (hk) (hp1) (htx) (hs) (ht) (hx) (by omega)
                · skip
                  obtain ⟨I1343, R1344, q475_s, rfl, hR1345, hI1346, hX1347, hi1348, hi1349⟩ := q1316
                  have hi1350 := (hI1346 50 (by decide)).trans hl50
                  have hi1351 := (hI1346 51 (by decide)).trans hl51
                  have hi1352 := (hI1346 52 (by decide)).trans hl52
                  have hi1353 := (hI1346 53 (by decide)).trans hl53
                  have hF_1354 := hF1.mono (cIx hI1346 (by decide)) (cRx hX1347 (by decide))
                  have hY_1355 := hY1.mono (cIx hI1346 (by decide)) (cRx hX1347 (by decide))
                  have hD_1356 := hD1.mono (cIx hI1346 (by decide)) (cRx hX1347 (by decide))
                  have hEI1357 := hEI1.tr hI1346 (by decide)
                  have hER1358 := hER1.tr hX1347 (by decide)
                  show pl _ _ _ (478, [(0, .ref m0), (1, .int (nI k)), (2, .int (nI (by1 f p1))), (5, .int (nI j))], [.int 0], M1315) _
                  refine ps_if (S1 := (483, [(0, .ref m0), (1, .int (nI k)), (2, .int (nI (by1 f p1))), (5, .int (nI j))], [], M1315)) (S2 := (481, [(0, .ref m0), (1, .int (nI k)), (2, .int (nI (by1 f p1))), (5, .int (nI j))], [], M1315)) rfl rfl rfl (fun c_478 => ?_) (fun c_478 => ?_)
                  · exact absurd (of_decide_eq_true c_478) (by decide)
                  refine ps_st (S' := (482, [(0, .ref m0), (1, .int (nI k)), (2, .int (nI (by1 f p1))), (5, .int (nI j))], [.int 0], M1315)) rfl rfl rfl ?_
                  exact ps_ret rfl rfl (Or.inr ⟨(1, p1 + 1 + 2 * j), I1343, R1344, by
                      rw [← hs]
                      refine s_ents_bad (by omega) ?_
                      rw [ent_x (by omega) ht (by omega)]
                      by_cases h9 : by1 f p1 = 7 ∨ by1 f p1 = 8 ∨ by1 f p1 = 16 ∨ by1 f p1 = 19 ∨ by1 f p1 = 20
                      · have ej : j = 0 := by omega
                        subst ej
                        rw [ix_1 h9, if_pos (by omega)]
                      · rw [ix_2 (by omega)]
                        have ej : j = 0 ∨ j = 1 := by omega
                        rcases ej with rfl | rfl
                        · rw [if_pos (by omega)]
                        · rw [if_neg (by omega), if_pos (by omega)], rfl, hR1345, hEI1357, hER1358, hi1348, hi1349⟩)
            · have c_454 : ¬ ((nI (by1 f p1)) = 17) := of_decide_eq_false c_454
              have n_454 : ¬ (by1 f p1 = 17) := fun h9 => c_454 ((eq_nI (p := by1 f p1) (n := 17) (Nat.lt_trans (by1_lt _ _) (by decide)) (by decide)).mpr h9)
              refine ps_st (S' := (458, [(0, .ref m0), (1, .int (nI k)), (2, .int (nI (by1 f p1))), (5, .int (nI j))], [.int (nI (by1 f p1)), .int (nI j)], M1)) rfl rfl rfl ?_
              refine ps_st (S' := (460, [(0, .ref m0), (1, .int (nI k)), (2, .int (nI (by1 f p1))), (5, .int (nI j))], [.int 18, .int (nI (by1 f p1)), .int (nI j)], M1)) rfl rfl rfl ?_
              refine ps_if2 (S1 := (467, [(0, .ref m0), (1, .int (nI k)), (2, .int (nI (by1 f p1))), (5, .int (nI j))], [.int (nI j)], M1)) (S2 := (463, [(0, .ref m0), (1, .int (nI k)), (2, .int (nI (by1 f p1))), (5, .int (nI j))], [.int (nI j)], M1)) rfl rfl rfl (fun c_460 => ?_) (fun c_460 => ?_)
              · have c_460 : ¬ (nI (by1 f p1)) = 18 := of_decide_eq_true c_460
                have n_460 : ¬ (by1 f p1 = 18) := fun h9 => c_460 ((eq_nI (p := by1 f p1) (n := 18) (Nat.lt_trans (by1_lt _ _) (by decide)) (by decide)).mpr h9)
                refine ps_st (S' := (468, [(0, .ref m0), (1, .int (nI k)), (2, .int (nI (by1 f p1))), (5, .int (nI j))], [.int 1, .int (nI j)], M1)) rfl rfl rfl ?_
                refine ps_if2 (S1 := (499, [(0, .ref m0), (1, .int (nI k)), (2, .int (nI (by1 f p1)))], [], M1)) (S2 := (471, [(0, .ref m0), (1, .int (nI k)), (2, .int (nI (by1 f p1))), (5, .int (nI j))], [], M1)) rfl rfl rfl (fun c_468 => ?_) (fun c_468 => ?_)
                · have c_468 : 1 ≤ (nI j) := of_decide_eq_true c_468
                  have n_468 : 1 ≤ j := (le_nI (p := 1) (n := j) (by decide) (by omega)).mp c_468
                  have hE9 := hD1.no (by omega)
                  exact ih.2.2.2.2 (k) (p1) (p1 + 1 + 2 * j) (E) (tx1) (cN1) (A1) M1 I1 R1 hR1 hEI1 hER1 hl50 hl51 hl52 hl53 hF1 hY1 hE9 (hk) (hp1) (htx) (hs) (ht) (by
                      by_cases h9 : by1 f p1 = 7 ∨ by1 f p1 = 8 ∨ by1 f p1 = 16 ∨ by1 f p1 = 19 ∨ by1 f p1 = 20
                      · have ej : j = 1 := by omega
                        subst ej
                        exact ⟨_, by rw [ent_x (by omega) ht (by omega), ix_1 h9, if_neg (by omega)]⟩
                      · have ej : j = 2 := by omega
                        subst ej
                        exact ⟨_, by rw [ent_x (by omega) ht (by omega), ix_2 (by omega), if_neg (by omega), if_neg (by omega)]⟩) (by omega) (by omega)
                · have c_468 : ¬ (1 ≤ (nI j)) := of_decide_eq_false c_468
                  have n_468 : ¬ (1 ≤ j) := fun h9 => c_468 ((le_nI (p := 1) (n := j) (by decide) (by omega)).mpr h9)
                  refine ps_st (S' := (472, [(0, .ref m0), (1, .int (nI k)), (2, .int (nI (by1 f p1))), (5, .int (nI j))], [.ref m0], M1)) rfl rfl rfl ?_
                  refine ps_st (S' := (475, [(0, .ref m0), (1, .int (nI k)), (2, .int (nI (by1 f p1))), (5, .int (nI j))], [.long 2, .ref m0], M1)) rfl rfl rfl ?_
                  refine pl_call (a := [.ref m0, .long 2]) (rest := []) rfl rfl rfl (rd_item (n := n) (f := f) (p := (p1 + 1 + 2 * j)) (k := 2) hR1 hl50 hF1 (by omega) (by decide)) (fun v1359 M1360 q1361 => ?_)
                  rcases q1361 with q1361 | q1361
                  · skip
                    obtain ⟨I1362, R1363, q475_s, rfl, hR1364, hI1365, hX1366⟩ := q1361
                    have hi1367 := (hI1365 50 (by decide)).trans hl50
                    have hi1368 := (hI1365 51 (by decide)).trans hl51
                    have hi1369 := (hI1365 52 (by decide)).trans hl52
                    have hi1370 := (hI1365 53 (by decide)).trans hl53
                    have hF_1371 := hF1.mono (cIx hI1365 (by decide)) (cRx hX1366 (by decide))
                    have hY_1372 := hY1.mono (cIx hI1365 (by decide)) (cRx hX1366 (by decide))
                    have hD_1373 := hD1.mono (cIx hI1365 (by decide)) (cRx hX1366 (by decide))
                    have hEI1374 := hEI1.tr hI1365 (by decide)
                    have hER1375 := hER1.tr hX1366 (by decide)
                    show pl _ _ _ (478, [(0, .ref m0), (1, .int (nI k)), (2, .int (nI (by1 f p1))), (5, .int (nI j))], [.int 1], M1360) _
                    refine ps_if (S1 := (483, [(0, .ref m0), (1, .int (nI k)), (2, .int (nI (by1 f p1))), (5, .int (nI j))], [], M1360)) (S2 := (481, [(0, .ref m0), (1, .int (nI k)), (2, .int (nI (by1 f p1))), (5, .int (nI j))], [], M1360)) rfl rfl rfl (fun c_478 => ?_) (fun c_478 => ?_)
                    rotate_left
                    · exact absurd (by decide) (of_decide_eq_false c_478)
                    refine ps_st (S' := (484, [(0, .ref m0), (1, .int (nI k)), (2, .int (nI (by1 f p1))), (5, .int (nI j))], [.ref m0], M1360)) rfl rfl rfl ?_
                    refine ps_st (S' := (485, [(0, .ref m0), (1, .int (nI k)), (2, .int (nI (by1 f p1))), (5, .int (nI j))], [.ref m0, .ref m0], M1360)) rfl rfl rfl ?_
                    refine pr_int (j := 50) (S' := (488, [(0, .ref m0), (1, .int (nI k)), (2, .int (nI (by1 f p1))), (5, .int (nI j))], [.int (nI (p1 + 1 + 2 * j)), .ref m0], M1360)) rfl hR1364 rfl hi1367 rfl ?_
                    refine ps_st (S' := (489, [(0, .ref m0), (1, .int (nI k)), (2, .int (nI (by1 f p1))), (5, .int (nI j))], [.int 2, .int (nI (p1 + 1 + 2 * j)), .ref m0], M1360)) rfl rfl rfl ?_
                    refine ps_st (S' := (490, [(0, .ref m0), (1, .int (nI k)), (2, .int (nI (by1 f p1))), (5, .int (nI j))], [.int ((nI (p1 + 1 + 2 * j)) + 2), .ref m0], M1360)) rfl rfl rfl ?_
                    rw [nI_add1 (p := p1 + 1 + 2 * j) (k := 2) (x := 2) rfl (by omega)]
                    show pl _ _ _ (_, [(0, .ref m0), (1, .int (nI k)), (2, .int (nI (by1 f p1))), (5, .int (nI j))], [.int (nI (p1 + 1 + 2 * j + 2)), .ref m0], M1360) _
                    refine pr_put (j := 50) rfl hR1364 rfl (fun M1376 I1377 hR1378 hi1379 hI1380 => ?_)
                    have hi1381 := (hI1380 51 (by decide)).trans hi1368
                    have hi1382 := (hI1380 52 (by decide)).trans hi1369
                    have hi1383 := (hI1380 53 (by decide)).trans hi1370
                    have hF_1384 := hF_1371.mono (pIx hI1380 (by decide)) (fun _ _ => rfl)
                    have hY_1385 := hY_1372.mono (pIx hI1380 (by decide)) (fun _ _ => rfl)
                    have hD_1386 := hD_1373.mono (pIx hI1380 (by decide)) (fun _ _ => rfl)
                    have hEI1387 := hEI1374.put hI1380 (by decide)
                    show pl _ _ _ (493, [(0, .ref m0), (1, .int (nI k)), (2, .int (nI (by1 f p1))), (5, .int (nI j))], [], M1376) _
                    refine ps_st (S' := (496, [(5, .int ((nI j) + 1)), (0, .ref m0), (1, .int (nI k)), (2, .int (nI (by1 f p1)))], [], M1376)) rfl rfl rfl ?_
                    rw [nI_add1 (p := j) (k := 1) (x := 1) rfl (by omega)]
                    show pl _ _ _ (_, [(5, .int (nI (j + 1))), (0, .ref m0), (1, .int (nI k)), (2, .int (nI (by1 f p1)))], [], M1376) _
                    refine ps_st (S' := (437, [(0, .ref m0), (1, .int (nI k)), (2, .int (nI (by1 f p1))), (5, .int (nI (j + 1)))], [], M1376)) rfl rfl rfl ?_
                    exact ih.2.2.2.1 (k) (p1) (j + 1) (E) (tx1) (cN1) (A1) M1376 I1377 R1363 hR1378 hEI1387 hER1375 hi1379 hi1381 hi1382 hi1383 hF_1384 hY_1385 hD_1386 (hk) (hp1) (htx) (hs) (ht) (hx) (by omega)
                  · skip
                    obtain ⟨I1388, R1389, q475_s, rfl, hR1390, hI1391, hX1392, hi1393, hi1394⟩ := q1361
                    have hi1395 := (hI1391 50 (by decide)).trans hl50
                    have hi1396 := (hI1391 51 (by decide)).trans hl51
                    have hi1397 := (hI1391 52 (by decide)).trans hl52
                    have hi1398 := (hI1391 53 (by decide)).trans hl53
                    have hF_1399 := hF1.mono (cIx hI1391 (by decide)) (cRx hX1392 (by decide))
                    have hY_1400 := hY1.mono (cIx hI1391 (by decide)) (cRx hX1392 (by decide))
                    have hD_1401 := hD1.mono (cIx hI1391 (by decide)) (cRx hX1392 (by decide))
                    have hEI1402 := hEI1.tr hI1391 (by decide)
                    have hER1403 := hER1.tr hX1392 (by decide)
                    show pl _ _ _ (478, [(0, .ref m0), (1, .int (nI k)), (2, .int (nI (by1 f p1))), (5, .int (nI j))], [.int 0], M1360) _
                    refine ps_if (S1 := (483, [(0, .ref m0), (1, .int (nI k)), (2, .int (nI (by1 f p1))), (5, .int (nI j))], [], M1360)) (S2 := (481, [(0, .ref m0), (1, .int (nI k)), (2, .int (nI (by1 f p1))), (5, .int (nI j))], [], M1360)) rfl rfl rfl (fun c_478 => ?_) (fun c_478 => ?_)
                    · exact absurd (of_decide_eq_true c_478) (by decide)
                    refine ps_st (S' := (482, [(0, .ref m0), (1, .int (nI k)), (2, .int (nI (by1 f p1))), (5, .int (nI j))], [.int 0], M1360)) rfl rfl rfl ?_
                    exact ps_ret rfl rfl (Or.inr ⟨(1, p1 + 1 + 2 * j), I1388, R1389, by
                        rw [← hs]
                        refine s_ents_bad (by omega) ?_
                        rw [ent_x (by omega) ht (by omega)]
                        by_cases h9 : by1 f p1 = 7 ∨ by1 f p1 = 8 ∨ by1 f p1 = 16 ∨ by1 f p1 = 19 ∨ by1 f p1 = 20
                        · have ej : j = 0 := by omega
                          subst ej
                          rw [ix_1 h9, if_pos (by omega)]
                        · rw [ix_2 (by omega)]
                          have ej : j = 0 ∨ j = 1 := by omega
                          rcases ej with rfl | rfl
                          · rw [if_pos (by omega)]
                          · rw [if_neg (by omega), if_pos (by omega)], rfl, hR1390, hEI1402, hER1403, hi1393, hi1394⟩)
              · have c_460 : ¬ (¬ (nI (by1 f p1)) = 18) := of_decide_eq_false c_460
                have n_460 : by1 f p1 = 18 := (eq_nI (p := by1 f p1) (n := 18) (Nat.lt_trans (by1_lt _ _) (by decide)) (by decide)).mp (Decidable.not_not.mp c_460)
                refine ps_st (S' := (464, [(0, .ref m0), (1, .int (nI k)), (2, .int (nI (by1 f p1))), (5, .int (nI j))], [.int 2, .int (nI j)], M1)) rfl rfl rfl ?_
                refine ps_st (S' := (468, [(0, .ref m0), (1, .int (nI k)), (2, .int (nI (by1 f p1))), (5, .int (nI j))], [.int 2, .int (nI j)], M1)) rfl rfl rfl ?_
                refine ps_if2 (S1 := (499, [(0, .ref m0), (1, .int (nI k)), (2, .int (nI (by1 f p1)))], [], M1)) (S2 := (471, [(0, .ref m0), (1, .int (nI k)), (2, .int (nI (by1 f p1))), (5, .int (nI j))], [], M1)) rfl rfl rfl (fun c_468 => ?_) (fun c_468 => ?_)
                · have c_468 : 2 ≤ (nI j) := of_decide_eq_true c_468
                  have n_468 : 2 ≤ j := (le_nI (p := 2) (n := j) (by decide) (by omega)).mp c_468
                  have hE9 := hD1.no (by omega)
                  exact ih.2.2.2.2 (k) (p1) (p1 + 1 + 2 * j) (E) (tx1) (cN1) (A1) M1 I1 R1 hR1 hEI1 hER1 hl50 hl51 hl52 hl53 hF1 hY1 hE9 (hk) (hp1) (htx) (hs) (ht) (by
                      by_cases h9 : by1 f p1 = 7 ∨ by1 f p1 = 8 ∨ by1 f p1 = 16 ∨ by1 f p1 = 19 ∨ by1 f p1 = 20
                      · have ej : j = 1 := by omega
                        subst ej
                        exact ⟨_, by rw [ent_x (by omega) ht (by omega), ix_1 h9, if_neg (by omega)]⟩
                      · have ej : j = 2 := by omega
                        subst ej
                        exact ⟨_, by rw [ent_x (by omega) ht (by omega), ix_2 (by omega), if_neg (by omega), if_neg (by omega)]⟩) (by omega) (by omega)
                · have c_468 : ¬ (2 ≤ (nI j)) := of_decide_eq_false c_468
                  have n_468 : ¬ (2 ≤ j) := fun h9 => c_468 ((le_nI (p := 2) (n := j) (by decide) (by omega)).mpr h9)
                  refine ps_st (S' := (472, [(0, .ref m0), (1, .int (nI k)), (2, .int (nI (by1 f p1))), (5, .int (nI j))], [.ref m0], M1)) rfl rfl rfl ?_
                  refine ps_st (S' := (475, [(0, .ref m0), (1, .int (nI k)), (2, .int (nI (by1 f p1))), (5, .int (nI j))], [.long 2, .ref m0], M1)) rfl rfl rfl ?_
                  refine pl_call (a := [.ref m0, .long 2]) (rest := []) rfl rfl rfl (rd_item (n := n) (f := f) (p := (p1 + 1 + 2 * j)) (k := 2) hR1 hl50 hF1 (by omega) (by decide)) (fun v1404 M1405 q1406 => ?_)
                  rcases q1406 with q1406 | q1406
                  · skip
                    obtain ⟨I1407, R1408, q475_s, rfl, hR1409, hI1410, hX1411⟩ := q1406
                    have hi1412 := (hI1410 50 (by decide)).trans hl50
                    have hi1413 := (hI1410 51 (by decide)).trans hl51
                    have hi1414 := (hI1410 52 (by decide)).trans hl52
                    have hi1415 := (hI1410 53 (by decide)).trans hl53
                    have hF_1416 := hF1.mono (cIx hI1410 (by decide)) (cRx hX1411 (by decide))
                    have hY_1417 := hY1.mono (cIx hI1410 (by decide)) (cRx hX1411 (by decide))
                    have hD_1418 := hD1.mono (cIx hI1410 (by decide)) (cRx hX1411 (by decide))
                    have hEI1419 := hEI1.tr hI1410 (by decide)
                    have hER1420 := hER1.tr hX1411 (by decide)
                    show pl _ _ _ (478, [(0, .ref m0), (1, .int (nI k)), (2, .int (nI (by1 f p1))), (5, .int (nI j))], [.int 1], M1405) _
                    refine ps_if (S1 := (483, [(0, .ref m0), (1, .int (nI k)), (2, .int (nI (by1 f p1))), (5, .int (nI j))], [], M1405)) (S2 := (481, [(0, .ref m0), (1, .int (nI k)), (2, .int (nI (by1 f p1))), (5, .int (nI j))], [], M1405)) rfl rfl rfl (fun c_478 => ?_) (fun c_478 => ?_)
                    rotate_left
                    · exact absurd (by decide) (of_decide_eq_false c_478)
                    refine ps_st (S' := (484, [(0, .ref m0), (1, .int (nI k)), (2, .int (nI (by1 f p1))), (5, .int (nI j))], [.ref m0], M1405)) rfl rfl rfl ?_
                    refine ps_st (S' := (485, [(0, .ref m0), (1, .int (nI k)), (2, .int (nI (by1 f p1))), (5, .int (nI j))], [.ref m0, .ref m0], M1405)) rfl rfl rfl ?_
                    refine pr_int (j := 50) (S' := (488, [(0, .ref m0), (1, .int (nI k)), (2, .int (nI (by1 f p1))), (5, .int (nI j))], [.int (nI (p1 + 1 + 2 * j)), .ref m0], M1405)) rfl hR1409 rfl hi1412 rfl ?_
                    refine ps_st (S' := (489, [(0, .ref m0), (1, .int (nI k)), (2, .int (nI (by1 f p1))), (5, .int (nI j))], [.int 2, .int (nI (p1 + 1 + 2 * j)), .ref m0], M1405)) rfl rfl rfl ?_
                    refine ps_st (S' := (490, [(0, .ref m0), (1, .int (nI k)), (2, .int (nI (by1 f p1))), (5, .int (nI j))], [.int ((nI (p1 + 1 + 2 * j)) + 2), .ref m0], M1405)) rfl rfl rfl ?_
                    rw [nI_add1 (p := p1 + 1 + 2 * j) (k := 2) (x := 2) rfl (by omega)]
                    show pl _ _ _ (_, [(0, .ref m0), (1, .int (nI k)), (2, .int (nI (by1 f p1))), (5, .int (nI j))], [.int (nI (p1 + 1 + 2 * j + 2)), .ref m0], M1405) _
                    refine pr_put (j := 50) rfl hR1409 rfl (fun M1421 I1422 hR1423 hi1424 hI1425 => ?_)
                    have hi1426 := (hI1425 51 (by decide)).trans hi1413
                    have hi1427 := (hI1425 52 (by decide)).trans hi1414
                    have hi1428 := (hI1425 53 (by decide)).trans hi1415
                    have hF_1429 := hF_1416.mono (pIx hI1425 (by decide)) (fun _ _ => rfl)
                    have hY_1430 := hY_1417.mono (pIx hI1425 (by decide)) (fun _ _ => rfl)
                    have hD_1431 := hD_1418.mono (pIx hI1425 (by decide)) (fun _ _ => rfl)
                    have hEI1432 := hEI1419.put hI1425 (by decide)
                    show pl _ _ _ (493, [(0, .ref m0), (1, .int (nI k)), (2, .int (nI (by1 f p1))), (5, .int (nI j))], [], M1421) _
                    refine ps_st (S' := (496, [(5, .int ((nI j) + 1)), (0, .ref m0), (1, .int (nI k)), (2, .int (nI (by1 f p1)))], [], M1421)) rfl rfl rfl ?_
                    rw [nI_add1 (p := j) (k := 1) (x := 1) rfl (by omega)]
                    show pl _ _ _ (_, [(5, .int (nI (j + 1))), (0, .ref m0), (1, .int (nI k)), (2, .int (nI (by1 f p1)))], [], M1421) _
                    refine ps_st (S' := (437, [(0, .ref m0), (1, .int (nI k)), (2, .int (nI (by1 f p1))), (5, .int (nI (j + 1)))], [], M1421)) rfl rfl rfl ?_
                    exact ih.2.2.2.1 (k) (p1) (j + 1) (E) (tx1) (cN1) (A1) M1421 I1422 R1408 hR1423 hEI1432 hER1420 hi1424 hi1426 hi1427 hi1428 hF_1429 hY_1430 hD_1431 (hk) (hp1) (htx) (hs) (ht) (hx) (by omega)
                  · skip
                    obtain ⟨I1433, R1434, q475_s, rfl, hR1435, hI1436, hX1437, hi1438, hi1439⟩ := q1406
                    have hi1440 := (hI1436 50 (by decide)).trans hl50
                    have hi1441 := (hI1436 51 (by decide)).trans hl51
                    have hi1442 := (hI1436 52 (by decide)).trans hl52
                    have hi1443 := (hI1436 53 (by decide)).trans hl53
                    have hF_1444 := hF1.mono (cIx hI1436 (by decide)) (cRx hX1437 (by decide))
                    have hY_1445 := hY1.mono (cIx hI1436 (by decide)) (cRx hX1437 (by decide))
                    have hD_1446 := hD1.mono (cIx hI1436 (by decide)) (cRx hX1437 (by decide))
                    have hEI1447 := hEI1.tr hI1436 (by decide)
                    have hER1448 := hER1.tr hX1437 (by decide)
                    show pl _ _ _ (478, [(0, .ref m0), (1, .int (nI k)), (2, .int (nI (by1 f p1))), (5, .int (nI j))], [.int 0], M1405) _
                    refine ps_if (S1 := (483, [(0, .ref m0), (1, .int (nI k)), (2, .int (nI (by1 f p1))), (5, .int (nI j))], [], M1405)) (S2 := (481, [(0, .ref m0), (1, .int (nI k)), (2, .int (nI (by1 f p1))), (5, .int (nI j))], [], M1405)) rfl rfl rfl (fun c_478 => ?_) (fun c_478 => ?_)
                    · exact absurd (of_decide_eq_true c_478) (by decide)
                    refine ps_st (S' := (482, [(0, .ref m0), (1, .int (nI k)), (2, .int (nI (by1 f p1))), (5, .int (nI j))], [.int 0], M1405)) rfl rfl rfl ?_
                    exact ps_ret rfl rfl (Or.inr ⟨(1, p1 + 1 + 2 * j), I1433, R1434, by
                        rw [← hs]
                        refine s_ents_bad (by omega) ?_
                        rw [ent_x (by omega) ht (by omega)]
                        by_cases h9 : by1 f p1 = 7 ∨ by1 f p1 = 8 ∨ by1 f p1 = 16 ∨ by1 f p1 = 19 ∨ by1 f p1 = 20
                        · have ej : j = 0 := by omega
                          subst ej
                          rw [ix_1 h9, if_pos (by omega)]
                        · rw [ix_2 (by omega)]
                          have ej : j = 0 ∨ j = 1 := by omega
                          rcases ej with rfl | rfl
                          · rw [if_pos (by omega)]
                          · rw [if_neg (by omega), if_pos (by omega)], rfl, hR1435, hEI1447, hER1448, hi1438, hi1439⟩)
      · skip
        intro k p1 p2 E tx1 cN1 A1 M1 I1 R1 hR1 hEI1 hER1 hl50 hl51 hl52 hl53 hF1 hY1 hE1 hk hp1 htx hs ht he hp2 hw2
        have hn := hF1.1
        have hu9 := by1_lt f p1
        obtain ⟨x9, he9⟩ := he
        refine ps_st1 (S' := (500, [(0, .ref m0), (1, .int (nI k)), (2, .int (nI (by1 f p1)))], [.int (nI (by1 f p1))], M1)) rfl rfl rfl ?_
        refine ps_st (S' := (501, [(0, .ref m0), (1, .int (nI k)), (2, .int (nI (by1 f p1)))], [.int 5, .int (nI (by1 f p1))], M1)) rfl rfl rfl ?_
        refine ps_if2 (S1 := (510, [(0, .ref m0), (1, .int (nI k))], [], M1)) (S2 := (504, [(0, .ref m0), (1, .int (nI k)), (2, .int (nI (by1 f p1)))], [], M1)) rfl rfl rfl (fun c_501 => ?_) (fun c_501 => ?_)
        · have c_501 : (nI (by1 f p1)) = 5 := of_decide_eq_true c_501
          have n_501 : by1 f p1 = 5 := (eq_nI (p := by1 f p1) (n := 5) (Nat.lt_trans (by1_lt _ _) (by decide)) (by decide)).mp c_501
          refine ps_st (S' := (513, [(1, .int ((nI k) + 1)), (0, .ref m0)], [], M1)) rfl rfl rfl ?_
          rw [nI_add1 (p := k) (k := 1) (x := 1) rfl (by omega)]
          show pl _ _ _ (_, [(1, .int (nI (k + 1))), (0, .ref m0)], [], M1) _
          refine ps_st (S' := (514, [(1, .int (nI (k + 1))), (0, .ref m0)], [.ref m0], M1)) rfl rfl rfl ?_
          refine pr_ref (j := 21) (S' := (517, [(1, .int (nI (k + 1))), (0, .ref m0)], [.ref (q 21)], M1)) rfl hR1 rfl rfl ?_
          refine ps_st (S' := (518, [(1, .int (nI (k + 1))), (0, .ref m0)], [.ref m0, .ref (q 21)], M1)) rfl rfl rfl ?_
          refine pr_int (j := 51) (S' := (521, [(1, .int (nI (k + 1))), (0, .ref m0)], [.int 0, .ref (q 21)], M1)) rfl hR1 rfl hl51 rfl ?_
          refine ps_st (S' := (522, [(1, .int (nI (k + 1))), (0, .ref m0)], [.int (nI (k + 1)), .int 0, .ref (q 21)], M1)) rfl rfl rfl ?_
          refine ps_st (S' := (523, [(1, .int (nI (k + 1))), (0, .ref m0)], [.int (0 + (nI (k + 1))), .ref (q 21)], M1)) rfl rfl rfl ?_
          rw [show (0 : Int32) + (nI (k + 1)) = (nI (k + 1)) from Int32.zero_add _]
          show pl _ _ _ (_, [(1, .int (nI (k + 1))), (0, .ref m0)], [.int (nI (k + 1)), .ref (q 21)], M1) _
          refine ps_st (S' := (524, [(1, .int (nI (k + 1))), (0, .ref m0)], [.int (-1), .int (nI (k + 1)), .ref (q 21)], M1)) rfl rfl rfl ?_
          refine pr_st (a := 21) (j := k + 1) rfl hR1 rfl (by omega) (fun M1449 R1450 i1_524 hR1451 hS1452 => ?_)
          have hF_1453 := hF1.mono (fun _ _ => rfl) (rRx hS1452 (by decide))
          have hY_1454 := hY1.mono (fun _ _ => rfl) (rRx hS1452 (by decide))
          have hER1455 := hER1.st hS1452 (by decide)
          show pl _ _ _ (525, [(0, .ref m0), (1, .int (nI (k + 1)))], [], M1449) _
          have hP_1456 := (hE1.next (by omega)).skip hS1452 (by omega)
          refine ps_st (S' := (528, [(1, .int ((nI (k + 1)) + 1)), (0, .ref m0)], [], M1449)) rfl rfl rfl ?_
          rw [nI_add1 (p := k + 1) (k := 1) (x := 1) rfl (by omega)]
          show pl _ _ _ (_, [(1, .int (nI (k + 2))), (0, .ref m0)], [], M1449) _
          refine ps_st (S' := (20, [(0, .ref m0), (1, .int (nI (k + 2)))], [], M1449)) rfl rfl rfl ?_
          exact ih.1 (k + 2) (p2) (E ++ [(k, p1)]) (tx1) (cN1) (A1) M1449 I1 R1450 hR1451 hEI1 hER1455 hl50 hl51 hl52 hl53 hF_1453 hY_1454 hP_1456 (by omega) (hp2) (htx) (by
              rw [← hs, s_ents_step (k := k) (p := p1) (E := E) (by omega) he9, if_pos (by omega)])
        · have c_501 : ¬ ((nI (by1 f p1)) = 5) := of_decide_eq_false c_501
          have n_501 : ¬ (by1 f p1 = 5) := fun h9 => c_501 ((eq_nI (p := by1 f p1) (n := 5) (Nat.lt_trans (by1_lt _ _) (by decide)) (by decide)).mpr h9)
          refine ps_st (S' := (505, [(0, .ref m0), (1, .int (nI k)), (2, .int (nI (by1 f p1)))], [.int (nI (by1 f p1))], M1)) rfl rfl rfl ?_
          refine ps_st (S' := (507, [(0, .ref m0), (1, .int (nI k)), (2, .int (nI (by1 f p1)))], [.int 6, .int (nI (by1 f p1))], M1)) rfl rfl rfl ?_
          refine ps_if2 (S1 := (525, [(0, .ref m0), (1, .int (nI k))], [], M1)) (S2 := (510, [(0, .ref m0), (1, .int (nI k))], [], M1)) rfl rfl rfl (fun c_507 => ?_) (fun c_507 => ?_)
          · have c_507 : ¬ (nI (by1 f p1)) = 6 := of_decide_eq_true c_507
            have n_507 : ¬ (by1 f p1 = 6) := fun h9 => c_507 ((eq_nI (p := by1 f p1) (n := 6) (Nat.lt_trans (by1_lt _ _) (by decide)) (by decide)).mpr h9)
            refine ps_st (S' := (528, [(1, .int ((nI k) + 1)), (0, .ref m0)], [], M1)) rfl rfl rfl ?_
            rw [nI_add1 (p := k) (k := 1) (x := 1) rfl (by omega)]
            show pl _ _ _ (_, [(1, .int (nI (k + 1))), (0, .ref m0)], [], M1) _
            refine ps_st (S' := (20, [(0, .ref m0), (1, .int (nI (k + 1)))], [], M1)) rfl rfl rfl ?_
            have hP9 := hE1.next (by omega)
            exact ih.1 (k + 1) (p2) (E ++ [(k, p1)]) (tx1) (cN1) (A1) M1 I1 R1 hR1 hEI1 hER1 hl50 hl51 hl52 hl53 hF1 hY1 hP9 (by omega) (hp2) (htx) (by
                rw [← hs, s_ents_step (k := k) (p := p1) (E := E) (by omega) he9, if_neg (by omega)])
          · have c_507 : ¬ (¬ (nI (by1 f p1)) = 6) := of_decide_eq_false c_507
            have n_507 : by1 f p1 = 6 := (eq_nI (p := by1 f p1) (n := 6) (Nat.lt_trans (by1_lt _ _) (by decide)) (by decide)).mp (Decidable.not_not.mp c_507)
            refine ps_st (S' := (513, [(1, .int ((nI k) + 1)), (0, .ref m0)], [], M1)) rfl rfl rfl ?_
            rw [nI_add1 (p := k) (k := 1) (x := 1) rfl (by omega)]
            show pl _ _ _ (_, [(1, .int (nI (k + 1))), (0, .ref m0)], [], M1) _
            refine ps_st (S' := (514, [(1, .int (nI (k + 1))), (0, .ref m0)], [.ref m0], M1)) rfl rfl rfl ?_
            refine pr_ref (j := 21) (S' := (517, [(1, .int (nI (k + 1))), (0, .ref m0)], [.ref (q 21)], M1)) rfl hR1 rfl rfl ?_
            refine ps_st (S' := (518, [(1, .int (nI (k + 1))), (0, .ref m0)], [.ref m0, .ref (q 21)], M1)) rfl rfl rfl ?_
            refine pr_int (j := 51) (S' := (521, [(1, .int (nI (k + 1))), (0, .ref m0)], [.int 0, .ref (q 21)], M1)) rfl hR1 rfl hl51 rfl ?_
            refine ps_st (S' := (522, [(1, .int (nI (k + 1))), (0, .ref m0)], [.int (nI (k + 1)), .int 0, .ref (q 21)], M1)) rfl rfl rfl ?_
            refine ps_st (S' := (523, [(1, .int (nI (k + 1))), (0, .ref m0)], [.int (0 + (nI (k + 1))), .ref (q 21)], M1)) rfl rfl rfl ?_
            rw [show (0 : Int32) + (nI (k + 1)) = (nI (k + 1)) from Int32.zero_add _]
            show pl _ _ _ (_, [(1, .int (nI (k + 1))), (0, .ref m0)], [.int (nI (k + 1)), .ref (q 21)], M1) _
            refine ps_st (S' := (524, [(1, .int (nI (k + 1))), (0, .ref m0)], [.int (-1), .int (nI (k + 1)), .ref (q 21)], M1)) rfl rfl rfl ?_
            refine pr_st (a := 21) (j := k + 1) rfl hR1 rfl (by omega) (fun M1457 R1458 i1_524 hR1459 hS1460 => ?_)
            have hF_1461 := hF1.mono (fun _ _ => rfl) (rRx hS1460 (by decide))
            have hY_1462 := hY1.mono (fun _ _ => rfl) (rRx hS1460 (by decide))
            have hER1463 := hER1.st hS1460 (by decide)
            show pl _ _ _ (525, [(0, .ref m0), (1, .int (nI (k + 1)))], [], M1457) _
            have hP_1464 := (hE1.next (by omega)).skip hS1460 (by omega)
            refine ps_st (S' := (528, [(1, .int ((nI (k + 1)) + 1)), (0, .ref m0)], [], M1457)) rfl rfl rfl ?_
            rw [nI_add1 (p := k + 1) (k := 1) (x := 1) rfl (by omega)]
            show pl _ _ _ (_, [(1, .int (nI (k + 2))), (0, .ref m0)], [], M1457) _
            refine ps_st (S' := (20, [(0, .ref m0), (1, .int (nI (k + 2)))], [], M1457)) rfl rfl rfl ?_
            exact ih.1 (k + 2) (p2) (E ++ [(k, p1)]) (tx1) (cN1) (A1) M1457 I1 R1458 hR1459 hEI1 hER1463 hl50 hl51 hl52 hl53 hF_1461 hY_1462 hP_1464 (by omega) (hp2) (htx) (by
                rw [← hs, s_ents_step (k := k) (p := p1) (E := E) (by omega) he9, if_pos (by omega)])
  refine ps_st (S' := (1, [(0, .ref m0)], [.ref m0], M)) rfl rfl rfl ?_
  refine ps_st (S' := (2, [(0, .ref m0)], [.ref m0, .ref m0], M)) rfl rfl rfl ?_
  refine pr_int (j := 20) (S' := (5, [(0, .ref m0)], [.int 0, .ref m0], M)) rfl hR rfl hi20 rfl ?_
  refine pr_put (j := 51) rfl hR rfl (fun M1465 I1466 hR1467 hi1468 hI1469 => ?_)
  have hi1470 := (hI1469 20 (by decide)).trans hi20
  have hi1471 := (hI1469 50 (by decide)).trans hi50
  have hi1472 := (hI1469 52 (by decide)).trans hi52
  have hi1473 := (hI1469 53 (by decide)).trans hi53
  have hF_1474 := hF.mono (pIx hI1469 (by decide)) (fun _ _ => rfl)
  have hY_1475 := hY.mono (pIx hI1469 (by decide)) (fun _ _ => rfl)
  have hEI1476 := hEI.put hI1469 (by decide)
  show pl _ _ _ (8, [(0, .ref m0)], [], M1465) _
  refine ps_st (S' := (9, [(0, .ref m0)], [.ref m0], M1465)) rfl rfl rfl ?_
  refine pr_ref (j := 21) (S' := (12, [(0, .ref m0)], [.ref (q 21)], M1465)) rfl hR1467 rfl rfl ?_
  refine ps_st (S' := (13, [(0, .ref m0)], [.ref m0, .ref (q 21)], M1465)) rfl rfl rfl ?_
  refine pr_int (j := 51) (S' := (16, [(0, .ref m0)], [.int 0, .ref (q 21)], M1465)) rfl hR1467 rfl hi1468 rfl ?_
  refine ps_st (S' := (17, [(0, .ref m0)], [.int (-1), .int 0, .ref (q 21)], M1465)) rfl rfl rfl ?_
  refine pr_st (a := 21) (j := 0) rfl hR1467 rfl (by omega) (fun M1477 R1478 i1_17 hR1479 hS1480 => ?_)
  have hF_1481 := hF_1474.mono (fun _ _ => rfl) (rRx hS1480 (by decide))
  have hY_1482 := hY_1475.mono (fun _ _ => rfl) (rRx hS1480 (by decide))
  have hER1483 := hER.st hS1480 (by decide)
  show pl _ _ _ (18, [(0, .ref m0)], [], M1477) _
  refine ps_st (S' := (19, [(0, .ref m0)], [.int 1], M1477)) rfl rfl rfl ?_
  refine ps_st (S' := (20, [(0, .ref m0), (1, .int 1)], [], M1477)) rfl rfl rfl ?_
  have hP9 : RPV f n [] tx 1 I1466 R1478 := RPV.one (by rw [hS1480, rset_at])
  exact (LL kf).1 (1) (10) ([]) (tx) (cN) (A) M1477 I1466 R1478 hR1479 hEI1476 hER1483 hi1471 hi1468 hi1472 hi1473 hF_1481 hY_1482 hP9 (by omega) (h10) (⟨Nat.le_refl _, fun s _ => rfl⟩) (rfl)
