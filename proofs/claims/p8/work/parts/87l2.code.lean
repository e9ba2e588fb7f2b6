section
/-! the Code attribute as the reference checks it (laid by wip/p4/e12.py) -/

theorem cdE_of {f : Nat → Int32} {e p : Nat} : s_cdE f e (p + 6) = if e < p + 14 then none else if e < p + 14 + by4 f (p + 10) then none else if e < p + 14 + by4 f (p + 10) + 2 + 8 * by2 f (p + 14 + by4 f (p + 10)) + 2 then none else
    s_atE f e (by2 f (p + 14 + by4 f (p + 10) + 2 + 8 * by2 f (p + 14 + by4 f (p + 10)))) (p + 14 + by4 f (p + 10) + 2 + 8 * by2 f (p + 14 + by4 f (p + 10)) + 2) := rfl
set_option maxHeartbeats 8000000 in
theorem rd_code {g : xe_G} {m0 : Nat} {q : Nat → Nat} {z : Nat × Nat} {I : rI} {R : rR} {M : mi_H} {n : Nat} {f : Nat → Int32} {tx : List (List Nat)} {cN : Nat} {A : Nat → Nat} {N mj : Nat} {E : List (Nat × Nat)} {p e x w fl ds : Nat} {l : List Nat} {t : Int32} (hR : RS g m0 q z I R M) (hi51 : I 51 = some 0) (hi52 : I 52 = some (nI N)) (hi53 : I 53 = some (nI mj)) (hF : FK n f I R) (hY : SYT tx cN A I R) (hP : RPV f n E tx N I R) (hK : KX I R) (hEP : EP f n E) (hN : N < 65536) (hmj : mj < 65536) (he : p + 6 ≤ e ∧ e ≤ n) (hx : x < 8300) (hfl : R 34 x = some (nI fl)) (hds : R 36 x = some (nI ds)) (hdt : ds < tx.length ∧ tx.getD ds [] = l) (hmt : ¬ mthN l = 0) (hf6 : fl < 65536) (hw : w = argN l + (if aN fl 8 = 0 then 1 else 0)) : pt (mT g) 196 [.ref m0, .int t, .int (nI (p + 6)), .int (nI e), .int (nI x)] M (fun v M' => (∃  (I' : rI) (R' : rR), (¬ s_cdE f e (p + 6) = some e) ∧ v = some (.int 30) ∧ RS g m0 q z I' R' M' ∧ eqI [47, 48] I I' ∧ eqR [37, 38, 39, 40, 41, 42] R R') ∨ (∃ (r : Nat) (I' : rI) (R' : rR), (s_cdE f e (p + 6) = some e) ∧ (cdS f n E mj w p 0 = .inl (r, p)) ∧ (41 ≤ r ∧ r ≤ 43) ∧ v = some (.int (nI r)) ∧ RS g m0 q z I' R' M' ∧ eqI [47, 48] I I' ∧ eqR [37, 38, 39, 40, 41, 42] R R') ∨ (∃ (e9 : Nat × Nat) (I' : rI) (R' : rR), (s_cdE f e (p + 6) = some e) ∧ (cdS f n E mj w p 0 = .inl e9) ∧ v = some (.int (-1)) ∧ RS g m0 q z I' R' M' ∧ eqI [47, 48] I I' ∧ eqR [37, 38, 39, 40, 41, 42] R R' ∧ I' 47 = some (nI e9.1) ∧ I' 48 = some (nI e9.2)) ∨ (∃ (s' : Nat) (I' : rI) (R' : rR), (s_cdE f e (p + 6) = some e) ∧ (cdS f n E mj w p 0 = .inr s') ∧ (R' 37 x = some (nI (p + 14))) ∧ v = some (.int 0) ∧ RS g m0 q z I' R' M' ∧ eqI [47, 48] I I' ∧ eqR [37, 38, 39, 40, 41, 42] R R')) := by
  refine pt_in (b := mb_196 g) rfl (fun kf => ?_)
  show pl (mT g) kf (mb_196 g).2 (0, [(0, .ref m0), (1, .int t), (2, .int (nI (p + 6))), (3, .int (nI e)), (4, .int (nI x))], [], M) _
  have hEI : eqI [47, 48] I I := eqI.rf
  have hER : eqR [37, 38, 39, 40, 41, 42] R R := eqR.rf
  have hn := hF.1
  have hwl : w < 2000 := by rw [hw]; have := argN_lt l; split <;> omega
  have LL : ∀ (kf : Nat), (∀ (i y : Nat) (M1 : mi_H) (I1 : rI) (R1 : rR), (RS g m0 q z I1 R1 M1) → (eqI [47, 48] I I1) → (eqR [37, 38, 39, 40, 41, 42] R R1) → (I1 51 = some 0) → (I1 52 = some (nI N)) → (I1 53 = some (nI mj)) → (FK n f I1 R1) → (SYT tx cN A I1 R1) → (RPV f n E tx N I1 R1) → (KX I1 R1) → ((R1 34 x = some (nI fl)) ∧ (R1 36 x = some (nI ds))) → (p + 14 + by4 f (p + 10) + 2 + 8 * by2 f (p + 14 + by4 f (p + 10)) + 2 ≤ e) → (i ≤ by2 f (p + 14 + by4 f (p + 10) + 2 + 8 * by2 f (p + 14 + by4 f (p + 10)))) → (y ≤ e) → (s_atE f e (by2 f (p + 14 + by4 f (p + 10) + 2 + 8 * by2 f (p + 14 + by4 f (p + 10))) - i) y = s_atE f e (by2 f (p + 14 + by4 f (p + 10) + 2 + 8 * by2 f (p + 14 + by4 f (p + 10)))) (p + 14 + by4 f (p + 10) + 2 + 8 * by2 f (p + 14 + by4 f (p + 10)) + 2)) →  pl (mT g) kf (mb_196 g).2 (110, [(0, .ref m0), (2, .int (nI (p + 6))), (3, .int (nI e)), (4, .int (nI x)), (5, .long (nL (by4 f (p + 10)))), (7, .int (nI y)), (8, .int (nI (by2 f (p + 14 + by4 f (p + 10))))), (9, .int (nI (p + 14 + by4 f (p + 10) + 2))), (10, .int (nI (p + 14 + by4 f (p + 10) + 2 + 8 * by2 f (p + 14 + by4 f (p + 10))))), (11, .int (nI (by2 f (p + 14 + by4 f (p + 10) + 2 + 8 * by2 f (p + 14 + by4 f (p + 10)))))), (12, .int (nI i))], [], M1) (fun v M' => (∃  (I' : rI) (R' : rR), (¬ s_cdE f e (p + 6) = some e) ∧ v = some (.int 30) ∧ RS g m0 q z I' R' M' ∧ eqI [47, 48] I I' ∧ eqR [37, 38, 39, 40, 41, 42] R R') ∨ (∃ (r : Nat) (I' : rI) (R' : rR), (s_cdE f e (p + 6) = some e) ∧ (cdS f n E mj w p 0 = .inl (r, p)) ∧ (41 ≤ r ∧ r ≤ 43) ∧ v = some (.int (nI r)) ∧ RS g m0 q z I' R' M' ∧ eqI [47, 48] I I' ∧ eqR [37, 38, 39, 40, 41, 42] R R') ∨ (∃ (e9 : Nat × Nat) (I' : rI) (R' : rR), (s_cdE f e (p + 6) = some e) ∧ (cdS f n E mj w p 0 = .inl e9) ∧ v = some (.int (-1)) ∧ RS g m0 q z I' R' M' ∧ eqI [47, 48] I I' ∧ eqR [37, 38, 39, 40, 41, 42] R R' ∧ I' 47 = some (nI e9.1) ∧ I' 48 = some (nI e9.2)) ∨ (∃ (s' : Nat) (I' : rI) (R' : rR), (s_cdE f e (p + 6) = some e) ∧ (cdS f n E mj w p 0 = .inr s') ∧ (R' 37 x = some (nI (p + 14))) ∧ v = some (.int 0) ∧ RS g m0 q z I' R' M' ∧ eqI [47, 48] I I' ∧ eqR [37, 38, 39, 40, 41, 42] R R'))) ∧ (∀ (i : Nat) (M1 : mi_H) (I1 : rI) (R1 : rR), (RS g m0 q z I1 R1 M1) → (eqI [47, 48] I I1) → (eqR [37, 38, 39, 40, 41, 42] R R1) → (I1 51 = some 0) → (I1 52 = some (nI N)) → (I1 53 = some (nI mj)) → (FK n f I1 R1) → (SYT tx cN A I1 R1) → (RPV f n E tx N I1 R1) → (KX I1 R1) → ((R1 34 x = some (nI fl)) ∧ (R1 36 x = some (nI ds))) → (p + 14 + by4 f (p + 10) + 2 + 8 * by2 f (p + 14 + by4 f (p + 10)) + 2 ≤ e) → (s_cdE f e (p + 6) = some e) → (¬ (by4 f (p + 10) < 1 ∨ 65535 < by4 f (p + 10))) → (¬ by2 f (p + 8) < w) → (i ≤ by2 f (p + 14 + by4 f (p + 10))) → (rwA f E (by4 f (p + 10)) (p + 14 + by4 f (p + 10) + 2) (by2 f (p + 14 + by4 f (p + 10)) - i) i = rwA f E (by4 f (p + 10)) (p + 14 + by4 f (p + 10) + 2) (by2 f (p + 14 + by4 f (p + 10))) 0) →  pl (mT g) kf (mb_196 g).2 (250, [(0, .ref m0), (2, .int (nI (p + 6))), (4, .int (nI x)), (5, .long (nL (by4 f (p + 10)))), (8, .int (nI (by2 f (p + 14 + by4 f (p + 10))))), (9, .int (nI (p + 14 + by4 f (p + 10) + 2))), (10, .int (nI (p + 14 + by4 f (p + 10) + 2 + 8 * by2 f (p + 14 + by4 f (p + 10))))), (13, .int (nI i))], [], M1) (fun v M' => (∃  (I' : rI) (R' : rR), (¬ s_cdE f e (p + 6) = some e) ∧ v = some (.int 30) ∧ RS g m0 q z I' R' M' ∧ eqI [47, 48] I I' ∧ eqR [37, 38, 39, 40, 41, 42] R R') ∨ (∃ (r : Nat) (I' : rI) (R' : rR), (s_cdE f e (p + 6) = some e) ∧ (cdS f n E mj w p 0 = .inl (r, p)) ∧ (41 ≤ r ∧ r ≤ 43) ∧ v = some (.int (nI r)) ∧ RS g m0 q z I' R' M' ∧ eqI [47, 48] I I' ∧ eqR [37, 38, 39, 40, 41, 42] R R') ∨ (∃ (e9 : Nat × Nat) (I' : rI) (R' : rR), (s_cdE f e (p + 6) = some e) ∧ (cdS f n E mj w p 0 = .inl e9) ∧ v = some (.int (-1)) ∧ RS g m0 q z I' R' M' ∧ eqI [47, 48] I I' ∧ eqR [37, 38, 39, 40, 41, 42] R R' ∧ I' 47 = some (nI e9.1) ∧ I' 48 = some (nI e9.2)) ∨ (∃ (s' : Nat) (I' : rI) (R' : rR), (s_cdE f e (p + 6) = some e) ∧ (cdS f n E mj w p 0 = .inr s') ∧ (R' 37 x = some (nI (p + 14))) ∧ v = some (.int 0) ∧ RS g m0 q z I' R' M' ∧ eqI [47, 48] I I' ∧ eqR [37, 38, 39, 40, 41, 42] R R'))) := by
    intro kf
    induction kf with
    | zero => exact ⟨by intros; exact pl_0, by intros; exact pl_0⟩
    | succ kf ih =>
      refine ⟨?_, ?_⟩
      · skip
        intro i y M1 I1 R1 hR1 hEI1 hER1 hl51 hl52 hl53 hF1 hY1 hP1 hK1 hr hb hi hy hg
        have hn := hF1.1
        have hu9 := by2_lt f (p + 14 + by4 f (p + 10))
        have hu8 := by2_lt f (p + 14 + by4 f (p + 10) + 2 + 8 * by2 f (p + 14 + by4 f (p + 10)))
        have htl := hY1.1.2.2.1
        refine ps_st1 (S' := (112, [(0, .ref m0), (2, .int (nI (p + 6))), (3, .int (nI e)), (4, .int (nI x)), (5, .long (nL (by4 f (p + 10)))), (7, .int (nI y)), (8, .int (nI (by2 f (p + 14 + by4 f (p + 10))))), (9, .int (nI (p + 14 + by4 f (p + 10) + 2))), (10, .int (nI (p + 14 + by4 f (p + 10) + 2 + 8 * by2 f (p + 14 + by4 f (p + 10))))), (11, .int (nI (by2 f (p + 14 + by4 f (p + 10) + 2 + 8 * by2 f (p + 14 + by4 f (p + 10)))))), (12, .int (nI i))], [.int (nI i)], M1)) rfl rfl rfl ?_
        refine ps_st (S' := (114, [(0, .ref m0), (2, .int (nI (p + 6))), (3, .int (nI e)), (4, .int (nI x)), (5, .long (nL (by4 f (p + 10)))), (7, .int (nI y)), (8, .int (nI (by2 f (p + 14 + by4 f (p + 10))))), (9, .int (nI (p + 14 + by4 f (p + 10) + 2))), (10, .int (nI (p + 14 + by4 f (p + 10) + 2 + 8 * by2 f (p + 14 + by4 f (p + 10))))), (11, .int (nI (by2 f (p + 14 + by4 f (p + 10) + 2 + 8 * by2 f (p + 14 + by4 f (p + 10)))))), (12, .int (nI i))], [.int (nI (by2 f (p + 14 + by4 f (p + 10) + 2 + 8 * by2 f (p + 14 + by4 f (p + 10))))), .int (nI i)], M1)) rfl rfl rfl ?_
        refine ps_if2 (S1 := (172, [(0, .ref m0), (2, .int (nI (p + 6))), (3, .int (nI e)), (4, .int (nI x)), (5, .long (nL (by4 f (p + 10)))), (7, .int (nI y)), (8, .int (nI (by2 f (p + 14 + by4 f (p + 10))))), (9, .int (nI (p + 14 + by4 f (p + 10) + 2))), (10, .int (nI (p + 14 + by4 f (p + 10) + 2 + 8 * by2 f (p + 14 + by4 f (p + 10))))), (11, .int (nI (by2 f (p + 14 + by4 f (p + 10) + 2 + 8 * by2 f (p + 14 + by4 f (p + 10)))))), (12, .int (nI i))], [], M1)) (S2 := (117, [(0, .ref m0), (2, .int (nI (p + 6))), (3, .int (nI e)), (4, .int (nI x)), (5, .long (nL (by4 f (p + 10)))), (7, .int (nI y)), (8, .int (nI (by2 f (p + 14 + by4 f (p + 10))))), (9, .int (nI (p + 14 + by4 f (p + 10) + 2))), (10, .int (nI (p + 14 + by4 f (p + 10) + 2 + 8 * by2 f (p + 14 + by4 f (p + 10))))), (11, .int (nI (by2 f (p + 14 + by4 f (p + 10) + 2 + 8 * by2 f (p + 14 + by4 f (p + 10)))))), (12, .int (nI i))], [], M1)) rfl rfl rfl (fun c_114 => ?_) (fun c_114 => ?_)
        · have c_114 : (nI (by2 f (p + 14 + by4 f (p + 10) + 2 + 8 * by2 f (p + 14 + by4 f (p + 10))))) ≤ (nI i) := of_decide_eq_true c_114
          have n_114 : by2 f (p + 14 + by4 f (p + 10) + 2 + 8 * by2 f (p + 14 + by4 f (p + 10))) ≤ i := (le_nI (p := by2 f (p + 14 + by4 f (p + 10) + 2 + 8 * by2 f (p + 14 + by4 f (p + 10)))) (n := i) (Nat.lt_trans (by2_lt _ _) (by decide)) (by omega)).mp c_114
          refine ps_st (S' := (174, [(0, .ref m0), (2, .int (nI (p + 6))), (3, .int (nI e)), (4, .int (nI x)), (5, .long (nL (by4 f (p + 10)))), (7, .int (nI y)), (8, .int (nI (by2 f (p + 14 + by4 f (p + 10))))), (9, .int (nI (p + 14 + by4 f (p + 10) + 2))), (10, .int (nI (p + 14 + by4 f (p + 10) + 2 + 8 * by2 f (p + 14 + by4 f (p + 10))))), (11, .int (nI (by2 f (p + 14 + by4 f (p + 10) + 2 + 8 * by2 f (p + 14 + by4 f (p + 10)))))), (12, .int (nI i))], [.int (nI y)], M1)) rfl rfl rfl ?_
          refine ps_st (S' := (175, [(0, .ref m0), (2, .int (nI (p + 6))), (3, .int (nI e)), (4, .int (nI x)), (5, .long (nL (by4 f (p + 10)))), (7, .int (nI y)), (8, .int (nI (by2 f (p + 14 + by4 f (p + 10))))), (9, .int (nI (p + 14 + by4 f (p + 10) + 2))), (10, .int (nI (p + 14 + by4 f (p + 10) + 2 + 8 * by2 f (p + 14 + by4 f (p + 10))))), (11, .int (nI (by2 f (p + 14 + by4 f (p + 10) + 2 + 8 * by2 f (p + 14 + by4 f (p + 10)))))), (12, .int (nI i))], [.int (nI e), .int (nI y)], M1)) rfl rfl rfl ?_
          refine ps_if2 (S1 := (181, [(0, .ref m0), (2, .int (nI (p + 6))), (3, .int (nI e)), (4, .int (nI x)), (5, .long (nL (by4 f (p + 10)))), (7, .int (nI y)), (8, .int (nI (by2 f (p + 14 + by4 f (p + 10))))), (9, .int (nI (p + 14 + by4 f (p + 10) + 2))), (10, .int (nI (p + 14 + by4 f (p + 10) + 2 + 8 * by2 f (p + 14 + by4 f (p + 10))))), (11, .int (nI (by2 f (p + 14 + by4 f (p + 10) + 2 + 8 * by2 f (p + 14 + by4 f (p + 10)))))), (12, .int (nI i))], [], M1)) (S2 := (178, [(0, .ref m0), (2, .int (nI (p + 6))), (3, .int (nI e)), (4, .int (nI x)), (5, .long (nL (by4 f (p + 10)))), (7, .int (nI y)), (8, .int (nI (by2 f (p + 14 + by4 f (p + 10))))), (9, .int (nI (p + 14 + by4 f (p + 10) + 2))), (10, .int (nI (p + 14 + by4 f (p + 10) + 2 + 8 * by2 f (p + 14 + by4 f (p + 10))))), (11, .int (nI (by2 f (p + 14 + by4 f (p + 10) + 2 + 8 * by2 f (p + 14 + by4 f (p + 10)))))), (12, .int (nI i))], [], M1)) rfl rfl rfl (fun c_175 => ?_) (fun c_175 => ?_)
          · have c_175 : (nI y) = (nI e) := of_decide_eq_true c_175
            have n_175 : y = e := (eq_nI (p := y) (n := e) (by omega) (by omega)).mp c_175
            have hce : s_cdE f e (p + 6) = some e := by
              rw [cdE_of, if_neg (by omega), if_neg (by omega), if_neg (by omega), ← hg, show by2 f (p + 14 + by4 f (p + 10) + 2 + 8 * by2 f (p + 14 + by4 f (p + 10))) - i = 0 by omega, show y = e by omega]
              rfl
            refine ps_st (S' := (183, [(0, .ref m0), (2, .int (nI (p + 6))), (3, .int (nI e)), (4, .int (nI x)), (5, .long (nL (by4 f (p + 10)))), (7, .int (nI y)), (8, .int (nI (by2 f (p + 14 + by4 f (p + 10))))), (9, .int (nI (p + 14 + by4 f (p + 10) + 2))), (10, .int (nI (p + 14 + by4 f (p + 10) + 2 + 8 * by2 f (p + 14 + by4 f (p + 10))))), (11, .int (nI (by2 f (p + 14 + by4 f (p + 10) + 2 + 8 * by2 f (p + 14 + by4 f (p + 10)))))), (12, .int (nI i))], [.long (nL (by4 f (p + 10)))], M1)) rfl rfl rfl ?_
            refine ps_st (S' := (184, [(0, .ref m0), (2, .int (nI (p + 6))), (3, .int (nI e)), (4, .int (nI x)), (5, .long (nL (by4 f (p + 10)))), (7, .int (nI y)), (8, .int (nI (by2 f (p + 14 + by4 f (p + 10))))), (9, .int (nI (p + 14 + by4 f (p + 10) + 2))), (10, .int (nI (p + 14 + by4 f (p + 10) + 2 + 8 * by2 f (p + 14 + by4 f (p + 10))))), (11, .int (nI (by2 f (p + 14 + by4 f (p + 10) + 2 + 8 * by2 f (p + 14 + by4 f (p + 10)))))), (12, .int (nI i))], [.long 0, .long (nL (by4 f (p + 10)))], M1)) rfl rfl rfl ?_
            refine ps_st (S' := (185, [(0, .ref m0), (2, .int (nI (p + 6))), (3, .int (nI e)), (4, .int (nI x)), (5, .long (nL (by4 f (p + 10)))), (7, .int (nI y)), (8, .int (nI (by2 f (p + 14 + by4 f (p + 10))))), (9, .int (nI (p + 14 + by4 f (p + 10) + 2))), (10, .int (nI (p + 14 + by4 f (p + 10) + 2 + 8 * by2 f (p + 14 + by4 f (p + 10))))), (11, .int (nI (by2 f (p + 14 + by4 f (p + 10) + 2 + 8 * by2 f (p + 14 + by4 f (p + 10)))))), (12, .int (nI i))], [.int (lg_cmp (nL (by4 f (p + 10))) 0)], M1)) rfl rfl rfl ?_
            refine ps_if (S1 := (197, [], [], M1)) (S2 := (188, [(0, .ref m0), (2, .int (nI (p + 6))), (3, .int (nI e)), (4, .int (nI x)), (5, .long (nL (by4 f (p + 10)))), (7, .int (nI y)), (8, .int (nI (by2 f (p + 14 + by4 f (p + 10))))), (9, .int (nI (p + 14 + by4 f (p + 10) + 2))), (10, .int (nI (p + 14 + by4 f (p + 10) + 2 + 8 * by2 f (p + 14 + by4 f (p + 10))))), (11, .int (nI (by2 f (p + 14 + by4 f (p + 10) + 2 + 8 * by2 f (p + 14 + by4 f (p + 10)))))), (12, .int (nI i))], [], M1)) rfl rfl rfl (fun c_185 => ?_) (fun c_185 => ?_)
            · have n_185 : by4 f (p + 10) = 0 := (cL_eq (p := by4 f (p + 10)) (k := 0) (x := (nL (by4 f (p + 10)))) (y := 0) rfl rfl (by omega) (by omega)).mp (of_decide_eq_true c_185)
              refine ps_st (S' := (199, [], [.int 41], M1)) rfl rfl rfl ?_
              exact ps_ret rfl rfl (Or.inr (Or.inl ⟨41, I1, R1, hce, by
                  unfold cdS
                  rw [if_pos (by omega)], by decide, rfl, hR1, hEI1, hER1⟩))
            · have n_185 : ¬ (by4 f (p + 10) = 0) := fun h9 => of_decide_eq_false c_185 ((cL_eq (p := by4 f (p + 10)) (k := 0) (x := (nL (by4 f (p + 10)))) (y := 0) rfl rfl (by omega) (by omega)).mpr h9)
              refine ps_st (S' := (190, [(0, .ref m0), (2, .int (nI (p + 6))), (3, .int (nI e)), (4, .int (nI x)), (5, .long (nL (by4 f (p + 10)))), (7, .int (nI y)), (8, .int (nI (by2 f (p + 14 + by4 f (p + 10))))), (9, .int (nI (p + 14 + by4 f (p + 10) + 2))), (10, .int (nI (p + 14 + by4 f (p + 10) + 2 + 8 * by2 f (p + 14 + by4 f (p + 10))))), (11, .int (nI (by2 f (p + 14 + by4 f (p + 10) + 2 + 8 * by2 f (p + 14 + by4 f (p + 10)))))), (12, .int (nI i))], [.long (nL (by4 f (p + 10)))], M1)) rfl rfl rfl ?_
              refine ps_st (S' := (193, [(0, .ref m0), (2, .int (nI (p + 6))), (3, .int (nI e)), (4, .int (nI x)), (5, .long (nL (by4 f (p + 10)))), (7, .int (nI y)), (8, .int (nI (by2 f (p + 14 + by4 f (p + 10))))), (9, .int (nI (p + 14 + by4 f (p + 10) + 2))), (10, .int (nI (p + 14 + by4 f (p + 10) + 2 + 8 * by2 f (p + 14 + by4 f (p + 10))))), (11, .int (nI (by2 f (p + 14 + by4 f (p + 10) + 2 + 8 * by2 f (p + 14 + by4 f (p + 10)))))), (12, .int (nI i))], [.long 65535, .long (nL (by4 f (p + 10)))], M1)) rfl rfl rfl ?_
              refine ps_st (S' := (194, [(0, .ref m0), (2, .int (nI (p + 6))), (3, .int (nI e)), (4, .int (nI x)), (5, .long (nL (by4 f (p + 10)))), (7, .int (nI y)), (8, .int (nI (by2 f (p + 14 + by4 f (p + 10))))), (9, .int (nI (p + 14 + by4 f (p + 10) + 2))), (10, .int (nI (p + 14 + by4 f (p + 10) + 2 + 8 * by2 f (p + 14 + by4 f (p + 10))))), (11, .int (nI (by2 f (p + 14 + by4 f (p + 10) + 2 + 8 * by2 f (p + 14 + by4 f (p + 10)))))), (12, .int (nI i))], [.int (lg_cmp (nL (by4 f (p + 10))) 65535)], M1)) rfl rfl rfl ?_
              refine ps_if (S1 := (200, [(0, .ref m0), (2, .int (nI (p + 6))), (3, .int (nI e)), (4, .int (nI x)), (5, .long (nL (by4 f (p + 10)))), (7, .int (nI y)), (8, .int (nI (by2 f (p + 14 + by4 f (p + 10))))), (9, .int (nI (p + 14 + by4 f (p + 10) + 2))), (10, .int (nI (p + 14 + by4 f (p + 10) + 2 + 8 * by2 f (p + 14 + by4 f (p + 10))))), (11, .int (nI (by2 f (p + 14 + by4 f (p + 10) + 2 + 8 * by2 f (p + 14 + by4 f (p + 10)))))), (12, .int (nI i))], [], M1)) (S2 := (197, [], [], M1)) rfl rfl rfl (fun c_194 => ?_) (fun c_194 => ?_)
              · have n_194 : by4 f (p + 10) ≤ 65535 := (cL_le (p := by4 f (p + 10)) (k := 65535) (x := (nL (by4 f (p + 10)))) (y := 65535) rfl rfl (by omega) (by omega)).mp (of_decide_eq_true c_194)
                refine ps_st (S' := (201, [(0, .ref m0), (2, .int (nI (p + 6))), (3, .int (nI e)), (4, .int (nI x)), (5, .long (nL (by4 f (p + 10)))), (7, .int (nI y)), (8, .int (nI (by2 f (p + 14 + by4 f (p + 10))))), (9, .int (nI (p + 14 + by4 f (p + 10) + 2))), (10, .int (nI (p + 14 + by4 f (p + 10) + 2 + 8 * by2 f (p + 14 + by4 f (p + 10))))), (11, .int (nI (by2 f (p + 14 + by4 f (p + 10) + 2 + 8 * by2 f (p + 14 + by4 f (p + 10)))))), (12, .int (nI i))], [.ref m0], M1)) rfl rfl rfl ?_
                refine ps_st (S' := (202, [(0, .ref m0), (2, .int (nI (p + 6))), (3, .int (nI e)), (4, .int (nI x)), (5, .long (nL (by4 f (p + 10)))), (7, .int (nI y)), (8, .int (nI (by2 f (p + 14 + by4 f (p + 10))))), (9, .int (nI (p + 14 + by4 f (p + 10) + 2))), (10, .int (nI (p + 14 + by4 f (p + 10) + 2 + 8 * by2 f (p + 14 + by4 f (p + 10))))), (11, .int (nI (by2 f (p + 14 + by4 f (p + 10) + 2 + 8 * by2 f (p + 14 + by4 f (p + 10)))))), (12, .int (nI i))], [.ref m0, .ref m0], M1)) rfl rfl rfl ?_
                refine pr_ref (j := 36) (S' := (205, [(0, .ref m0), (2, .int (nI (p + 6))), (3, .int (nI e)), (4, .int (nI x)), (5, .long (nL (by4 f (p + 10)))), (7, .int (nI y)), (8, .int (nI (by2 f (p + 14 + by4 f (p + 10))))), (9, .int (nI (p + 14 + by4 f (p + 10) + 2))), (10, .int (nI (p + 14 + by4 f (p + 10) + 2 + 8 * by2 f (p + 14 + by4 f (p + 10))))), (11, .int (nI (by2 f (p + 14 + by4 f (p + 10) + 2 + 8 * by2 f (p + 14 + by4 f (p + 10)))))), (12, .int (nI i))], [.ref (q 36), .ref m0], M1)) rfl hR1 rfl rfl ?_
                refine ps_st (S' := (207, [(0, .ref m0), (2, .int (nI (p + 6))), (3, .int (nI e)), (4, .int (nI x)), (5, .long (nL (by4 f (p + 10)))), (7, .int (nI y)), (8, .int (nI (by2 f (p + 14 + by4 f (p + 10))))), (9, .int (nI (p + 14 + by4 f (p + 10) + 2))), (10, .int (nI (p + 14 + by4 f (p + 10) + 2 + 8 * by2 f (p + 14 + by4 f (p + 10))))), (11, .int (nI (by2 f (p + 14 + by4 f (p + 10) + 2 + 8 * by2 f (p + 14 + by4 f (p + 10)))))), (12, .int (nI i))], [.int (nI x), .ref (q 36), .ref m0], M1)) rfl rfl rfl ?_
                refine pr_ld (a := 36) (j := x) (y := (nI ds)) (S' := (208, [(0, .ref m0), (2, .int (nI (p + 6))), (3, .int (nI e)), (4, .int (nI x)), (5, .long (nL (by4 f (p + 10)))), (7, .int (nI y)), (8, .int (nI (by2 f (p + 14 + by4 f (p + 10))))), (9, .int (nI (p + 14 + by4 f (p + 10) + 2))), (10, .int (nI (p + 14 + by4 f (p + 10) + 2 + 8 * by2 f (p + 14 + by4 f (p + 10))))), (11, .int (nI (by2 f (p + 14 + by4 f (p + 10) + 2 + 8 * by2 f (p + 14 + by4 f (p + 10)))))), (12, .int (nI i))], [.int (nI ds), .ref m0], M1)) rfl hR1 rfl (by omega) (fun _ => hr.2) rfl (fun i1_207 => ?_)
                obtain ⟨-, -, k_208, W_208, hq1_208, hq2_208, hq3_208, hq4_208, hq5_208, hq6_208, -⟩ := mth_in (l := l) (by omega)
                refine pl_call (a := [.ref m0, .int (nI ds)]) (rest := []) rfl rfl rfl (rd_places0 (tx := tx) (cN := cN) (A := A) (s := ds) (l := l) (k0 := k_208) (W := W_208) hR1 hY1 (hdt) (hq1_208) (⟨by omega, hq5_208⟩)) (fun v1 M2 q3 => ?_)
                obtain ⟨rfl, rfl⟩ := q3
                show pl _ _ _ (211, [(0, .ref m0), (2, .int (nI (p + 6))), (3, .int (nI e)), (4, .int (nI x)), (5, .long (nL (by4 f (p + 10)))), (7, .int (nI y)), (8, .int (nI (by2 f (p + 14 + by4 f (p + 10))))), (9, .int (nI (p + 14 + by4 f (p + 10) + 2))), (10, .int (nI (p + 14 + by4 f (p + 10) + 2 + 8 * by2 f (p + 14 + by4 f (p + 10))))), (11, .int (nI (by2 f (p + 14 + by4 f (p + 10) + 2 + 8 * by2 f (p + 14 + by4 f (p + 10)))))), (12, .int (nI i))], [.int (nI (W_208))], M1) _
                rw [← hq6_208]
                show pl _ _ _ (_, [(0, .ref m0), (2, .int (nI (p + 6))), (3, .int (nI e)), (4, .int (nI x)), (5, .long (nL (by4 f (p + 10)))), (7, .int (nI y)), (8, .int (nI (by2 f (p + 14 + by4 f (p + 10))))), (9, .int (nI (p + 14 + by4 f (p + 10) + 2))), (10, .int (nI (p + 14 + by4 f (p + 10) + 2 + 8 * by2 f (p + 14 + by4 f (p + 10))))), (11, .int (nI (by2 f (p + 14 + by4 f (p + 10) + 2 + 8 * by2 f (p + 14 + by4 f (p + 10)))))), (12, .int (nI i))], [.int (nI (argN l))], M1) _
                have hal_208 := argN_lt l
                refine ps_st (S' := (212, [(0, .ref m0), (2, .int (nI (p + 6))), (3, .int (nI e)), (4, .int (nI x)), (5, .long (nL (by4 f (p + 10)))), (7, .int (nI y)), (8, .int (nI (by2 f (p + 14 + by4 f (p + 10))))), (9, .int (nI (p + 14 + by4 f (p + 10) + 2))), (10, .int (nI (p + 14 + by4 f (p + 10) + 2 + 8 * by2 f (p + 14 + by4 f (p + 10))))), (11, .int (nI (by2 f (p + 14 + by4 f (p + 10) + 2 + 8 * by2 f (p + 14 + by4 f (p + 10)))))), (12, .int (nI i))], [.ref m0, .int (nI (argN l))], M1)) rfl rfl rfl ?_
                refine pr_ref (j := 34) (S' := (215, [(0, .ref m0), (2, .int (nI (p + 6))), (3, .int (nI e)), (4, .int (nI x)), (5, .long (nL (by4 f (p + 10)))), (7, .int (nI y)), (8, .int (nI (by2 f (p + 14 + by4 f (p + 10))))), (9, .int (nI (p + 14 + by4 f (p + 10) + 2))), (10, .int (nI (p + 14 + by4 f (p + 10) + 2 + 8 * by2 f (p + 14 + by4 f (p + 10))))), (11, .int (nI (by2 f (p + 14 + by4 f (p + 10) + 2 + 8 * by2 f (p + 14 + by4 f (p + 10)))))), (12, .int (nI i))], [.ref (q 34), .int (nI (argN l))], M1)) rfl hR1 rfl rfl ?_
                refine ps_st (S' := (217, [(0, .ref m0), (2, .int (nI (p + 6))), (3, .int (nI e)), (4, .int (nI x)), (5, .long (nL (by4 f (p + 10)))), (7, .int (nI y)), (8, .int (nI (by2 f (p + 14 + by4 f (p + 10))))), (9, .int (nI (p + 14 + by4 f (p + 10) + 2))), (10, .int (nI (p + 14 + by4 f (p + 10) + 2 + 8 * by2 f (p + 14 + by4 f (p + 10))))), (11, .int (nI (by2 f (p + 14 + by4 f (p + 10) + 2 + 8 * by2 f (p + 14 + by4 f (p + 10)))))), (12, .int (nI i))], [.int (nI x), .ref (q 34), .int (nI (argN l))], M1)) rfl rfl rfl ?_
                refine pr_ld (a := 34) (j := x) (y := (nI fl)) (S' := (218, [(0, .ref m0), (2, .int (nI (p + 6))), (3, .int (nI e)), (4, .int (nI x)), (5, .long (nL (by4 f (p + 10)))), (7, .int (nI y)), (8, .int (nI (by2 f (p + 14 + by4 f (p + 10))))), (9, .int (nI (p + 14 + by4 f (p + 10) + 2))), (10, .int (nI (p + 14 + by4 f (p + 10) + 2 + 8 * by2 f (p + 14 + by4 f (p + 10))))), (11, .int (nI (by2 f (p + 14 + by4 f (p + 10) + 2 + 8 * by2 f (p + 14 + by4 f (p + 10)))))), (12, .int (nI i))], [.int (nI fl), .int (nI (argN l))], M1)) rfl hR1 rfl (by omega) (fun _ => hr.1) rfl (fun i1_217 => ?_)
                refine ps_st (S' := (220, [(0, .ref m0), (2, .int (nI (p + 6))), (3, .int (nI e)), (4, .int (nI x)), (5, .long (nL (by4 f (p + 10)))), (7, .int (nI y)), (8, .int (nI (by2 f (p + 14 + by4 f (p + 10))))), (9, .int (nI (p + 14 + by4 f (p + 10) + 2))), (10, .int (nI (p + 14 + by4 f (p + 10) + 2 + 8 * by2 f (p + 14 + by4 f (p + 10))))), (11, .int (nI (by2 f (p + 14 + by4 f (p + 10) + 2 + 8 * by2 f (p + 14 + by4 f (p + 10)))))), (12, .int (nI i))], [.int 8, .int (nI fl), .int (nI (argN l))], M1)) rfl rfl rfl ?_
                refine ps_st (S' := (221, [(0, .ref m0), (2, .int (nI (p + 6))), (3, .int (nI e)), (4, .int (nI x)), (5, .long (nL (by4 f (p + 10)))), (7, .int (nI y)), (8, .int (nI (by2 f (p + 14 + by4 f (p + 10))))), (9, .int (nI (p + 14 + by4 f (p + 10) + 2))), (10, .int (nI (p + 14 + by4 f (p + 10) + 2 + 8 * by2 f (p + 14 + by4 f (p + 10))))), (11, .int (nI (by2 f (p + 14 + by4 f (p + 10) + 2 + 8 * by2 f (p + 14 + by4 f (p + 10)))))), (12, .int (nI i))], [.int ((nI fl) &&& 8), .int (nI (argN l))], M1)) rfl rfl rfl ?_
                rw [nI_an (p := fl) (k := 8) (x := 8) rfl]
                show pl _ _ _ (_, [(0, .ref m0), (2, .int (nI (p + 6))), (3, .int (nI e)), (4, .int (nI x)), (5, .long (nL (by4 f (p + 10)))), (7, .int (nI y)), (8, .int (nI (by2 f (p + 14 + by4 f (p + 10))))), (9, .int (nI (p + 14 + by4 f (p + 10) + 2))), (10, .int (nI (p + 14 + by4 f (p + 10) + 2 + 8 * by2 f (p + 14 + by4 f (p + 10))))), (11, .int (nI (by2 f (p + 14 + by4 f (p + 10) + 2 + 8 * by2 f (p + 14 + by4 f (p + 10)))))), (12, .int (nI i))], [.int (nI (aN fl 8)), .int (nI (argN l))], M1) _
                refine ps_if (S1 := (228, [(0, .ref m0), (2, .int (nI (p + 6))), (3, .int (nI e)), (4, .int (nI x)), (5, .long (nL (by4 f (p + 10)))), (7, .int (nI y)), (8, .int (nI (by2 f (p + 14 + by4 f (p + 10))))), (9, .int (nI (p + 14 + by4 f (p + 10) + 2))), (10, .int (nI (p + 14 + by4 f (p + 10) + 2 + 8 * by2 f (p + 14 + by4 f (p + 10))))), (11, .int (nI (by2 f (p + 14 + by4 f (p + 10) + 2 + 8 * by2 f (p + 14 + by4 f (p + 10)))))), (12, .int (nI i))], [.int (nI (argN l))], M1)) (S2 := (224, [(0, .ref m0), (2, .int (nI (p + 6))), (3, .int (nI e)), (4, .int (nI x)), (5, .long (nL (by4 f (p + 10)))), (7, .int (nI y)), (8, .int (nI (by2 f (p + 14 + by4 f (p + 10))))), (9, .int (nI (p + 14 + by4 f (p + 10) + 2))), (10, .int (nI (p + 14 + by4 f (p + 10) + 2 + 8 * by2 f (p + 14 + by4 f (p + 10))))), (11, .int (nI (by2 f (p + 14 + by4 f (p + 10) + 2 + 8 * by2 f (p + 14 + by4 f (p + 10)))))), (12, .int (nI i))], [.int (nI (argN l))], M1)) rfl rfl rfl (fun c_221 => ?_) (fun c_221 => ?_)
                · have c_221 : ¬ (nI (aN fl 8)) = 0 := of_decide_eq_true c_221
                  have n_221 : ¬ (aN fl 8 = 0) := fun h9 => c_221 ((eq_nI (p := aN fl 8) (n := 0) (Nat.lt_of_le_of_lt (an_le _ _) (by decide)) (by decide)).mpr h9)
                  refine ps_st (S' := (229, [(0, .ref m0), (2, .int (nI (p + 6))), (4, .int (nI x)), (5, .long (nL (by4 f (p + 10)))), (8, .int (nI (by2 f (p + 14 + by4 f (p + 10))))), (9, .int (nI (p + 14 + by4 f (p + 10) + 2))), (10, .int (nI (p + 14 + by4 f (p + 10) + 2 + 8 * by2 f (p + 14 + by4 f (p + 10)))))], [.int 0, .int (nI (argN l))], M1)) rfl rfl rfl ?_
                  refine ps_st (S' := (230, [(0, .ref m0), (2, .int (nI (p + 6))), (4, .int (nI x)), (5, .long (nL (by4 f (p + 10)))), (8, .int (nI (by2 f (p + 14 + by4 f (p + 10))))), (9, .int (nI (p + 14 + by4 f (p + 10) + 2))), (10, .int (nI (p + 14 + by4 f (p + 10) + 2 + 8 * by2 f (p + 14 + by4 f (p + 10)))))], [.int ((nI (argN l)) + 0)], M1)) rfl rfl rfl ?_
                  rw [nI_add1 (p := argN l) (k := 0) (x := 0) rfl (by omega)]
                  show pl _ _ _ (_, [(0, .ref m0), (2, .int (nI (p + 6))), (4, .int (nI x)), (5, .long (nL (by4 f (p + 10)))), (8, .int (nI (by2 f (p + 14 + by4 f (p + 10))))), (9, .int (nI (p + 14 + by4 f (p + 10) + 2))), (10, .int (nI (p + 14 + by4 f (p + 10) + 2 + 8 * by2 f (p + 14 + by4 f (p + 10)))))], [.int (nI (argN l + 0))], M1) _
                  refine pl_top (x := (nI (argN l + 0))) (y := (nI w)) (congrArg nI (by rw [hw]; first | rw [if_pos (by omega)] | rw [if_neg (by omega)])) ?_
                  have hwl : w < 2000 := by rw [hw]; have := argN_lt l; split <;> omega
                  refine ps_st (S' := (232, [(12, .int (nI w)), (0, .ref m0), (2, .int (nI (p + 6))), (4, .int (nI x)), (5, .long (nL (by4 f (p + 10)))), (8, .int (nI (by2 f (p + 14 + by4 f (p + 10))))), (9, .int (nI (p + 14 + by4 f (p + 10) + 2))), (10, .int (nI (p + 14 + by4 f (p + 10) + 2 + 8 * by2 f (p + 14 + by4 f (p + 10)))))], [], M1)) rfl rfl rfl ?_
                  refine ps_st (S' := (233, [(12, .int (nI w)), (0, .ref m0), (2, .int (nI (p + 6))), (4, .int (nI x)), (5, .long (nL (by4 f (p + 10)))), (8, .int (nI (by2 f (p + 14 + by4 f (p + 10))))), (9, .int (nI (p + 14 + by4 f (p + 10) + 2))), (10, .int (nI (p + 14 + by4 f (p + 10) + 2 + 8 * by2 f (p + 14 + by4 f (p + 10)))))], [.ref m0], M1)) rfl rfl rfl ?_
                  refine ps_st (S' := (234, [(12, .int (nI w)), (0, .ref m0), (2, .int (nI (p + 6))), (4, .int (nI x)), (5, .long (nL (by4 f (p + 10)))), (8, .int (nI (by2 f (p + 14 + by4 f (p + 10))))), (9, .int (nI (p + 14 + by4 f (p + 10) + 2))), (10, .int (nI (p + 14 + by4 f (p + 10) + 2 + 8 * by2 f (p + 14 + by4 f (p + 10)))))], [.int (nI (p + 6)), .ref m0], M1)) rfl rfl rfl ?_
                  refine ps_st (S' := (235, [(12, .int (nI w)), (0, .ref m0), (2, .int (nI (p + 6))), (4, .int (nI x)), (5, .long (nL (by4 f (p + 10)))), (8, .int (nI (by2 f (p + 14 + by4 f (p + 10))))), (9, .int (nI (p + 14 + by4 f (p + 10) + 2))), (10, .int (nI (p + 14 + by4 f (p + 10) + 2 + 8 * by2 f (p + 14 + by4 f (p + 10)))))], [.int 2, .int (nI (p + 6)), .ref m0], M1)) rfl rfl rfl ?_
                  refine ps_st (S' := (236, [(12, .int (nI w)), (0, .ref m0), (2, .int (nI (p + 6))), (4, .int (nI x)), (5, .long (nL (by4 f (p + 10)))), (8, .int (nI (by2 f (p + 14 + by4 f (p + 10))))), (9, .int (nI (p + 14 + by4 f (p + 10) + 2))), (10, .int (nI (p + 14 + by4 f (p + 10) + 2 + 8 * by2 f (p + 14 + by4 f (p + 10)))))], [.int ((nI (p + 6)) + 2), .ref m0], M1)) rfl rfl rfl ?_
                  rw [nI_add1 (p := p + 6) (k := 2) (x := 2) rfl (by omega)]
                  show pl _ _ _ (_, [(12, .int (nI w)), (0, .ref m0), (2, .int (nI (p + 6))), (4, .int (nI x)), (5, .long (nL (by4 f (p + 10)))), (8, .int (nI (by2 f (p + 14 + by4 f (p + 10))))), (9, .int (nI (p + 14 + by4 f (p + 10) + 2))), (10, .int (nI (p + 14 + by4 f (p + 10) + 2 + 8 * by2 f (p + 14 + by4 f (p + 10)))))], [.int (nI (p + 8)), .ref m0], M1) _
                  refine pl_call (a := [.ref m0, .int (nI (p + 8))]) (rest := []) rfl rfl rfl (rd_u2 (n := n) (f := f) (p := (p + 8)) hR1 hF1 (by omega)) (fun v4 M5 q6 => ?_)
                  obtain ⟨rfl, rfl⟩ := q6
                  show pl _ _ _ (239, [(12, .int (nI w)), (0, .ref m0), (2, .int (nI (p + 6))), (4, .int (nI x)), (5, .long (nL (by4 f (p + 10)))), (8, .int (nI (by2 f (p + 14 + by4 f (p + 10))))), (9, .int (nI (p + 14 + by4 f (p + 10) + 2))), (10, .int (nI (p + 14 + by4 f (p + 10) + 2 + 8 * by2 f (p + 14 + by4 f (p + 10)))))], [.int (nI (by2 f (p + 8)))], M1) _
                  have hu_236 := by2_lt f (p + 8)
                  refine ps_st (S' := (241, [(12, .int (nI w)), (0, .ref m0), (2, .int (nI (p + 6))), (4, .int (nI x)), (5, .long (nL (by4 f (p + 10)))), (8, .int (nI (by2 f (p + 14 + by4 f (p + 10))))), (9, .int (nI (p + 14 + by4 f (p + 10) + 2))), (10, .int (nI (p + 14 + by4 f (p + 10) + 2 + 8 * by2 f (p + 14 + by4 f (p + 10)))))], [.int (nI w), .int (nI (by2 f (p + 8)))], M1)) rfl rfl rfl ?_
                  refine ps_if2 (S1 := (247, [(12, .int (nI w)), (0, .ref m0), (2, .int (nI (p + 6))), (4, .int (nI x)), (5, .long (nL (by4 f (p + 10)))), (8, .int (nI (by2 f (p + 14 + by4 f (p + 10))))), (9, .int (nI (p + 14 + by4 f (p + 10) + 2))), (10, .int (nI (p + 14 + by4 f (p + 10) + 2 + 8 * by2 f (p + 14 + by4 f (p + 10)))))], [], M1)) (S2 := (244, [(12, .int (nI w)), (0, .ref m0), (2, .int (nI (p + 6))), (4, .int (nI x)), (5, .long (nL (by4 f (p + 10)))), (8, .int (nI (by2 f (p + 14 + by4 f (p + 10))))), (9, .int (nI (p + 14 + by4 f (p + 10) + 2))), (10, .int (nI (p + 14 + by4 f (p + 10) + 2 + 8 * by2 f (p + 14 + by4 f (p + 10)))))], [], M1)) rfl rfl rfl (fun c_241 => ?_) (fun c_241 => ?_)
                  · have c_241 : (nI w) ≤ (nI (by2 f (p + 8))) := of_decide_eq_true c_241
                    have n_241 : w ≤ by2 f (p + 8) := (le_nI (p := w) (n := by2 f (p + 8)) (by omega) (Nat.lt_trans (by2_lt _ _) (by decide))).mp c_241
                    refine ps_st (S' := (248, [(12, .int (nI w)), (0, .ref m0), (2, .int (nI (p + 6))), (4, .int (nI x)), (5, .long (nL (by4 f (p + 10)))), (8, .int (nI (by2 f (p + 14 + by4 f (p + 10))))), (9, .int (nI (p + 14 + by4 f (p + 10) + 2))), (10, .int (nI (p + 14 + by4 f (p + 10) + 2 + 8 * by2 f (p + 14 + by4 f (p + 10)))))], [.int 0], M1)) rfl rfl rfl ?_
                    refine ps_st (S' := (250, [(0, .ref m0), (2, .int (nI (p + 6))), (4, .int (nI x)), (5, .long (nL (by4 f (p + 10)))), (8, .int (nI (by2 f (p + 14 + by4 f (p + 10))))), (9, .int (nI (p + 14 + by4 f (p + 10) + 2))), (10, .int (nI (p + 14 + by4 f (p + 10) + 2 + 8 * by2 f (p + 14 + by4 f (p + 10))))), (13, .int 0)], [], M1)) rfl rfl rfl ?_
                    exact ih.2 (0) M1 I1 R1 hR1 hEI1 hER1 hl51 hl52 hl53 hF1 hY1 hP1 hK1 (hr) (hb) (hce) (by omega) (by omega) (by omega) (rfl)
                  · have c_241 : ¬ ((nI w) ≤ (nI (by2 f (p + 8)))) := of_decide_eq_false c_241
                    have n_241 : ¬ (w ≤ by2 f (p + 8)) := fun h9 => c_241 ((le_nI (p := w) (n := by2 f (p + 8)) (by omega) (Nat.lt_trans (by2_lt _ _) (by decide))).mpr h9)
                    refine ps_st (S' := (246, [(12, .int (nI w)), (0, .ref m0), (2, .int (nI (p + 6))), (4, .int (nI x)), (5, .long (nL (by4 f (p + 10)))), (8, .int (nI (by2 f (p + 14 + by4 f (p + 10))))), (9, .int (nI (p + 14 + by4 f (p + 10) + 2))), (10, .int (nI (p + 14 + by4 f (p + 10) + 2 + 8 * by2 f (p + 14 + by4 f (p + 10)))))], [.int 42], M1)) rfl rfl rfl ?_
                    exact ps_ret rfl rfl (Or.inr (Or.inl ⟨42, I1, R1, hce, by
                        unfold cdS
                        rw [if_neg (by omega), if_pos (by omega)], by decide, rfl, hR1, hEI1, hER1⟩))
                · have c_221 : ¬ (¬ (nI (aN fl 8)) = 0) := of_decide_eq_false c_221
                  have n_221 : aN fl 8 = 0 := (eq_nI (p := aN fl 8) (n := 0) (Nat.lt_of_le_of_lt (an_le _ _) (by decide)) (by decide)).mp (Decidable.not_not.mp c_221)
                  refine ps_st (S' := (225, [(0, .ref m0), (2, .int (nI (p + 6))), (3, .int (nI e)), (4, .int (nI x)), (5, .long (nL (by4 f (p + 10)))), (7, .int (nI y)), (8, .int (nI (by2 f (p + 14 + by4 f (p + 10))))), (9, .int (nI (p + 14 + by4 f (p + 10) + 2))), (10, .int (nI (p + 14 + by4 f (p + 10) + 2 + 8 * by2 f (p + 14 + by4 f (p + 10))))), (11, .int (nI (by2 f (p + 14 + by4 f (p + 10) + 2 + 8 * by2 f (p + 14 + by4 f (p + 10)))))), (12, .int (nI i))], [.int 1, .int (nI (argN l))], M1)) rfl rfl rfl ?_
                  refine ps_st (S' := (229, [(0, .ref m0), (2, .int (nI (p + 6))), (4, .int (nI x)), (5, .long (nL (by4 f (p + 10)))), (8, .int (nI (by2 f (p + 14 + by4 f (p + 10))))), (9, .int (nI (p + 14 + by4 f (p + 10) + 2))), (10, .int (nI (p + 14 + by4 f (p + 10) + 2 + 8 * by2 f (p + 14 + by4 f (p + 10)))))], [.int 1, .int (nI (argN l))], M1)) rfl rfl rfl ?_
                  refine ps_st (S' := (230, [(0, .ref m0), (2, .int (nI (p + 6))), (4, .int (nI x)), (5, .long (nL (by4 f (p + 10)))), (8, .int (nI (by2 f (p + 14 + by4 f (p + 10))))), (9, .int (nI (p + 14 + by4 f (p + 10) + 2))), (10, .int (nI (p + 14 + by4 f (p + 10) + 2 + 8 * by2 f (p + 14 + by4 f (p + 10)))))], [.int ((nI (argN l)) + 1)], M1)) rfl rfl rfl ?_
                  rw [nI_add1 (p := argN l) (k := 1) (x := 1) rfl (by omega)]
                  show pl _ _ _ (_, [(0, .ref m0), (2, .int (nI (p + 6))), (4, .int (nI x)), (5, .long (nL (by4 f (p + 10)))), (8, .int (nI (by2 f (p + 14 + by4 f (p + 10))))), (9, .int (nI (p + 14 + by4 f (p + 10) + 2))), (10, .int (nI (p + 14 + by4 f (p + 10) + 2 + 8 * by2 f (p + 14 + by4 f (p + 10)))))], [.int (nI (argN l + 1))], M1) _
                  refine pl_top (x := (nI (argN l + 1))) (y := (nI w)) (congrArg nI (by rw [hw]; first | rw [if_pos (by omega)] | rw [if_neg (by omega)])) ?_
                  have hwl : w < 2000 := by rw [hw]; have := argN_lt l; split <;> omega
                  refine ps_st (S' := (232, [(12, .int (nI w)), (0, .ref m0), (2, .int (nI (p + 6))), (4, .int (nI x)), (5, .long (nL (by4 f (p + 10)))), (8, .int (nI (by2 f (p + 14 + by4 f (p + 10))))), (9, .int (nI (p + 14 + by4 f (p + 10) + 2))), (10, .int (nI (p + 14 + by4 f (p + 10) + 2 + 8 * by2 f (p + 14 + by4 f (p + 10)))))], [], M1)) rfl rfl rfl ?_
                  refine ps_st (S' := (233, [(12, .int (nI w)), (0, .ref m0), (2, .int (nI (p + 6))), (4, .int (nI x)), (5, .long (nL (by4 f (p + 10)))), (8, .int (nI (by2 f (p + 14 + by4 f (p + 10))))), (9, .int (nI (p + 14 + by4 f (p + 10) + 2))), (10, .int (nI (p + 14 + by4 f (p + 10) + 2 + 8 * by2 f (p + 14 + by4 f (p + 10)))))], [.ref m0], M1)) rfl rfl rfl ?_
                  refine ps_st (S' := (234, [(12, .int (nI w)), (0, .ref m0), (2, .int (nI (p + 6))), (4, .int (nI x)), (5, .long (nL (by4 f (p + 10)))), (8, .int (nI (by2 f (p + 14 + by4 f (p + 10))))), (9, .int (nI (p + 14 + by4 f (p + 10) + 2))), (10, .int (nI (p + 14 + by4 f (p + 10) + 2 + 8 * by2 f (p + 14 + by4 f (p + 10)))))], [.int (nI (p + 6)), .ref m0], M1)) rfl rfl rfl ?_
                  refine ps_st (S' := (235, [(12, .int (nI w)), (0, .ref m0), (2, .int (nI (p + 6))), (4, .int (nI x)), (5, .long (nL (by4 f (p + 10)))), (8, .int (nI (by2 f (p + 14 + by4 f (p + 10))))), (9, .int (nI (p + 14 + by4 f (p + 10) + 2))), (10, .int (nI (p + 14 + by4 f (p + 10) + 2 + 8 * by2 f (p + 14 + by4 f (p + 10)))))], [.int 2, .int (nI (p + 6)), .ref m0], M1)) rfl rfl rfl ?_
                  refine ps_st (S' := (236, [(12, .int (nI w)), (0, .ref m0), (2, .int (nI (p + 6))), (4, .int (nI x)), (5, .long (nL (by4 f (p + 10)))), (8, .int (nI (by2 f (p + 14 + by4 f (p + 10))))), (9, .int (nI (p + 14 + by4 f (p + 10) + 2))), (10, .int (nI (p + 14 + by4 f (p + 10) + 2 + 8 * by2 f (p + 14 + by4 f (p + 10)))))], [.int ((nI (p + 6)) + 2), .ref m0], M1)) rfl rfl rfl ?_
                  rw [nI_add1 (p := p + 6) (k := 2) (x := 2) rfl (by omega)]
                  show pl _ _ _ (_, [(12, .int (nI w)), (0, .ref m0), (2, .int (nI (p + 6))), (4, .int (nI x)), (5, .long (nL (by4 f (p + 10)))), (8, .int (nI (by2 f (p + 14 + by4 f (p + 10))))), (9, .int (nI (p + 14 + by4 f (p + 10) + 2))), (10, .int (nI (p + 14 + by4 f (p + 10) + 2 + 8 * by2 f (p + 14 + by4 f (p + 10)))))], [.int (nI (p + 8)), .ref m0], M1) _
                  refine pl_call (a := [.ref m0, .int (nI (p + 8))]) (rest := []) rfl rfl rfl (rd_u2 (n := n) (f := f) (p := (p + 8)) hR1 hF1 (by omega)) (fun v7 M8 q9 => ?_)
                  obtain ⟨rfl, rfl⟩ := q9
                  show pl _ _ _ (239, [(12, .int (nI w)), (0, .ref m0), (2, .int (nI (p + 6))), (4, .int (nI x)), (5, .long (nL (by4 f (p + 10)))), (8, .int (nI (by2 f (p + 14 + by4 f (p + 10))))), (9, .int (nI (p + 14 + by4 f (p + 10) + 2))), (10, .int (nI (p + 14 + by4 f (p + 10) + 2 + 8 * by2 f (p + 14 + by4 f (p + 10)))))], [.int (nI (by2 f (p + 8)))], M1) _
                  have hu_236 := by2_lt f (p + 8)
                  refine ps_st (S' := (241, [(12, .int (nI w)), (0, .ref m0), (2, .int (nI (p + 6))), (4, .int (nI x)), (5, .long (nL (by4 f (p + 10)))), (8, .int (nI (by2 f (p + 14 + by4 f (p + 10))))), (9, .int (nI (p + 14 + by4 f (p + 10) + 2))), (10, .int (nI (p + 14 + by4 f (p + 10) + 2 + 8 * by2 f (p + 14 + by4 f (p + 10)))))], [.int (nI w), .int (nI (by2 f (p + 8)))], M1)) rfl rfl rfl ?_
                  refine ps_if2 (S1 := (247, [(12, .int (nI w)), (0, .ref m0), (2, .int (nI (p + 6))), (4, .int (nI x)), (5, .long (nL (by4 f (p + 10)))), (8, .int (nI (by2 f (p + 14 + by4 f (p + 10))))), (9, .int (nI (p + 14 + by4 f (p + 10) + 2))), (10, .int (nI (p + 14 + by4 f (p + 10) + 2 + 8 * by2 f (p + 14 + by4 f (p + 10)))))], [], M1)) (S2 := (244, [(12, .int (nI w)), (0, .ref m0), (2, .int (nI (p + 6))), (4, .int (nI x)), (5, .long (nL (by4 f (p + 10)))), (8, .int (nI (by2 f (p + 14 + by4 f (p + 10))))), (9, .int (nI (p + 14 + by4 f (p + 10) + 2))), (10, .int (nI (p + 14 + by4 f (p + 10) + 2 + 8 * by2 f (p + 14 + by4 f (p + 10)))))], [], M1)) rfl rfl rfl (fun c_241 => ?_) (fun c_241 => ?_)
                  · have c_241 : (nI w) ≤ (nI (by2 f (p + 8))) := of_decide_eq_true c_241
                    have n_241 : w ≤ by2 f (p + 8) := (le_nI (p := w) (n := by2 f (p + 8)) (by omega) (Nat.lt_trans (by2_lt _ _) (by decide))).mp c_241
                    refine ps_st (S' := (248, [(12, .int (nI w)), (0, .ref m0), (2, .int (nI (p + 6))), (4, .int (nI x)), (5, .long (nL (by4 f (p + 10)))), (8, .int (nI (by2 f (p + 14 + by4 f (p + 10))))), (9, .int (nI (p + 14 + by4 f (p + 10) + 2))), (10, .int (nI (p + 14 + by4 f (p + 10) + 2 + 8 * by2 f (p + 14 + by4 f (p + 10)))))], [.int 0], M1)) rfl rfl rfl ?_
                    refine ps_st (S' := (250, [(0, .ref m0), (2, .int (nI (p + 6))), (4, .int (nI x)), (5, .long (nL (by4 f (p + 10)))), (8, .int (nI (by2 f (p + 14 + by4 f (p + 10))))), (9, .int (nI (p + 14 + by4 f (p + 10) + 2))), (10, .int (nI (p + 14 + by4 f (p + 10) + 2 + 8 * by2 f (p + 14 + by4 f (p + 10))))), (13, .int 0)], [], M1)) rfl rfl rfl ?_
                    exact ih.2 (0) M1 I1 R1 hR1 hEI1 hER1 hl51 hl52 hl53 hF1 hY1 hP1 hK1 (hr) (hb) (hce) (by omega) (by omega) (by omega) (rfl)
                  · have c_241 : ¬ ((nI w) ≤ (nI (by2 f (p + 8)))) := of_decide_eq_false c_241
                    have n_241 : ¬ (w ≤ by2 f (p + 8)) := fun h9 => c_241 ((le_nI (p := w) (n := by2 f (p + 8)) (by omega) (Nat.lt_trans (by2_lt _ _) (by decide))).mpr h9)
                    refine ps_st (S' := (246, [(12, .int (nI w)), (0, .ref m0), (2, .int (nI (p + 6))), (4, .int (nI x)), (5, .long (nL (by4 f (p + 10)))), (8, .int (nI (by2 f (p + 14 + by4 f (p + 10))))), (9, .int (nI (p + 14 + by4 f (p + 10) + 2))), (10, .int (nI (p + 14 + by4 f (p + 10) + 2 + 8 * by2 f (p + 14 + by4 f (p + 10)))))], [.int 42], M1)) rfl rfl rfl ?_
                    exact ps_ret rfl rfl (Or.inr (Or.inl ⟨42, I1, R1, hce, by
                        unfold cdS
                        rw [if_neg (by omega), if_pos (by omega)], by decide, rfl, hR1, hEI1, hER1⟩))
              · have n_194 : ¬ (by4 f (p + 10) ≤ 65535) := fun h9 => of_decide_eq_false c_194 ((cL_le (p := by4 f (p + 10)) (k := 65535) (x := (nL (by4 f (p + 10)))) (y := 65535) rfl rfl (by omega) (by omega)).mpr h9)
                refine ps_st (S' := (199, [], [.int 41], M1)) rfl rfl rfl ?_
                exact ps_ret rfl rfl (Or.inr (Or.inl ⟨41, I1, R1, hce, by
                    unfold cdS
                    rw [if_pos (by omega)], by decide, rfl, hR1, hEI1, hER1⟩))
          · have c_175 : ¬ ((nI y) = (nI e)) := of_decide_eq_false c_175
            have n_175 : ¬ (y = e) := fun h9 => c_175 ((eq_nI (p := y) (n := e) (by omega) (by omega)).mpr h9)
            refine ps_st (S' := (180, [(0, .ref m0), (2, .int (nI (p + 6))), (3, .int (nI e)), (4, .int (nI x)), (5, .long (nL (by4 f (p + 10)))), (7, .int (nI y)), (8, .int (nI (by2 f (p + 14 + by4 f (p + 10))))), (9, .int (nI (p + 14 + by4 f (p + 10) + 2))), (10, .int (nI (p + 14 + by4 f (p + 10) + 2 + 8 * by2 f (p + 14 + by4 f (p + 10))))), (11, .int (nI (by2 f (p + 14 + by4 f (p + 10) + 2 + 8 * by2 f (p + 14 + by4 f (p + 10)))))), (12, .int (nI i))], [.int 30], M1)) rfl rfl rfl ?_
            exact ps_ret rfl rfl (Or.inl ⟨I1, R1, by
                rw [cdE_of]
                rw [if_neg (by omega), if_neg (by omega), if_neg (by omega), ← hg]
                rw [show by2 f (p + 14 + by4 f (p + 10) + 2 + 8 * by2 f (p + 14 + by4 f (p + 10))) - i = 0 by omega]
                exact (fun h9 => n_175 (Option.some.inj h9)), rfl, hR1, hEI1, hER1⟩)
        · have c_114 : ¬ ((nI (by2 f (p + 14 + by4 f (p + 10) + 2 + 8 * by2 f (p + 14 + by4 f (p + 10))))) ≤ (nI i)) := of_decide_eq_false c_114
          have n_114 : ¬ (by2 f (p + 14 + by4 f (p + 10) + 2 + 8 * by2 f (p + 14 + by4 f (p + 10))) ≤ i) := fun h9 => c_114 ((le_nI (p := by2 f (p + 14 + by4 f (p + 10) + 2 + 8 * by2 f (p + 14 + by4 f (p + 10)))) (n := i) (Nat.lt_trans (by2_lt _ _) (by decide)) (by omega)).mpr h9)
          refine ps_st (S' := (119, [(0, .ref m0), (2, .int (nI (p + 6))), (3, .int (nI e)), (4, .int (nI x)), (5, .long (nL (by4 f (p + 10)))), (7, .int (nI y)), (8, .int (nI (by2 f (p + 14 + by4 f (p + 10))))), (9, .int (nI (p + 14 + by4 f (p + 10) + 2))), (10, .int (nI (p + 14 + by4 f (p + 10) + 2 + 8 * by2 f (p + 14 + by4 f (p + 10))))), (11, .int (nI (by2 f (p + 14 + by4 f (p + 10) + 2 + 8 * by2 f (p + 14 + by4 f (p + 10)))))), (12, .int (nI i))], [.int (nI y)], M1)) rfl rfl rfl ?_
          refine ps_st (S' := (121, [(0, .ref m0), (2, .int (nI (p + 6))), (3, .int (nI e)), (4, .int (nI x)), (5, .long (nL (by4 f (p + 10)))), (7, .int (nI y)), (8, .int (nI (by2 f (p + 14 + by4 f (p + 10))))), (9, .int (nI (p + 14 + by4 f (p + 10) + 2))), (10, .int (nI (p + 14 + by4 f (p + 10) + 2 + 8 * by2 f (p + 14 + by4 f (p + 10))))), (11, .int (nI (by2 f (p + 14 + by4 f (p + 10) + 2 + 8 * by2 f (p + 14 + by4 f (p + 10)))))), (12, .int (nI i))], [.int 6, .int (nI y)], M1)) rfl rfl rfl ?_
          refine ps_st (S' := (122, [(0, .ref m0), (2, .int (nI (p + 6))), (3, .int (nI e)), (4, .int (nI x)), (5, .long (nL (by4 f (p + 10)))), (7, .int (nI y)), (8, .int (nI (by2 f (p + 14 + by4 f (p + 10))))), (9, .int (nI (p + 14 + by4 f (p + 10) + 2))), (10, .int (nI (p + 14 + by4 f (p + 10) + 2 + 8 * by2 f (p + 14 + by4 f (p + 10))))), (11, .int (nI (by2 f (p + 14 + by4 f (p + 10) + 2 + 8 * by2 f (p + 14 + by4 f (p + 10)))))), (12, .int (nI i))], [.int ((nI y) + 6)], M1)) rfl rfl rfl ?_
          rw [nI_add1 (p := y) (k := 6) (x := 6) rfl (by omega)]
          show pl _ _ _ (_, [(0, .ref m0), (2, .int (nI (p + 6))), (3, .int (nI e)), (4, .int (nI x)), (5, .long (nL (by4 f (p + 10)))), (7, .int (nI y)), (8, .int (nI (by2 f (p + 14 + by4 f (p + 10))))), (9, .int (nI (p + 14 + by4 f (p + 10) + 2))), (10, .int (nI (p + 14 + by4 f (p + 10) + 2 + 8 * by2 f (p + 14 + by4 f (p + 10))))), (11, .int (nI (by2 f (p + 14 + by4 f (p + 10) + 2 + 8 * by2 f (p + 14 + by4 f (p + 10)))))), (12, .int (nI i))], [.int (nI (y + 6))], M1) _
          refine ps_st (S' := (123, [(0, .ref m0), (2, .int (nI (p + 6))), (3, .int (nI e)), (4, .int (nI x)), (5, .long (nL (by4 f (p + 10)))), (7, .int (nI y)), (8, .int (nI (by2 f (p + 14 + by4 f (p + 10))))), (9, .int (nI (p + 14 + by4 f (p + 10) + 2))), (10, .int (nI (p + 14 + by4 f (p + 10) + 2 + 8 * by2 f (p + 14 + by4 f (p + 10))))), (11, .int (nI (by2 f (p + 14 + by4 f (p + 10) + 2 + 8 * by2 f (p + 14 + by4 f (p + 10)))))), (12, .int (nI i))], [.int (nI e), .int (nI (y + 6))], M1)) rfl rfl rfl ?_
          refine ps_if2 (S1 := (146, [], [], M1)) (S2 := (126, [(0, .ref m0), (2, .int (nI (p + 6))), (3, .int (nI e)), (4, .int (nI x)), (5, .long (nL (by4 f (p + 10)))), (7, .int (nI y)), (8, .int (nI (by2 f (p + 14 + by4 f (p + 10))))), (9, .int (nI (p + 14 + by4 f (p + 10) + 2))), (10, .int (nI (p + 14 + by4 f (p + 10) + 2 + 8 * by2 f (p + 14 + by4 f (p + 10))))), (11, .int (nI (by2 f (p + 14 + by4 f (p + 10) + 2 + 8 * by2 f (p + 14 + by4 f (p + 10)))))), (12, .int (nI i))], [], M1)) rfl rfl rfl (fun c_123 => ?_) (fun c_123 => ?_)
          · have c_123 : (nI e) < (nI (y + 6)) := of_decide_eq_true c_123
            have n_123 : e < y + 6 := (lt_nI (p := e) (n := y + 6) (by omega) (by omega)).mp c_123
            refine ps_st (S' := (148, [], [.int 30], M1)) rfl rfl rfl ?_
            exact ps_ret rfl rfl (Or.inl ⟨I1, R1, by
                rw [cdE_of]
                rw [if_neg (by omega), if_neg (by omega), if_neg (by omega), ← hg]
                rw [s_atE_st (i := i) (p := y) (by omega), if_pos (by omega)]
                exact (fun h9 => (by cases h9)), rfl, hR1, hEI1, hER1⟩)
          · have c_123 : ¬ ((nI e) < (nI (y + 6))) := of_decide_eq_false c_123
            have n_123 : ¬ (e < y + 6) := fun h9 => c_123 ((lt_nI (p := e) (n := y + 6) (by omega) (by omega)).mpr h9)
            refine ps_st (S' := (127, [(0, .ref m0), (2, .int (nI (p + 6))), (3, .int (nI e)), (4, .int (nI x)), (5, .long (nL (by4 f (p + 10)))), (7, .int (nI y)), (8, .int (nI (by2 f (p + 14 + by4 f (p + 10))))), (9, .int (nI (p + 14 + by4 f (p + 10) + 2))), (10, .int (nI (p + 14 + by4 f (p + 10) + 2 + 8 * by2 f (p + 14 + by4 f (p + 10))))), (11, .int (nI (by2 f (p + 14 + by4 f (p + 10) + 2 + 8 * by2 f (p + 14 + by4 f (p + 10)))))), (12, .int (nI i))], [.ref m0], M1)) rfl rfl rfl ?_
            refine ps_st (S' := (129, [(0, .ref m0), (2, .int (nI (p + 6))), (3, .int (nI e)), (4, .int (nI x)), (5, .long (nL (by4 f (p + 10)))), (7, .int (nI y)), (8, .int (nI (by2 f (p + 14 + by4 f (p + 10))))), (9, .int (nI (p + 14 + by4 f (p + 10) + 2))), (10, .int (nI (p + 14 + by4 f (p + 10) + 2 + 8 * by2 f (p + 14 + by4 f (p + 10))))), (11, .int (nI (by2 f (p + 14 + by4 f (p + 10) + 2 + 8 * by2 f (p + 14 + by4 f (p + 10)))))), (12, .int (nI i))], [.int (nI y), .ref m0], M1)) rfl rfl rfl ?_
            refine ps_st (S' := (130, [(0, .ref m0), (2, .int (nI (p + 6))), (3, .int (nI e)), (4, .int (nI x)), (5, .long (nL (by4 f (p + 10)))), (7, .int (nI y)), (8, .int (nI (by2 f (p + 14 + by4 f (p + 10))))), (9, .int (nI (p + 14 + by4 f (p + 10) + 2))), (10, .int (nI (p + 14 + by4 f (p + 10) + 2 + 8 * by2 f (p + 14 + by4 f (p + 10))))), (11, .int (nI (by2 f (p + 14 + by4 f (p + 10) + 2 + 8 * by2 f (p + 14 + by4 f (p + 10)))))), (12, .int (nI i))], [.int 2, .int (nI y), .ref m0], M1)) rfl rfl rfl ?_
            refine ps_st (S' := (131, [(0, .ref m0), (2, .int (nI (p + 6))), (3, .int (nI e)), (4, .int (nI x)), (5, .long (nL (by4 f (p + 10)))), (7, .int (nI y)), (8, .int (nI (by2 f (p + 14 + by4 f (p + 10))))), (9, .int (nI (p + 14 + by4 f (p + 10) + 2))), (10, .int (nI (p + 14 + by4 f (p + 10) + 2 + 8 * by2 f (p + 14 + by4 f (p + 10))))), (11, .int (nI (by2 f (p + 14 + by4 f (p + 10) + 2 + 8 * by2 f (p + 14 + by4 f (p + 10)))))), (12, .int (nI i))], [.int ((nI y) + 2), .ref m0], M1)) rfl rfl rfl ?_
            rw [nI_add1 (p := y) (k := 2) (x := 2) rfl (by omega)]
            show pl _ _ _ (_, [(0, .ref m0), (2, .int (nI (p + 6))), (3, .int (nI e)), (4, .int (nI x)), (5, .long (nL (by4 f (p + 10)))), (7, .int (nI y)), (8, .int (nI (by2 f (p + 14 + by4 f (p + 10))))), (9, .int (nI (p + 14 + by4 f (p + 10) + 2))), (10, .int (nI (p + 14 + by4 f (p + 10) + 2 + 8 * by2 f (p + 14 + by4 f (p + 10))))), (11, .int (nI (by2 f (p + 14 + by4 f (p + 10) + 2 + 8 * by2 f (p + 14 + by4 f (p + 10)))))), (12, .int (nI i))], [.int (nI (y + 2)), .ref m0], M1) _
            refine pl_call (a := [.ref m0, .int (nI (y + 2))]) (rest := []) rfl rfl rfl (rd_u4 (n := n) (f := f) (p := (y + 2)) hR1 hF1 (by omega)) (fun v10 M11 q12 => ?_)
            obtain ⟨rfl, rfl⟩ := q12
            show pl _ _ _ (134, [(0, .ref m0), (2, .int (nI (p + 6))), (3, .int (nI e)), (4, .int (nI x)), (5, .long (nL (by4 f (p + 10)))), (7, .int (nI y)), (8, .int (nI (by2 f (p + 14 + by4 f (p + 10))))), (9, .int (nI (p + 14 + by4 f (p + 10) + 2))), (10, .int (nI (p + 14 + by4 f (p + 10) + 2 + 8 * by2 f (p + 14 + by4 f (p + 10))))), (11, .int (nI (by2 f (p + 14 + by4 f (p + 10) + 2 + 8 * by2 f (p + 14 + by4 f (p + 10)))))), (12, .int (nI i))], [.long (nL (by4 f (y + 2)))], M1) _
            have hu_131 := by4_lt f (y + 2)
            refine ps_st (S' := (135, [(0, .ref m0), (2, .int (nI (p + 6))), (3, .int (nI e)), (4, .int (nI x)), (5, .long (nL (by4 f (p + 10)))), (7, .int (nI y)), (8, .int (nI (by2 f (p + 14 + by4 f (p + 10))))), (9, .int (nI (p + 14 + by4 f (p + 10) + 2))), (10, .int (nI (p + 14 + by4 f (p + 10) + 2 + 8 * by2 f (p + 14 + by4 f (p + 10))))), (11, .int (nI (by2 f (p + 14 + by4 f (p + 10) + 2 + 8 * by2 f (p + 14 + by4 f (p + 10)))))), (12, .int (nI i))], [.int (nI e), .long (nL (by4 f (y + 2)))], M1)) rfl rfl rfl ?_
            refine ps_st (S' := (137, [(0, .ref m0), (2, .int (nI (p + 6))), (3, .int (nI e)), (4, .int (nI x)), (5, .long (nL (by4 f (p + 10)))), (7, .int (nI y)), (8, .int (nI (by2 f (p + 14 + by4 f (p + 10))))), (9, .int (nI (p + 14 + by4 f (p + 10) + 2))), (10, .int (nI (p + 14 + by4 f (p + 10) + 2 + 8 * by2 f (p + 14 + by4 f (p + 10))))), (11, .int (nI (by2 f (p + 14 + by4 f (p + 10) + 2 + 8 * by2 f (p + 14 + by4 f (p + 10)))))), (12, .int (nI i))], [.int (nI y), .int (nI e), .long (nL (by4 f (y + 2)))], M1)) rfl rfl rfl ?_
            refine ps_st (S' := (138, [(0, .ref m0), (2, .int (nI (p + 6))), (3, .int (nI e)), (4, .int (nI x)), (5, .long (nL (by4 f (p + 10)))), (7, .int (nI y)), (8, .int (nI (by2 f (p + 14 + by4 f (p + 10))))), (9, .int (nI (p + 14 + by4 f (p + 10) + 2))), (10, .int (nI (p + 14 + by4 f (p + 10) + 2 + 8 * by2 f (p + 14 + by4 f (p + 10))))), (11, .int (nI (by2 f (p + 14 + by4 f (p + 10) + 2 + 8 * by2 f (p + 14 + by4 f (p + 10)))))), (12, .int (nI i))], [.int ((nI e) - (nI y)), .long (nL (by4 f (y + 2)))], M1)) rfl rfl rfl ?_
            rw [nI_sub1 (p := e) (k := y) (x := (nI y)) rfl (by omega) (by omega)]
            show pl _ _ _ (_, [(0, .ref m0), (2, .int (nI (p + 6))), (3, .int (nI e)), (4, .int (nI x)), (5, .long (nL (by4 f (p + 10)))), (7, .int (nI y)), (8, .int (nI (by2 f (p + 14 + by4 f (p + 10))))), (9, .int (nI (p + 14 + by4 f (p + 10) + 2))), (10, .int (nI (p + 14 + by4 f (p + 10) + 2 + 8 * by2 f (p + 14 + by4 f (p + 10))))), (11, .int (nI (by2 f (p + 14 + by4 f (p + 10) + 2 + 8 * by2 f (p + 14 + by4 f (p + 10)))))), (12, .int (nI i))], [.int (nI (e - y)), .long (nL (by4 f (y + 2)))], M1) _
            refine ps_st (S' := (140, [(0, .ref m0), (2, .int (nI (p + 6))), (3, .int (nI e)), (4, .int (nI x)), (5, .long (nL (by4 f (p + 10)))), (7, .int (nI y)), (8, .int (nI (by2 f (p + 14 + by4 f (p + 10))))), (9, .int (nI (p + 14 + by4 f (p + 10) + 2))), (10, .int (nI (p + 14 + by4 f (p + 10) + 2 + 8 * by2 f (p + 14 + by4 f (p + 10))))), (11, .int (nI (by2 f (p + 14 + by4 f (p + 10) + 2 + 8 * by2 f (p + 14 + by4 f (p + 10)))))), (12, .int (nI i))], [.int 6, .int (nI (e - y)), .long (nL (by4 f (y + 2)))], M1)) rfl rfl rfl ?_
            refine ps_st (S' := (141, [(0, .ref m0), (2, .int (nI (p + 6))), (3, .int (nI e)), (4, .int (nI x)), (5, .long (nL (by4 f (p + 10)))), (7, .int (nI y)), (8, .int (nI (by2 f (p + 14 + by4 f (p + 10))))), (9, .int (nI (p + 14 + by4 f (p + 10) + 2))), (10, .int (nI (p + 14 + by4 f (p + 10) + 2 + 8 * by2 f (p + 14 + by4 f (p + 10))))), (11, .int (nI (by2 f (p + 14 + by4 f (p + 10) + 2 + 8 * by2 f (p + 14 + by4 f (p + 10)))))), (12, .int (nI i))], [.int ((nI (e - y)) - 6), .long (nL (by4 f (y + 2)))], M1)) rfl rfl rfl ?_
            rw [nI_sub1 (p := e - y) (k := 6) (x := 6) rfl (by omega) (by omega)]
            show pl _ _ _ (_, [(0, .ref m0), (2, .int (nI (p + 6))), (3, .int (nI e)), (4, .int (nI x)), (5, .long (nL (by4 f (p + 10)))), (7, .int (nI y)), (8, .int (nI (by2 f (p + 14 + by4 f (p + 10))))), (9, .int (nI (p + 14 + by4 f (p + 10) + 2))), (10, .int (nI (p + 14 + by4 f (p + 10) + 2 + 8 * by2 f (p + 14 + by4 f (p + 10))))), (11, .int (nI (by2 f (p + 14 + by4 f (p + 10) + 2 + 8 * by2 f (p + 14 + by4 f (p + 10)))))), (12, .int (nI i))], [.int (nI ((e - y) - 6)), .long (nL (by4 f (y + 2)))], M1) _
            refine ps_st (S' := (142, [(0, .ref m0), (2, .int (nI (p + 6))), (3, .int (nI e)), (4, .int (nI x)), (5, .long (nL (by4 f (p + 10)))), (7, .int (nI y)), (8, .int (nI (by2 f (p + 14 + by4 f (p + 10))))), (9, .int (nI (p + 14 + by4 f (p + 10) + 2))), (10, .int (nI (p + 14 + by4 f (p + 10) + 2 + 8 * by2 f (p + 14 + by4 f (p + 10))))), (11, .int (nI (by2 f (p + 14 + by4 f (p + 10) + 2 + 8 * by2 f (p + 14 + by4 f (p + 10)))))), (12, .int (nI i))], [.long (Int32.toInt64 (nI ((e - y) - 6))), .long (nL (by4 f (y + 2)))], M1)) rfl rfl rfl ?_
            rw [i2l_nL (p := (e - y) - 6) (by omega)]
            show pl _ _ _ (_, [(0, .ref m0), (2, .int (nI (p + 6))), (3, .int (nI e)), (4, .int (nI x)), (5, .long (nL (by4 f (p + 10)))), (7, .int (nI y)), (8, .int (nI (by2 f (p + 14 + by4 f (p + 10))))), (9, .int (nI (p + 14 + by4 f (p + 10) + 2))), (10, .int (nI (p + 14 + by4 f (p + 10) + 2 + 8 * by2 f (p + 14 + by4 f (p + 10))))), (11, .int (nI (by2 f (p + 14 + by4 f (p + 10) + 2 + 8 * by2 f (p + 14 + by4 f (p + 10)))))), (12, .int (nI i))], [.long (nL ((e - y) - 6)), .long (nL (by4 f (y + 2)))], M1) _
            refine ps_st (S' := (143, [(0, .ref m0), (2, .int (nI (p + 6))), (3, .int (nI e)), (4, .int (nI x)), (5, .long (nL (by4 f (p + 10)))), (7, .int (nI y)), (8, .int (nI (by2 f (p + 14 + by4 f (p + 10))))), (9, .int (nI (p + 14 + by4 f (p + 10) + 2))), (10, .int (nI (p + 14 + by4 f (p + 10) + 2 + 8 * by2 f (p + 14 + by4 f (p + 10))))), (11, .int (nI (by2 f (p + 14 + by4 f (p + 10) + 2 + 8 * by2 f (p + 14 + by4 f (p + 10)))))), (12, .int (nI i))], [.int (lg_cmp (nL (by4 f (y + 2))) (nL ((e - y) - 6)))], M1)) rfl rfl rfl ?_
            refine ps_if (S1 := (149, [(0, .ref m0), (2, .int (nI (p + 6))), (3, .int (nI e)), (4, .int (nI x)), (5, .long (nL (by4 f (p + 10)))), (7, .int (nI y)), (8, .int (nI (by2 f (p + 14 + by4 f (p + 10))))), (9, .int (nI (p + 14 + by4 f (p + 10) + 2))), (10, .int (nI (p + 14 + by4 f (p + 10) + 2 + 8 * by2 f (p + 14 + by4 f (p + 10))))), (11, .int (nI (by2 f (p + 14 + by4 f (p + 10) + 2 + 8 * by2 f (p + 14 + by4 f (p + 10)))))), (12, .int (nI i))], [], M1)) (S2 := (146, [], [], M1)) rfl rfl rfl (fun c_143 => ?_) (fun c_143 => ?_)
            · have n_143 : by4 f (y + 2) ≤ (e - y) - 6 := (cL_le (p := by4 f (y + 2)) (k := (e - y) - 6) (x := (nL (by4 f (y + 2)))) (y := (nL ((e - y) - 6))) rfl rfl (by omega) (by omega)).mp (of_decide_eq_true c_143)
              refine ps_st (S' := (151, [(0, .ref m0), (2, .int (nI (p + 6))), (3, .int (nI e)), (4, .int (nI x)), (5, .long (nL (by4 f (p + 10)))), (7, .int (nI y)), (8, .int (nI (by2 f (p + 14 + by4 f (p + 10))))), (9, .int (nI (p + 14 + by4 f (p + 10) + 2))), (10, .int (nI (p + 14 + by4 f (p + 10) + 2 + 8 * by2 f (p + 14 + by4 f (p + 10))))), (11, .int (nI (by2 f (p + 14 + by4 f (p + 10) + 2 + 8 * by2 f (p + 14 + by4 f (p + 10)))))), (12, .int (nI i))], [.int (nI y)], M1)) rfl rfl rfl ?_
              refine ps_st (S' := (153, [(0, .ref m0), (2, .int (nI (p + 6))), (3, .int (nI e)), (4, .int (nI x)), (5, .long (nL (by4 f (p + 10)))), (7, .int (nI y)), (8, .int (nI (by2 f (p + 14 + by4 f (p + 10))))), (9, .int (nI (p + 14 + by4 f (p + 10) + 2))), (10, .int (nI (p + 14 + by4 f (p + 10) + 2 + 8 * by2 f (p + 14 + by4 f (p + 10))))), (11, .int (nI (by2 f (p + 14 + by4 f (p + 10) + 2 + 8 * by2 f (p + 14 + by4 f (p + 10)))))), (12, .int (nI i))], [.int 6, .int (nI y)], M1)) rfl rfl rfl ?_
              refine ps_st (S' := (154, [(0, .ref m0), (2, .int (nI (p + 6))), (3, .int (nI e)), (4, .int (nI x)), (5, .long (nL (by4 f (p + 10)))), (7, .int (nI y)), (8, .int (nI (by2 f (p + 14 + by4 f (p + 10))))), (9, .int (nI (p + 14 + by4 f (p + 10) + 2))), (10, .int (nI (p + 14 + by4 f (p + 10) + 2 + 8 * by2 f (p + 14 + by4 f (p + 10))))), (11, .int (nI (by2 f (p + 14 + by4 f (p + 10) + 2 + 8 * by2 f (p + 14 + by4 f (p + 10)))))), (12, .int (nI i))], [.ref m0, .int 6, .int (nI y)], M1)) rfl rfl rfl ?_
              refine ps_st (S' := (156, [(0, .ref m0), (2, .int (nI (p + 6))), (3, .int (nI e)), (4, .int (nI x)), (5, .long (nL (by4 f (p + 10)))), (7, .int (nI y)), (8, .int (nI (by2 f (p + 14 + by4 f (p + 10))))), (9, .int (nI (p + 14 + by4 f (p + 10) + 2))), (10, .int (nI (p + 14 + by4 f (p + 10) + 2 + 8 * by2 f (p + 14 + by4 f (p + 10))))), (11, .int (nI (by2 f (p + 14 + by4 f (p + 10) + 2 + 8 * by2 f (p + 14 + by4 f (p + 10)))))), (12, .int (nI i))], [.int (nI y), .ref m0, .int 6, .int (nI y)], M1)) rfl rfl rfl ?_
              refine ps_st (S' := (157, [(0, .ref m0), (2, .int (nI (p + 6))), (3, .int (nI e)), (4, .int (nI x)), (5, .long (nL (by4 f (p + 10)))), (7, .int (nI y)), (8, .int (nI (by2 f (p + 14 + by4 f (p + 10))))), (9, .int (nI (p + 14 + by4 f (p + 10) + 2))), (10, .int (nI (p + 14 + by4 f (p + 10) + 2 + 8 * by2 f (p + 14 + by4 f (p + 10))))), (11, .int (nI (by2 f (p + 14 + by4 f (p + 10) + 2 + 8 * by2 f (p + 14 + by4 f (p + 10)))))), (12, .int (nI i))], [.int 2, .int (nI y), .ref m0, .int 6, .int (nI y)], M1)) rfl rfl rfl ?_
              refine ps_st (S' := (158, [(0, .ref m0), (2, .int (nI (p + 6))), (3, .int (nI e)), (4, .int (nI x)), (5, .long (nL (by4 f (p + 10)))), (7, .int (nI y)), (8, .int (nI (by2 f (p + 14 + by4 f (p + 10))))), (9, .int (nI (p + 14 + by4 f (p + 10) + 2))), (10, .int (nI (p + 14 + by4 f (p + 10) + 2 + 8 * by2 f (p + 14 + by4 f (p + 10))))), (11, .int (nI (by2 f (p + 14 + by4 f (p + 10) + 2 + 8 * by2 f (p + 14 + by4 f (p + 10)))))), (12, .int (nI i))], [.int ((nI y) + 2), .ref m0, .int 6, .int (nI y)], M1)) rfl rfl rfl ?_
              rw [nI_add1 (p := y) (k := 2) (x := 2) rfl (by omega)]
              show pl _ _ _ (_, [(0, .ref m0), (2, .int (nI (p + 6))), (3, .int (nI e)), (4, .int (nI x)), (5, .long (nL (by4 f (p + 10)))), (7, .int (nI y)), (8, .int (nI (by2 f (p + 14 + by4 f (p + 10))))), (9, .int (nI (p + 14 + by4 f (p + 10) + 2))), (10, .int (nI (p + 14 + by4 f (p + 10) + 2 + 8 * by2 f (p + 14 + by4 f (p + 10))))), (11, .int (nI (by2 f (p + 14 + by4 f (p + 10) + 2 + 8 * by2 f (p + 14 + by4 f (p + 10)))))), (12, .int (nI i))], [.int (nI (y + 2)), .ref m0, .int 6, .int (nI y)], M1) _
              refine pl_call (a := [.ref m0, .int (nI (y + 2))]) (rest := [.int 6, .int (nI y)]) rfl rfl rfl (rd_u4 (n := n) (f := f) (p := (y + 2)) hR1 hF1 (by omega)) (fun v13 M14 q15 => ?_)
              obtain ⟨rfl, rfl⟩ := q15
              show pl _ _ _ (161, [(0, .ref m0), (2, .int (nI (p + 6))), (3, .int (nI e)), (4, .int (nI x)), (5, .long (nL (by4 f (p + 10)))), (7, .int (nI y)), (8, .int (nI (by2 f (p + 14 + by4 f (p + 10))))), (9, .int (nI (p + 14 + by4 f (p + 10) + 2))), (10, .int (nI (p + 14 + by4 f (p + 10) + 2 + 8 * by2 f (p + 14 + by4 f (p + 10))))), (11, .int (nI (by2 f (p + 14 + by4 f (p + 10) + 2 + 8 * by2 f (p + 14 + by4 f (p + 10)))))), (12, .int (nI i))], [.long (nL (by4 f (y + 2))), .int 6, .int (nI y)], M1) _
              have hu_158 := by4_lt f (y + 2)
              refine ps_st (S' := (162, [(0, .ref m0), (2, .int (nI (p + 6))), (3, .int (nI e)), (4, .int (nI x)), (5, .long (nL (by4 f (p + 10)))), (7, .int (nI y)), (8, .int (nI (by2 f (p + 14 + by4 f (p + 10))))), (9, .int (nI (p + 14 + by4 f (p + 10) + 2))), (10, .int (nI (p + 14 + by4 f (p + 10) + 2 + 8 * by2 f (p + 14 + by4 f (p + 10))))), (11, .int (nI (by2 f (p + 14 + by4 f (p + 10) + 2 + 8 * by2 f (p + 14 + by4 f (p + 10)))))), (12, .int (nI i))], [.int (Int64.toInt32 (nL (by4 f (y + 2)))), .int 6, .int (nI y)], M1)) rfl rfl rfl ?_
              rw [l2i_nL (p := by4 f (y + 2)) (by omega)]
              show pl _ _ _ (_, [(0, .ref m0), (2, .int (nI (p + 6))), (3, .int (nI e)), (4, .int (nI x)), (5, .long (nL (by4 f (p + 10)))), (7, .int (nI y)), (8, .int (nI (by2 f (p + 14 + by4 f (p + 10))))), (9, .int (nI (p + 14 + by4 f (p + 10) + 2))), (10, .int (nI (p + 14 + by4 f (p + 10) + 2 + 8 * by2 f (p + 14 + by4 f (p + 10))))), (11, .int (nI (by2 f (p + 14 + by4 f (p + 10) + 2 + 8 * by2 f (p + 14 + by4 f (p + 10)))))), (12, .int (nI i))], [.int (nI (by4 f (y + 2))), .int 6, .int (nI y)], M1) _
              refine ps_st (S' := (163, [(0, .ref m0), (2, .int (nI (p + 6))), (3, .int (nI e)), (4, .int (nI x)), (5, .long (nL (by4 f (p + 10)))), (7, .int (nI y)), (8, .int (nI (by2 f (p + 14 + by4 f (p + 10))))), (9, .int (nI (p + 14 + by4 f (p + 10) + 2))), (10, .int (nI (p + 14 + by4 f (p + 10) + 2 + 8 * by2 f (p + 14 + by4 f (p + 10))))), (11, .int (nI (by2 f (p + 14 + by4 f (p + 10) + 2 + 8 * by2 f (p + 14 + by4 f (p + 10)))))), (12, .int (nI i))], [.int (6 + (nI (by4 f (y + 2)))), .int (nI y)], M1)) rfl rfl rfl ?_
              rw [nI_add2 (p := 6) (k := by4 f (y + 2)) (x := 6) (y := (nI (by4 f (y + 2)))) rfl rfl (by omega)]
              show pl _ _ _ (_, [(0, .ref m0), (2, .int (nI (p + 6))), (3, .int (nI e)), (4, .int (nI x)), (5, .long (nL (by4 f (p + 10)))), (7, .int (nI y)), (8, .int (nI (by2 f (p + 14 + by4 f (p + 10))))), (9, .int (nI (p + 14 + by4 f (p + 10) + 2))), (10, .int (nI (p + 14 + by4 f (p + 10) + 2 + 8 * by2 f (p + 14 + by4 f (p + 10))))), (11, .int (nI (by2 f (p + 14 + by4 f (p + 10) + 2 + 8 * by2 f (p + 14 + by4 f (p + 10)))))), (12, .int (nI i))], [.int (nI (6 + by4 f (y + 2))), .int (nI y)], M1) _
              refine ps_st (S' := (164, [(0, .ref m0), (2, .int (nI (p + 6))), (3, .int (nI e)), (4, .int (nI x)), (5, .long (nL (by4 f (p + 10)))), (7, .int (nI y)), (8, .int (nI (by2 f (p + 14 + by4 f (p + 10))))), (9, .int (nI (p + 14 + by4 f (p + 10) + 2))), (10, .int (nI (p + 14 + by4 f (p + 10) + 2 + 8 * by2 f (p + 14 + by4 f (p + 10))))), (11, .int (nI (by2 f (p + 14 + by4 f (p + 10) + 2 + 8 * by2 f (p + 14 + by4 f (p + 10)))))), (12, .int (nI i))], [.int ((nI y) + (nI (6 + by4 f (y + 2))))], M1)) rfl rfl rfl ?_
              rw [nI_add1 (p := y) (k := 6 + by4 f (y + 2)) (x := (nI (6 + by4 f (y + 2)))) rfl (by omega)]
              rw [show nI (y + (6 + by4 f (y + 2))) = nI (y + 6 + by4 f (y + 2)) from congrArg nI (by omega)]
              show pl _ _ _ (_, [(0, .ref m0), (2, .int (nI (p + 6))), (3, .int (nI e)), (4, .int (nI x)), (5, .long (nL (by4 f (p + 10)))), (7, .int (nI y)), (8, .int (nI (by2 f (p + 14 + by4 f (p + 10))))), (9, .int (nI (p + 14 + by4 f (p + 10) + 2))), (10, .int (nI (p + 14 + by4 f (p + 10) + 2 + 8 * by2 f (p + 14 + by4 f (p + 10))))), (11, .int (nI (by2 f (p + 14 + by4 f (p + 10) + 2 + 8 * by2 f (p + 14 + by4 f (p + 10)))))), (12, .int (nI i))], [.int (nI (y + 6 + by4 f (y + 2)))], M1) _
              refine ps_st (S' := (166, [(7, .int (nI (y + 6 + by4 f (y + 2)))), (0, .ref m0), (2, .int (nI (p + 6))), (3, .int (nI e)), (4, .int (nI x)), (5, .long (nL (by4 f (p + 10)))), (8, .int (nI (by2 f (p + 14 + by4 f (p + 10))))), (9, .int (nI (p + 14 + by4 f (p + 10) + 2))), (10, .int (nI (p + 14 + by4 f (p + 10) + 2 + 8 * by2 f (p + 14 + by4 f (p + 10))))), (11, .int (nI (by2 f (p + 14 + by4 f (p + 10) + 2 + 8 * by2 f (p + 14 + by4 f (p + 10)))))), (12, .int (nI i))], [], M1)) rfl rfl rfl ?_
              refine ps_st (S' := (169, [(12, .int ((nI i) + 1)), (7, .int (nI (y + 6 + by4 f (y + 2)))), (0, .ref m0), (2, .int (nI (p + 6))), (3, .int (nI e)), (4, .int (nI x)), (5, .long (nL (by4 f (p + 10)))), (8, .int (nI (by2 f (p + 14 + by4 f (p + 10))))), (9, .int (nI (p + 14 + by4 f (p + 10) + 2))), (10, .int (nI (p + 14 + by4 f (p + 10) + 2 + 8 * by2 f (p + 14 + by4 f (p + 10))))), (11, .int (nI (by2 f (p + 14 + by4 f (p + 10) + 2 + 8 * by2 f (p + 14 + by4 f (p + 10))))))], [], M1)) rfl rfl rfl ?_
              rw [nI_add1 (p := i) (k := 1) (x := 1) rfl (by omega)]
              show pl _ _ _ (_, [(12, .int (nI (i + 1))), (7, .int (nI (y + 6 + by4 f (y + 2)))), (0, .ref m0), (2, .int (nI (p + 6))), (3, .int (nI e)), (4, .int (nI x)), (5, .long (nL (by4 f (p + 10)))), (8, .int (nI (by2 f (p + 14 + by4 f (p + 10))))), (9, .int (nI (p + 14 + by4 f (p + 10) + 2))), (10, .int (nI (p + 14 + by4 f (p + 10) + 2 + 8 * by2 f (p + 14 + by4 f (p + 10))))), (11, .int (nI (by2 f (p + 14 + by4 f (p + 10) + 2 + 8 * by2 f (p + 14 + by4 f (p + 10))))))], [], M1) _
              refine ps_st (S' := (110, [(0, .ref m0), (2, .int (nI (p + 6))), (3, .int (nI e)), (4, .int (nI x)), (5, .long (nL (by4 f (p + 10)))), (7, .int (nI (y + 6 + by4 f (y + 2)))), (8, .int (nI (by2 f (p + 14 + by4 f (p + 10))))), (9, .int (nI (p + 14 + by4 f (p + 10) + 2))), (10, .int (nI (p + 14 + by4 f (p + 10) + 2 + 8 * by2 f (p + 14 + by4 f (p + 10))))), (11, .int (nI (by2 f (p + 14 + by4 f (p + 10) + 2 + 8 * by2 f (p + 14 + by4 f (p + 10)))))), (12, .int (nI (i + 1)))], [], M1)) rfl rfl rfl ?_
              exact ih.1 (i + 1) (y + 6 + by4 f (y + 2)) M1 I1 R1 hR1 hEI1 hER1 hl51 hl52 hl53 hF1 hY1 hP1 hK1 (hr) (hb) (by omega) (by omega) (by
                  rw [← hg, s_atE_st (i := i) (p := y) (by omega), if_neg (by omega), if_neg (by omega)])
            · have n_143 : ¬ (by4 f (y + 2) ≤ (e - y) - 6) := fun h9 => of_decide_eq_false c_143 ((cL_le (p := by4 f (y + 2)) (k := (e - y) - 6) (x := (nL (by4 f (y + 2)))) (y := (nL ((e - y) - 6))) rfl rfl (by omega) (by omega)).mpr h9)
              refine ps_st (S' := (148, [], [.int 30], M1)) rfl rfl rfl ?_
              exact ps_ret rfl rfl (Or.inl ⟨I1, R1, by
                  rw [cdE_of]
                  rw [if_neg (by omega), if_neg (by omega), if_neg (by omega), ← hg]
                  rw [s_atE_st (i := i) (p := y) (by omega), if_neg (by omega), if_pos (by omega)]
                  exact (fun h9 => (by cases h9)), rfl, hR1, hEI1, hER1⟩)
      · skip
        intro i M1 I1 R1 hR1 hEI1 hER1 hl51 hl52 hl53 hF1 hY1 hP1 hK1 hr hb hce h41 h42 hi hw9
        have hn := hF1.1
        have hu9 := by2_lt f (p + 14 + by4 f (p + 10))
        have hu8 := by2_lt f (p + 14 + by4 f (p + 10) + 2 + 8 * by2 f (p + 14 + by4 f (p + 10)))
        have htl := hY1.1.2.2.1
        refine ps_st1 (S' := (252, [(0, .ref m0), (2, .int (nI (p + 6))), (4, .int (nI x)), (5, .long (nL (by4 f (p + 10)))), (8, .int (nI (by2 f (p + 14 + by4 f (p + 10))))), (9, .int (nI (p + 14 + by4 f (p + 10) + 2))), (10, .int (nI (p + 14 + by4 f (p + 10) + 2 + 8 * by2 f (p + 14 + by4 f (p + 10))))), (13, .int (nI i))], [.int (nI i)], M1)) rfl rfl rfl ?_
        refine ps_st (S' := (254, [(0, .ref m0), (2, .int (nI (p + 6))), (4, .int (nI x)), (5, .long (nL (by4 f (p + 10)))), (8, .int (nI (by2 f (p + 14 + by4 f (p + 10))))), (9, .int (nI (p + 14 + by4 f (p + 10) + 2))), (10, .int (nI (p + 14 + by4 f (p + 10) + 2 + 8 * by2 f (p + 14 + by4 f (p + 10))))), (13, .int (nI i))], [.int (nI (by2 f (p + 14 + by4 f (p + 10)))), .int (nI i)], M1)) rfl rfl rfl ?_
        refine ps_if2 (S1 := (353, [(0, .ref m0), (2, .int (nI (p + 6))), (4, .int (nI x)), (5, .long (nL (by4 f (p + 10)))), (8, .int (nI (by2 f (p + 14 + by4 f (p + 10))))), (9, .int (nI (p + 14 + by4 f (p + 10) + 2))), (10, .int (nI (p + 14 + by4 f (p + 10) + 2 + 8 * by2 f (p + 14 + by4 f (p + 10))))), (13, .int (nI i))], [], M1)) (S2 := (257, [(0, .ref m0), (2, .int (nI (p + 6))), (4, .int (nI x)), (5, .long (nL (by4 f (p + 10)))), (8, .int (nI (by2 f (p + 14 + by4 f (p + 10))))), (9, .int (nI (p + 14 + by4 f (p + 10) + 2))), (10, .int (nI (p + 14 + by4 f (p + 10) + 2 + 8 * by2 f (p + 14 + by4 f (p + 10))))), (13, .int (nI i))], [], M1)) rfl rfl rfl (fun c_254 => ?_) (fun c_254 => ?_)
        · have c_254 : (nI (by2 f (p + 14 + by4 f (p + 10)))) ≤ (nI i) := of_decide_eq_true c_254
          have n_254 : by2 f (p + 14 + by4 f (p + 10)) ≤ i := (le_nI (p := by2 f (p + 14 + by4 f (p + 10))) (n := i) (Nat.lt_trans (by2_lt _ _) (by decide)) (by omega)).mp c_254
          refine ps_st (S' := (354, [(0, .ref m0), (2, .int (nI (p + 6))), (4, .int (nI x)), (5, .long (nL (by4 f (p + 10)))), (8, .int (nI (by2 f (p + 14 + by4 f (p + 10))))), (9, .int (nI (p + 14 + by4 f (p + 10) + 2))), (10, .int (nI (p + 14 + by4 f (p + 10) + 2 + 8 * by2 f (p + 14 + by4 f (p + 10))))), (13, .int (nI i))], [.ref m0], M1)) rfl rfl rfl ?_
          refine pr_ref (j := 39) (S' := (357, [(0, .ref m0), (2, .int (nI (p + 6))), (4, .int (nI x)), (5, .long (nL (by4 f (p + 10)))), (8, .int (nI (by2 f (p + 14 + by4 f (p + 10))))), (9, .int (nI (p + 14 + by4 f (p + 10) + 2))), (10, .int (nI (p + 14 + by4 f (p + 10) + 2 + 8 * by2 f (p + 14 + by4 f (p + 10))))), (13, .int (nI i))], [.ref (q 39)], M1)) rfl hR1 rfl rfl ?_
          refine ps_st (S' := (359, [(0, .ref m0), (2, .int (nI (p + 6))), (4, .int (nI x)), (5, .long (nL (by4 f (p + 10)))), (8, .int (nI (by2 f (p + 14 + by4 f (p + 10))))), (9, .int (nI (p + 14 + by4 f (p + 10) + 2))), (10, .int (nI (p + 14 + by4 f (p + 10) + 2 + 8 * by2 f (p + 14 + by4 f (p + 10))))), (13, .int (nI i))], [.int (nI x), .ref (q 39)], M1)) rfl rfl rfl ?_
          refine ps_st (S' := (360, [(0, .ref m0), (2, .int (nI (p + 6))), (4, .int (nI x)), (5, .long (nL (by4 f (p + 10)))), (8, .int (nI (by2 f (p + 14 + by4 f (p + 10))))), (9, .int (nI (p + 14 + by4 f (p + 10) + 2))), (10, .int (nI (p + 14 + by4 f (p + 10) + 2 + 8 * by2 f (p + 14 + by4 f (p + 10))))), (13, .int (nI i))], [.ref m0, .int (nI x), .ref (q 39)], M1)) rfl rfl rfl ?_
          refine ps_st (S' := (361, [(0, .ref m0), (2, .int (nI (p + 6))), (4, .int (nI x)), (5, .long (nL (by4 f (p + 10)))), (8, .int (nI (by2 f (p + 14 + by4 f (p + 10))))), (9, .int (nI (p + 14 + by4 f (p + 10) + 2))), (10, .int (nI (p + 14 + by4 f (p + 10) + 2 + 8 * by2 f (p + 14 + by4 f (p + 10))))), (13, .int (nI i))], [.int (nI (p + 6)), .ref m0, .int (nI x), .ref (q 39)], M1)) rfl rfl rfl ?_
          refine pl_call (a := [.ref m0, .int (nI (p + 6))]) (rest := [.int (nI x), .ref (q 39)]) rfl rfl rfl (rd_u2 (n := n) (f := f) (p := (p + 6)) hR1 hF1 (by omega)) (fun v16 M17 q18 => ?_)
          obtain ⟨rfl, rfl⟩ := q18
          show pl _ _ _ (364, [(0, .ref m0), (2, .int (nI (p + 6))), (4, .int (nI x)), (5, .long (nL (by4 f (p + 10)))), (8, .int (nI (by2 f (p + 14 + by4 f (p + 10))))), (9, .int (nI (p + 14 + by4 f (p + 10) + 2))), (10, .int (nI (p + 14 + by4 f (p + 10) + 2 + 8 * by2 f (p + 14 + by4 f (p + 10))))), (13, .int (nI i))], [.int (nI (by2 f (p + 6))), .int (nI x), .ref (q 39)], M1) _
          have hu_361 := by2_lt f (p + 6)
          refine pr_st (a := 39) (j := x) rfl hR1 rfl (by omega) (fun M19 R20 i1_364 hR21 hS22 => ?_)
          have hF_23 := hF1.mono (fun _ _ => rfl) (rRx hS22 (by decide))
          have hY_24 := hY1.mono (fun _ _ => rfl) (rRx hS22 (by decide))
          have hP_25 := hP1.mono (fun _ _ => rfl) (rRx hS22 (by decide))
          have hK_26 := hK1.mono (fun _ _ => rfl) (rRx hS22 (by decide))
          have hER27 := hER1.st hS22 (by decide)
          show pl _ _ _ (365, [(0, .ref m0), (2, .int (nI (p + 6))), (4, .int (nI x)), (5, .long (nL (by4 f (p + 10)))), (8, .int (nI (by2 f (p + 14 + by4 f (p + 10))))), (9, .int (nI (p + 14 + by4 f (p + 10) + 2))), (10, .int (nI (p + 14 + by4 f (p + 10) + 2 + 8 * by2 f (p + 14 + by4 f (p + 10))))), (13, .int (nI i))], [], M19) _
          refine ps_st (S' := (366, [(0, .ref m0), (2, .int (nI (p + 6))), (4, .int (nI x)), (5, .long (nL (by4 f (p + 10)))), (8, .int (nI (by2 f (p + 14 + by4 f (p + 10))))), (9, .int (nI (p + 14 + by4 f (p + 10) + 2))), (10, .int (nI (p + 14 + by4 f (p + 10) + 2 + 8 * by2 f (p + 14 + by4 f (p + 10))))), (13, .int (nI i))], [.ref m0], M19)) rfl rfl rfl ?_
          refine pr_ref (j := 40) (S' := (369, [(0, .ref m0), (2, .int (nI (p + 6))), (4, .int (nI x)), (5, .long (nL (by4 f (p + 10)))), (8, .int (nI (by2 f (p + 14 + by4 f (p + 10))))), (9, .int (nI (p + 14 + by4 f (p + 10) + 2))), (10, .int (nI (p + 14 + by4 f (p + 10) + 2 + 8 * by2 f (p + 14 + by4 f (p + 10))))), (13, .int (nI i))], [.ref (q 40)], M19)) rfl hR21 rfl rfl ?_
          refine ps_st (S' := (371, [(0, .ref m0), (2, .int (nI (p + 6))), (4, .int (nI x)), (5, .long (nL (by4 f (p + 10)))), (8, .int (nI (by2 f (p + 14 + by4 f (p + 10))))), (9, .int (nI (p + 14 + by4 f (p + 10) + 2))), (10, .int (nI (p + 14 + by4 f (p + 10) + 2 + 8 * by2 f (p + 14 + by4 f (p + 10))))), (13, .int (nI i))], [.int (nI x), .ref (q 40)], M19)) rfl rfl rfl ?_
          refine ps_st (S' := (372, [(0, .ref m0), (2, .int (nI (p + 6))), (4, .int (nI x)), (5, .long (nL (by4 f (p + 10)))), (8, .int (nI (by2 f (p + 14 + by4 f (p + 10))))), (9, .int (nI (p + 14 + by4 f (p + 10) + 2))), (10, .int (nI (p + 14 + by4 f (p + 10) + 2 + 8 * by2 f (p + 14 + by4 f (p + 10))))), (13, .int (nI i))], [.ref m0, .int (nI x), .ref (q 40)], M19)) rfl rfl rfl ?_
          refine ps_st (S' := (373, [(0, .ref m0), (2, .int (nI (p + 6))), (4, .int (nI x)), (5, .long (nL (by4 f (p + 10)))), (8, .int (nI (by2 f (p + 14 + by4 f (p + 10))))), (9, .int (nI (p + 14 + by4 f (p + 10) + 2))), (10, .int (nI (p + 14 + by4 f (p + 10) + 2 + 8 * by2 f (p + 14 + by4 f (p + 10))))), (13, .int (nI i))], [.int (nI (p + 6)), .ref m0, .int (nI x), .ref (q 40)], M19)) rfl rfl rfl ?_
          refine ps_st (S' := (374, [(0, .ref m0), (2, .int (nI (p + 6))), (4, .int (nI x)), (5, .long (nL (by4 f (p + 10)))), (8, .int (nI (by2 f (p + 14 + by4 f (p + 10))))), (9, .int (nI (p + 14 + by4 f (p + 10) + 2))), (10, .int (nI (p + 14 + by4 f (p + 10) + 2 + 8 * by2 f (p + 14 + by4 f (p + 10))))), (13, .int (nI i))], [.int 2, .int (nI (p + 6)), .ref m0, .int (nI x), .ref (q 40)], M19)) rfl rfl rfl ?_
          refine ps_st (S' := (375, [(0, .ref m0), (2, .int (nI (p + 6))), (4, .int (nI x)), (5, .long (nL (by4 f (p + 10)))), (8, .int (nI (by2 f (p + 14 + by4 f (p + 10))))), (9, .int (nI (p + 14 + by4 f (p + 10) + 2))), (10, .int (nI (p + 14 + by4 f (p + 10) + 2 + 8 * by2 f (p + 14 + by4 f (p + 10))))), (13, .int (nI i))], [.int ((nI (p + 6)) + 2), .ref m0, .int (nI x), .ref (q 40)], M19)) rfl rfl rfl ?_
          rw [nI_add1 (p := p + 6) (k := 2) (x := 2) rfl (by omega)]
          show pl _ _ _ (_, [(0, .ref m0), (2, .int (nI (p + 6))), (4, .int (nI x)), (5, .long (nL (by4 f (p + 10)))), (8, .int (nI (by2 f (p + 14 + by4 f (p + 10))))), (9, .int (nI (p + 14 + by4 f (p + 10) + 2))), (10, .int (nI (p + 14 + by4 f (p + 10) + 2 + 8 * by2 f (p + 14 + by4 f (p + 10))))), (13, .int (nI i))], [.int (nI (p + 8)), .ref m0, .int (nI x), .ref (q 40)], M19) _
          refine pl_call (a := [.ref m0, .int (nI (p + 8))]) (rest := [.int (nI x), .ref (q 40)]) rfl rfl rfl (rd_u2 (n := n) (f := f) (p := (p + 8)) hR21 hF_23 (by omega)) (fun v28 M29 q30 => ?_)
          obtain ⟨rfl, rfl⟩ := q30
          show pl _ _ _ (378, [(0, .ref m0), (2, .int (nI (p + 6))), (4, .int (nI x)), (5, .long (nL (by4 f (p + 10)))), (8, .int (nI (by2 f (p + 14 + by4 f (p + 10))))), (9, .int (nI (p + 14 + by4 f (p + 10) + 2))), (10, .int (nI (p + 14 + by4 f (p + 10) + 2 + 8 * by2 f (p + 14 + by4 f (p + 10))))), (13, .int (nI i))], [.int (nI (by2 f (p + 8))), .int (nI x), .ref (q 40)], M19) _
          have hu_375 := by2_lt f (p + 8)
          refine pr_st (a := 40) (j := x) rfl hR21 rfl (by omega) (fun M31 R32 i1_378 hR33 hS34 => ?_)
          have hF_35 := hF_23.mono (fun _ _ => rfl) (rRx hS34 (by decide))
          have hY_36 := hY_24.mono (fun _ _ => rfl) (rRx hS34 (by decide))
          have hP_37 := hP_25.mono (fun _ _ => rfl) (rRx hS34 (by decide))
          have hK_38 := hK_26.mono (fun _ _ => rfl) (rRx hS34 (by decide))
          have hER39 := hER27.st hS34 (by decide)
          show pl _ _ _ (379, [(0, .ref m0), (2, .int (nI (p + 6))), (4, .int (nI x)), (5, .long (nL (by4 f (p + 10)))), (8, .int (nI (by2 f (p + 14 + by4 f (p + 10))))), (9, .int (nI (p + 14 + by4 f (p + 10) + 2))), (10, .int (nI (p + 14 + by4 f (p + 10) + 2 + 8 * by2 f (p + 14 + by4 f (p + 10))))), (13, .int (nI i))], [], M31) _
          refine ps_st (S' := (380, [(0, .ref m0), (2, .int (nI (p + 6))), (4, .int (nI x)), (5, .long (nL (by4 f (p + 10)))), (8, .int (nI (by2 f (p + 14 + by4 f (p + 10))))), (9, .int (nI (p + 14 + by4 f (p + 10) + 2))), (10, .int (nI (p + 14 + by4 f (p + 10) + 2 + 8 * by2 f (p + 14 + by4 f (p + 10))))), (13, .int (nI i))], [.ref m0], M31)) rfl rfl rfl ?_
          refine pr_ref (j := 38) (S' := (383, [(0, .ref m0), (2, .int (nI (p + 6))), (4, .int (nI x)), (5, .long (nL (by4 f (p + 10)))), (8, .int (nI (by2 f (p + 14 + by4 f (p + 10))))), (9, .int (nI (p + 14 + by4 f (p + 10) + 2))), (10, .int (nI (p + 14 + by4 f (p + 10) + 2 + 8 * by2 f (p + 14 + by4 f (p + 10))))), (13, .int (nI i))], [.ref (q 38)], M31)) rfl hR33 rfl rfl ?_
          refine ps_st (S' := (385, [(0, .ref m0), (2, .int (nI (p + 6))), (4, .int (nI x)), (5, .long (nL (by4 f (p + 10)))), (8, .int (nI (by2 f (p + 14 + by4 f (p + 10))))), (9, .int (nI (p + 14 + by4 f (p + 10) + 2))), (10, .int (nI (p + 14 + by4 f (p + 10) + 2 + 8 * by2 f (p + 14 + by4 f (p + 10))))), (13, .int (nI i))], [.int (nI x), .ref (q 38)], M31)) rfl rfl rfl ?_
          refine ps_st (S' := (387, [(0, .ref m0), (2, .int (nI (p + 6))), (4, .int (nI x)), (5, .long (nL (by4 f (p + 10)))), (8, .int (nI (by2 f (p + 14 + by4 f (p + 10))))), (9, .int (nI (p + 14 + by4 f (p + 10) + 2))), (10, .int (nI (p + 14 + by4 f (p + 10) + 2 + 8 * by2 f (p + 14 + by4 f (p + 10))))), (13, .int (nI i))], [.long (nL (by4 f (p + 10))), .int (nI x), .ref (q 38)], M31)) rfl rfl rfl ?_
          refine ps_st (S' := (388, [(0, .ref m0), (2, .int (nI (p + 6))), (4, .int (nI x)), (5, .long (nL (by4 f (p + 10)))), (8, .int (nI (by2 f (p + 14 + by4 f (p + 10))))), (9, .int (nI (p + 14 + by4 f (p + 10) + 2))), (10, .int (nI (p + 14 + by4 f (p + 10) + 2 + 8 * by2 f (p + 14 + by4 f (p + 10))))), (13, .int (nI i))], [.int (Int64.toInt32 (nL (by4 f (p + 10)))), .int (nI x), .ref (q 38)], M31)) rfl rfl rfl ?_
          rw [l2i_nL (p := by4 f (p + 10)) (by omega)]
          show pl _ _ _ (_, [(0, .ref m0), (2, .int (nI (p + 6))), (4, .int (nI x)), (5, .long (nL (by4 f (p + 10)))), (8, .int (nI (by2 f (p + 14 + by4 f (p + 10))))), (9, .int (nI (p + 14 + by4 f (p + 10) + 2))), (10, .int (nI (p + 14 + by4 f (p + 10) + 2 + 8 * by2 f (p + 14 + by4 f (p + 10))))), (13, .int (nI i))], [.int (nI (by4 f (p + 10))), .int (nI x), .ref (q 38)], M31) _
          refine pr_st (a := 38) (j := x) rfl hR33 rfl (by omega) (fun M40 R41 i1_388 hR42 hS43 => ?_)
          have hF_44 := hF_35.mono (fun _ _ => rfl) (rRx hS43 (by decide))
          have hY_45 := hY_36.mono (fun _ _ => rfl) (rRx hS43 (by decide))
          have hP_46 := hP_37.mono (fun _ _ => rfl) (rRx hS43 (by decide))
          have hK_47 := hK_38.mono (fun _ _ => rfl) (rRx hS43 (by decide))
          have hER48 := hER39.st hS43 (by decide)
          show pl _ _ _ (389, [(0, .ref m0), (2, .int (nI (p + 6))), (4, .int (nI x)), (5, .long (nL (by4 f (p + 10)))), (8, .int (nI (by2 f (p + 14 + by4 f (p + 10))))), (9, .int (nI (p + 14 + by4 f (p + 10) + 2))), (10, .int (nI (p + 14 + by4 f (p + 10) + 2 + 8 * by2 f (p + 14 + by4 f (p + 10))))), (13, .int (nI i))], [], M40) _
          refine ps_st (S' := (390, [(0, .ref m0), (2, .int (nI (p + 6))), (4, .int (nI x)), (5, .long (nL (by4 f (p + 10)))), (8, .int (nI (by2 f (p + 14 + by4 f (p + 10))))), (9, .int (nI (p + 14 + by4 f (p + 10) + 2))), (10, .int (nI (p + 14 + by4 f (p + 10) + 2 + 8 * by2 f (p + 14 + by4 f (p + 10))))), (13, .int (nI i))], [.ref m0], M40)) rfl rfl rfl ?_
          refine pr_ref (j := 37) (S' := (393, [(0, .ref m0), (2, .int (nI (p + 6))), (4, .int (nI x)), (5, .long (nL (by4 f (p + 10)))), (8, .int (nI (by2 f (p + 14 + by4 f (p + 10))))), (9, .int (nI (p + 14 + by4 f (p + 10) + 2))), (10, .int (nI (p + 14 + by4 f (p + 10) + 2 + 8 * by2 f (p + 14 + by4 f (p + 10))))), (13, .int (nI i))], [.ref (q 37)], M40)) rfl hR42 rfl rfl ?_
          refine ps_st (S' := (395, [(0, .ref m0), (2, .int (nI (p + 6))), (4, .int (nI x)), (5, .long (nL (by4 f (p + 10)))), (8, .int (nI (by2 f (p + 14 + by4 f (p + 10))))), (9, .int (nI (p + 14 + by4 f (p + 10) + 2))), (10, .int (nI (p + 14 + by4 f (p + 10) + 2 + 8 * by2 f (p + 14 + by4 f (p + 10))))), (13, .int (nI i))], [.int (nI x), .ref (q 37)], M40)) rfl rfl rfl ?_
          refine ps_st (S' := (396, [(0, .ref m0), (2, .int (nI (p + 6))), (4, .int (nI x)), (5, .long (nL (by4 f (p + 10)))), (8, .int (nI (by2 f (p + 14 + by4 f (p + 10))))), (9, .int (nI (p + 14 + by4 f (p + 10) + 2))), (10, .int (nI (p + 14 + by4 f (p + 10) + 2 + 8 * by2 f (p + 14 + by4 f (p + 10))))), (13, .int (nI i))], [.ref m0, .int (nI x), .ref (q 37)], M40)) rfl rfl rfl ?_
          refine pr_int (j := 49) (S' := (399, [(0, .ref m0), (2, .int (nI (p + 6))), (4, .int (nI x)), (5, .long (nL (by4 f (p + 10)))), (8, .int (nI (by2 f (p + 14 + by4 f (p + 10))))), (9, .int (nI (p + 14 + by4 f (p + 10) + 2))), (10, .int (nI (p + 14 + by4 f (p + 10) + 2 + 8 * by2 f (p + 14 + by4 f (p + 10))))), (13, .int (nI i))], [.int 0, .int (nI x), .ref (q 37)], M40)) rfl hR42 rfl hF_44.2.1 rfl ?_
          refine ps_st (S' := (400, [(0, .ref m0), (2, .int (nI (p + 6))), (4, .int (nI x)), (5, .long (nL (by4 f (p + 10)))), (8, .int (nI (by2 f (p + 14 + by4 f (p + 10))))), (9, .int (nI (p + 14 + by4 f (p + 10) + 2))), (10, .int (nI (p + 14 + by4 f (p + 10) + 2 + 8 * by2 f (p + 14 + by4 f (p + 10))))), (13, .int (nI i))], [.int (nI (p + 6)), .int 0, .int (nI x), .ref (q 37)], M40)) rfl rfl rfl ?_
          refine ps_st (S' := (401, [(0, .ref m0), (2, .int (nI (p + 6))), (4, .int (nI x)), (5, .long (nL (by4 f (p + 10)))), (8, .int (nI (by2 f (p + 14 + by4 f (p + 10))))), (9, .int (nI (p + 14 + by4 f (p + 10) + 2))), (10, .int (nI (p + 14 + by4 f (p + 10) + 2 + 8 * by2 f (p + 14 + by4 f (p + 10))))), (13, .int (nI i))], [.int (0 + (nI (p + 6))), .int (nI x), .ref (q 37)], M40)) rfl rfl rfl ?_
          rw [show (0 : Int32) + (nI (p + 6)) = (nI (p + 6)) from Int32.zero_add _]
          show pl _ _ _ (_, [(0, .ref m0), (2, .int (nI (p + 6))), (4, .int (nI x)), (5, .long (nL (by4 f (p + 10)))), (8, .int (nI (by2 f (p + 14 + by4 f (p + 10))))), (9, .int (nI (p + 14 + by4 f (p + 10) + 2))), (10, .int (nI (p + 14 + by4 f (p + 10) + 2 + 8 * by2 f (p + 14 + by4 f (p + 10))))), (13, .int (nI i))], [.int (nI (p + 6)), .int (nI x), .ref (q 37)], M40) _
          refine ps_st (S' := (403, [(0, .ref m0), (2, .int (nI (p + 6))), (4, .int (nI x)), (5, .long (nL (by4 f (p + 10)))), (8, .int (nI (by2 f (p + 14 + by4 f (p + 10))))), (9, .int (nI (p + 14 + by4 f (p + 10) + 2))), (10, .int (nI (p + 14 + by4 f (p + 10) + 2 + 8 * by2 f (p + 14 + by4 f (p + 10))))), (13, .int (nI i))], [.int 8, .int (nI (p + 6)), .int (nI x), .ref (q 37)], M40)) rfl rfl rfl ?_
          refine ps_st (S' := (404, [(0, .ref m0), (2, .int (nI (p + 6))), (4, .int (nI x)), (5, .long (nL (by4 f (p + 10)))), (8, .int (nI (by2 f (p + 14 + by4 f (p + 10))))), (9, .int (nI (p + 14 + by4 f (p + 10) + 2))), (10, .int (nI (p + 14 + by4 f (p + 10) + 2 + 8 * by2 f (p + 14 + by4 f (p + 10))))), (13, .int (nI i))], [.int ((nI (p + 6)) + 8), .int (nI x), .ref (q 37)], M40)) rfl rfl rfl ?_
          rw [nI_add1 (p := p + 6) (k := 8) (x := 8) rfl (by omega)]
          show pl _ _ _ (_, [(0, .ref m0), (2, .int (nI (p + 6))), (4, .int (nI x)), (5, .long (nL (by4 f (p + 10)))), (8, .int (nI (by2 f (p + 14 + by4 f (p + 10))))), (9, .int (nI (p + 14 + by4 f (p + 10) + 2))), (10, .int (nI (p + 14 + by4 f (p + 10) + 2 + 8 * by2 f (p + 14 + by4 f (p + 10))))), (13, .int (nI i))], [.int (nI (p + 14)), .int (nI x), .ref (q 37)], M40) _
          refine pr_st (a := 37) (j := x) rfl hR42 rfl (by omega) (fun M49 R50 i1_404 hR51 hS52 => ?_)
          have hF_53 := hF_44.mono (fun _ _ => rfl) (rRx hS52 (by decide))
          have hY_54 := hY_45.mono (fun _ _ => rfl) (rRx hS52 (by decide))
          have hP_55 := hP_46.mono (fun _ _ => rfl) (rRx hS52 (by decide))
          have hK_56 := hK_47.mono (fun _ _ => rfl) (rRx hS52 (by decide))
          have hER57 := hER48.st hS52 (by decide)
          show pl _ _ _ (405, [(0, .ref m0), (2, .int (nI (p + 6))), (4, .int (nI x)), (5, .long (nL (by4 f (p + 10)))), (8, .int (nI (by2 f (p + 14 + by4 f (p + 10))))), (9, .int (nI (p + 14 + by4 f (p + 10) + 2))), (10, .int (nI (p + 14 + by4 f (p + 10) + 2 + 8 * by2 f (p + 14 + by4 f (p + 10))))), (13, .int (nI i))], [], M49) _
          refine ps_st (S' := (406, [(0, .ref m0), (2, .int (nI (p + 6))), (4, .int (nI x)), (5, .long (nL (by4 f (p + 10)))), (8, .int (nI (by2 f (p + 14 + by4 f (p + 10))))), (9, .int (nI (p + 14 + by4 f (p + 10) + 2))), (10, .int (nI (p + 14 + by4 f (p + 10) + 2 + 8 * by2 f (p + 14 + by4 f (p + 10))))), (13, .int (nI i))], [.ref m0], M49)) rfl rfl rfl ?_
          refine pr_ref (j := 41) (S' := (409, [(0, .ref m0), (2, .int (nI (p + 6))), (4, .int (nI x)), (5, .long (nL (by4 f (p + 10)))), (8, .int (nI (by2 f (p + 14 + by4 f (p + 10))))), (9, .int (nI (p + 14 + by4 f (p + 10) + 2))), (10, .int (nI (p + 14 + by4 f (p + 10) + 2 + 8 * by2 f (p + 14 + by4 f (p + 10))))), (13, .int (nI i))], [.ref (q 41)], M49)) rfl hR51 rfl rfl ?_
          refine ps_st (S' := (411, [(0, .ref m0), (2, .int (nI (p + 6))), (4, .int (nI x)), (5, .long (nL (by4 f (p + 10)))), (8, .int (nI (by2 f (p + 14 + by4 f (p + 10))))), (9, .int (nI (p + 14 + by4 f (p + 10) + 2))), (10, .int (nI (p + 14 + by4 f (p + 10) + 2 + 8 * by2 f (p + 14 + by4 f (p + 10))))), (13, .int (nI i))], [.int (nI x), .ref (q 41)], M49)) rfl rfl rfl ?_
          refine ps_st (S' := (412, [(0, .ref m0), (2, .int (nI (p + 6))), (4, .int (nI x)), (5, .long (nL (by4 f (p + 10)))), (8, .int (nI (by2 f (p + 14 + by4 f (p + 10))))), (9, .int (nI (p + 14 + by4 f (p + 10) + 2))), (10, .int (nI (p + 14 + by4 f (p + 10) + 2 + 8 * by2 f (p + 14 + by4 f (p + 10))))), (13, .int (nI i))], [.ref m0, .int (nI x), .ref (q 41)], M49)) rfl rfl rfl ?_
          refine pr_int (j := 49) (S' := (415, [(0, .ref m0), (2, .int (nI (p + 6))), (4, .int (nI x)), (5, .long (nL (by4 f (p + 10)))), (8, .int (nI (by2 f (p + 14 + by4 f (p + 10))))), (9, .int (nI (p + 14 + by4 f (p + 10) + 2))), (10, .int (nI (p + 14 + by4 f (p + 10) + 2 + 8 * by2 f (p + 14 + by4 f (p + 10))))), (13, .int (nI i))], [.int 0, .int (nI x), .ref (q 41)], M49)) rfl hR51 rfl hF_44.2.1 rfl ?_
          refine ps_st (S' := (417, [(0, .ref m0), (2, .int (nI (p + 6))), (4, .int (nI x)), (5, .long (nL (by4 f (p + 10)))), (8, .int (nI (by2 f (p + 14 + by4 f (p + 10))))), (9, .int (nI (p + 14 + by4 f (p + 10) + 2))), (10, .int (nI (p + 14 + by4 f (p + 10) + 2 + 8 * by2 f (p + 14 + by4 f (p + 10))))), (13, .int (nI i))], [.int (nI (p + 14 + by4 f (p + 10) + 2)), .int 0, .int (nI x), .ref (q 41)], M49)) rfl rfl rfl ?_
          refine ps_st (S' := (418, [(0, .ref m0), (2, .int (nI (p + 6))), (4, .int (nI x)), (5, .long (nL (by4 f (p + 10)))), (8, .int (nI (by2 f (p + 14 + by4 f (p + 10))))), (9, .int (nI (p + 14 + by4 f (p + 10) + 2))), (10, .int (nI (p + 14 + by4 f (p + 10) + 2 + 8 * by2 f (p + 14 + by4 f (p + 10))))), (13, .int (nI i))], [.int (0 + (nI (p + 14 + by4 f (p + 10) + 2))), .int (nI x), .ref (q 41)], M49)) rfl rfl rfl ?_
          rw [show (0 : Int32) + (nI (p + 14 + by4 f (p + 10) + 2)) = (nI (p + 14 + by4 f (p + 10) + 2)) from Int32.zero_add _]
          show pl _ _ _ (_, [(0, .ref m0), (2, .int (nI (p + 6))), (4, .int (nI x)), (5, .long (nL (by4 f (p + 10)))), (8, .int (nI (by2 f (p + 14 + by4 f (p + 10))))), (9, .int (nI (p + 14 + by4 f (p + 10) + 2))), (10, .int (nI (p + 14 + by4 f (p + 10) + 2 + 8 * by2 f (p + 14 + by4 f (p + 10))))), (13, .int (nI i))], [.int (nI (p + 14 + by4 f (p + 10) + 2)), .int (nI x), .ref (q 41)], M49) _
          refine pr_st (a := 41) (j := x) rfl hR51 rfl (by omega) (fun M58 R59 i1_418 hR60 hS61 => ?_)
          have hF_62 := hF_53.mono (fun _ _ => rfl) (rRx hS61 (by decide))
          have hY_63 := hY_54.mono (fun _ _ => rfl) (rRx hS61 (by decide))
          have hP_64 := hP_55.mono (fun _ _ => rfl) (rRx hS61 (by decide))
          have hK_65 := hK_56.mono (fun _ _ => rfl) (rRx hS61 (by decide))
          have hER66 := hER57.st hS61 (by decide)
          show pl _ _ _ (419, [(0, .ref m0), (2, .int (nI (p + 6))), (4, .int (nI x)), (5, .long (nL (by4 f (p + 10)))), (8, .int (nI (by2 f (p + 14 + by4 f (p + 10))))), (9, .int (nI (p + 14 + by4 f (p + 10) + 2))), (10, .int (nI (p + 14 + by4 f (p + 10) + 2 + 8 * by2 f (p + 14 + by4 f (p + 10))))), (13, .int (nI i))], [], M58) _
          refine ps_st (S' := (420, [(0, .ref m0), (2, .int (nI (p + 6))), (4, .int (nI x)), (5, .long (nL (by4 f (p + 10)))), (8, .int (nI (by2 f (p + 14 + by4 f (p + 10))))), (9, .int (nI (p + 14 + by4 f (p + 10) + 2))), (10, .int (nI (p + 14 + by4 f (p + 10) + 2 + 8 * by2 f (p + 14 + by4 f (p + 10))))), (13, .int (nI i))], [.ref m0], M58)) rfl rfl rfl ?_
          refine pr_ref (j := 42) (S' := (423, [(0, .ref m0), (2, .int (nI (p + 6))), (4, .int (nI x)), (5, .long (nL (by4 f (p + 10)))), (8, .int (nI (by2 f (p + 14 + by4 f (p + 10))))), (9, .int (nI (p + 14 + by4 f (p + 10) + 2))), (10, .int (nI (p + 14 + by4 f (p + 10) + 2 + 8 * by2 f (p + 14 + by4 f (p + 10))))), (13, .int (nI i))], [.ref (q 42)], M58)) rfl hR60 rfl rfl ?_
          refine ps_st (S' := (425, [(0, .ref m0), (2, .int (nI (p + 6))), (4, .int (nI x)), (5, .long (nL (by4 f (p + 10)))), (8, .int (nI (by2 f (p + 14 + by4 f (p + 10))))), (9, .int (nI (p + 14 + by4 f (p + 10) + 2))), (10, .int (nI (p + 14 + by4 f (p + 10) + 2 + 8 * by2 f (p + 14 + by4 f (p + 10))))), (13, .int (nI i))], [.int (nI x), .ref (q 42)], M58)) rfl rfl rfl ?_
          refine ps_st (S' := (427, [(0, .ref m0), (2, .int (nI (p + 6))), (4, .int (nI x)), (5, .long (nL (by4 f (p + 10)))), (8, .int (nI (by2 f (p + 14 + by4 f (p + 10))))), (9, .int (nI (p + 14 + by4 f (p + 10) + 2))), (10, .int (nI (p + 14 + by4 f (p + 10) + 2 + 8 * by2 f (p + 14 + by4 f (p + 10))))), (13, .int (nI i))], [.int (nI (by2 f (p + 14 + by4 f (p + 10)))), .int (nI x), .ref (q 42)], M58)) rfl rfl rfl ?_
          refine pr_st (a := 42) (j := x) rfl hR60 rfl (by omega) (fun M67 R68 i1_427 hR69 hS70 => ?_)
          have hF_71 := hF_62.mono (fun _ _ => rfl) (rRx hS70 (by decide))
          have hY_72 := hY_63.mono (fun _ _ => rfl) (rRx hS70 (by decide))
          have hP_73 := hP_64.mono (fun _ _ => rfl) (rRx hS70 (by decide))
          have hK_74 := hK_65.mono (fun _ _ => rfl) (rRx hS70 (by decide))
          have hER75 := hER66.st hS70 (by decide)
          show pl _ _ _ (428, [(0, .ref m0), (2, .int (nI (p + 6))), (4, .int (nI x)), (5, .long (nL (by4 f (p + 10)))), (8, .int (nI (by2 f (p + 14 + by4 f (p + 10))))), (9, .int (nI (p + 14 + by4 f (p + 10) + 2))), (10, .int (nI (p + 14 + by4 f (p + 10) + 2 + 8 * by2 f (p + 14 + by4 f (p + 10))))), (13, .int (nI i))], [], M67) _
          refine ps_st (S' := (429, [(0, .ref m0), (2, .int (nI (p + 6))), (4, .int (nI x)), (5, .long (nL (by4 f (p + 10)))), (8, .int (nI (by2 f (p + 14 + by4 f (p + 10))))), (9, .int (nI (p + 14 + by4 f (p + 10) + 2))), (10, .int (nI (p + 14 + by4 f (p + 10) + 2 + 8 * by2 f (p + 14 + by4 f (p + 10))))), (13, .int (nI i))], [.ref m0], M67)) rfl rfl rfl ?_
          refine ps_st (S' := (431, [(0, .ref m0), (2, .int (nI (p + 6))), (4, .int (nI x)), (5, .long (nL (by4 f (p + 10)))), (8, .int (nI (by2 f (p + 14 + by4 f (p + 10))))), (9, .int (nI (p + 14 + by4 f (p + 10) + 2))), (10, .int (nI (p + 14 + by4 f (p + 10) + 2 + 8 * by2 f (p + 14 + by4 f (p + 10))))), (13, .int (nI i))], [.int (nI (p + 14 + by4 f (p + 10) + 2 + 8 * by2 f (p + 14 + by4 f (p + 10)))), .ref m0], M67)) rfl rfl rfl ?_
          refine ps_st (S' := (432, [(0, .ref m0), (2, .int (nI (p + 6))), (4, .int (nI x)), (5, .long (nL (by4 f (p + 10)))), (8, .int (nI (by2 f (p + 14 + by4 f (p + 10))))), (9, .int (nI (p + 14 + by4 f (p + 10) + 2))), (10, .int (nI (p + 14 + by4 f (p + 10) + 2 + 8 * by2 f (p + 14 + by4 f (p + 10))))), (13, .int (nI i))], [.int 3, .int (nI (p + 14 + by4 f (p + 10) + 2 + 8 * by2 f (p + 14 + by4 f (p + 10)))), .ref m0], M67)) rfl rfl rfl ?_
          refine ps_st (S' := (434, [(0, .ref m0), (2, .int (nI (p + 6))), (4, .int (nI x)), (5, .long (nL (by4 f (p + 10)))), (8, .int (nI (by2 f (p + 14 + by4 f (p + 10))))), (9, .int (nI (p + 14 + by4 f (p + 10) + 2))), (10, .int (nI (p + 14 + by4 f (p + 10) + 2 + 8 * by2 f (p + 14 + by4 f (p + 10))))), (13, .int (nI i))], [.int (nI x), .int 3, .int (nI (p + 14 + by4 f (p + 10) + 2 + 8 * by2 f (p + 14 + by4 f (p + 10)))), .ref m0], M67)) rfl rfl rfl ?_
          have h37a : R68 37 x = some (nI (p + 14)) := by rw [hS70, rset_ne (by decide), hS61, rset_ne (by decide), hS52, rset_at]
          have hcd := (s_cdE_in hce).2.2
          refine pl_call (a := [.ref m0, .int (nI (p + 14 + by4 f (p + 10) + 2 + 8 * by2 f (p + 14 + by4 f (p + 10)))), .int 3, .int (nI x)]) (rest := []) rfl rfl rfl (rd_checkAttributes3 (n := n) (f := f) (tx := tx) (cN := cN) (A := A) (N := N) (mj := mj) (E := E) (p1 := (p + 14 + by4 f (p + 10) + 2 + 8 * by2 f (p + 14 + by4 f (p + 10)))) (e := e) (x := x) hR69 hl51 hl52 hl53 hF_71 hY_72 hP_73 hK_74 (hEP) (hN) (hmj) (by omega) (hcd)) (fun v76 M77 q78 => ?_)
          rcases q78 with q78 | q78
          · skip
            obtain ⟨e979, I80, R81, q434_s, rfl, hR82, hI83, hX84, hi85, hi86⟩ := q78
            have hi87 := (hI83 51 (by decide)).trans hl51
            have hi88 := (hI83 52 (by decide)).trans hl52
            have hi89 := (hI83 53 (by decide)).trans hl53
            have hi90 := (hI83 49 (by decide)).trans hF_44.2.1
            have hF_91 := hF_71.mono (cIx hI83 (by decide)) (cRx hX84 (by decide))
            have hY_92 := hY_72.mono (cIx hI83 (by decide)) (cRx hX84 (by decide))
            have hP_93 := hP_73.mono (cIx hI83 (by decide)) (cRx hX84 (by decide))
            have hK_94 := hK_74.mono (cIx hI83 (by decide)) (cRx hX84 (by decide))
            have hEI95 := hEI1.tr hI83 (by decide)
            have hER96 := hER75.tr hX84 (by decide)
            show pl _ _ _ (437, [(0, .ref m0), (2, .int (nI (p + 6))), (4, .int (nI x)), (5, .long (nL (by4 f (p + 10)))), (8, .int (nI (by2 f (p + 14 + by4 f (p + 10))))), (9, .int (nI (p + 14 + by4 f (p + 10) + 2))), (10, .int (nI (p + 14 + by4 f (p + 10) + 2 + 8 * by2 f (p + 14 + by4 f (p + 10))))), (13, .int (nI i))], [.int (-1)], M77) _
            refine ps_if (S1 := (444, [(0, .ref m0), (2, .int (nI (p + 6))), (4, .int (nI x)), (5, .long (nL (by4 f (p + 10)))), (8, .int (nI (by2 f (p + 14 + by4 f (p + 10))))), (9, .int (nI (p + 14 + by4 f (p + 10) + 2))), (10, .int (nI (p + 14 + by4 f (p + 10) + 2 + 8 * by2 f (p + 14 + by4 f (p + 10))))), (13, .int (nI i))], [], M77)) (S2 := (440, [(0, .ref m0), (2, .int (nI (p + 6))), (4, .int (nI x)), (5, .long (nL (by4 f (p + 10)))), (8, .int (nI (by2 f (p + 14 + by4 f (p + 10))))), (9, .int (nI (p + 14 + by4 f (p + 10) + 2))), (10, .int (nI (p + 14 + by4 f (p + 10) + 2 + 8 * by2 f (p + 14 + by4 f (p + 10))))), (13, .int (nI i))], [], M77)) rfl rfl rfl (fun c_437 => ?_) (fun c_437 => ?_)
            · exact absurd (of_decide_eq_true c_437) (by decide)
            refine ps_st (S' := (441, [(0, .ref m0), (2, .int (nI (p + 6))), (4, .int (nI x)), (5, .long (nL (by4 f (p + 10)))), (8, .int (nI (by2 f (p + 14 + by4 f (p + 10))))), (9, .int (nI (p + 14 + by4 f (p + 10) + 2))), (10, .int (nI (p + 14 + by4 f (p + 10) + 2 + 8 * by2 f (p + 14 + by4 f (p + 10))))), (13, .int (nI i))], [.int (-1)], M77)) rfl rfl rfl ?_
            refine ps_st (S' := (445, [], [.int (-1)], M77)) rfl rfl rfl ?_
            exact ps_ret rfl rfl (Or.inr (Or.inr (Or.inl ⟨e979, I80, R81, hce, by
                unfold cdS
                rw [if_neg h41, if_neg h42, if_neg (by rw [← hw9, show by2 f (p + 14 + by4 f (p + 10)) - i = 0 by omega]; exact Nat.one_ne_zero)]
                exact q434_s, rfl, hR82, hEI95, hER96, hi85, hi86⟩)))
          · skip
            obtain ⟨s'97, I98, R99, q434_s, rfl, hR100, hI101, hX102⟩ := q78
            have hi103 := (hI101 51 (by decide)).trans hl51
            have hi104 := (hI101 52 (by decide)).trans hl52
            have hi105 := (hI101 53 (by decide)).trans hl53
            have hi106 := (hI101 49 (by decide)).trans hF_44.2.1
            have hF_107 := hF_71.mono (cIx hI101 (by decide)) (cRx hX102 (by decide))
            have hY_108 := hY_72.mono (cIx hI101 (by decide)) (cRx hX102 (by decide))
            have hP_109 := hP_73.mono (cIx hI101 (by decide)) (cRx hX102 (by decide))
            have hK_110 := hK_74.mono (cIx hI101 (by decide)) (cRx hX102 (by decide))
            have hEI111 := hEI1.tr hI101 (by decide)
            have hER112 := hER75.tr hX102 (by decide)
            show pl _ _ _ (437, [(0, .ref m0), (2, .int (nI (p + 6))), (4, .int (nI x)), (5, .long (nL (by4 f (p + 10)))), (8, .int (nI (by2 f (p + 14 + by4 f (p + 10))))), (9, .int (nI (p + 14 + by4 f (p + 10) + 2))), (10, .int (nI (p + 14 + by4 f (p + 10) + 2 + 8 * by2 f (p + 14 + by4 f (p + 10))))), (13, .int (nI i))], [.int (nI e)], M77) _
            have h37 : R99 37 x = some (nI (p + 14)) := by rw [hX102 37 (by decide)]; exact h37a
            refine ps_if (S1 := (444, [(0, .ref m0), (2, .int (nI (p + 6))), (4, .int (nI x)), (5, .long (nL (by4 f (p + 10)))), (8, .int (nI (by2 f (p + 14 + by4 f (p + 10))))), (9, .int (nI (p + 14 + by4 f (p + 10) + 2))), (10, .int (nI (p + 14 + by4 f (p + 10) + 2 + 8 * by2 f (p + 14 + by4 f (p + 10))))), (13, .int (nI i))], [], M77)) (S2 := (440, [(0, .ref m0), (2, .int (nI (p + 6))), (4, .int (nI x)), (5, .long (nL (by4 f (p + 10)))), (8, .int (nI (by2 f (p + 14 + by4 f (p + 10))))), (9, .int (nI (p + 14 + by4 f (p + 10) + 2))), (10, .int (nI (p + 14 + by4 f (p + 10) + 2 + 8 * by2 f (p + 14 + by4 f (p + 10))))), (13, .int (nI i))], [], M77)) rfl rfl rfl (fun c_437 => ?_) (fun c_437 => ?_)
            rotate_left
            · exact absurd ((le_nI (p := 0) (n := e) (by decide) (by omega)).mpr (by omega)) (of_decide_eq_false c_437)
            refine ps_st (S' := (445, [], [.int 0], M77)) rfl rfl rfl ?_
            exact ps_ret rfl rfl (Or.inr (Or.inr (Or.inr ⟨s'97, I98, R99, hce, by
                unfold cdS
                rw [if_neg h41, if_neg h42, if_neg (by rw [← hw9, show by2 f (p + 14 + by4 f (p + 10)) - i = 0 by omega]; exact Nat.one_ne_zero)]
                exact q434_s, h37, rfl, hR100, hEI111, hER112⟩)))
        · have c_254 : ¬ ((nI (by2 f (p + 14 + by4 f (p + 10)))) ≤ (nI i)) := of_decide_eq_false c_254
          have n_254 : ¬ (by2 f (p + 14 + by4 f (p + 10)) ≤ i) := fun h9 => c_254 ((le_nI (p := by2 f (p + 14 + by4 f (p + 10))) (n := i) (Nat.lt_trans (by2_lt _ _) (by decide)) (by omega)).mpr h9)
          refine ps_st (S' := (259, [(0, .ref m0), (2, .int (nI (p + 6))), (4, .int (nI x)), (5, .long (nL (by4 f (p + 10)))), (8, .int (nI (by2 f (p + 14 + by4 f (p + 10))))), (9, .int (nI (p + 14 + by4 f (p + 10) + 2))), (10, .int (nI (p + 14 + by4 f (p + 10) + 2 + 8 * by2 f (p + 14 + by4 f (p + 10))))), (13, .int (nI i))], [.int (nI (p + 14 + by4 f (p + 10) + 2))], M1)) rfl rfl rfl ?_
          refine ps_st (S' := (261, [(0, .ref m0), (2, .int (nI (p + 6))), (4, .int (nI x)), (5, .long (nL (by4 f (p + 10)))), (8, .int (nI (by2 f (p + 14 + by4 f (p + 10))))), (9, .int (nI (p + 14 + by4 f (p + 10) + 2))), (10, .int (nI (p + 14 + by4 f (p + 10) + 2 + 8 * by2 f (p + 14 + by4 f (p + 10))))), (13, .int (nI i))], [.int 8, .int (nI (p + 14 + by4 f (p + 10) + 2))], M1)) rfl rfl rfl ?_
          refine ps_st (S' := (263, [(0, .ref m0), (2, .int (nI (p + 6))), (4, .int (nI x)), (5, .long (nL (by4 f (p + 10)))), (8, .int (nI (by2 f (p + 14 + by4 f (p + 10))))), (9, .int (nI (p + 14 + by4 f (p + 10) + 2))), (10, .int (nI (p + 14 + by4 f (p + 10) + 2 + 8 * by2 f (p + 14 + by4 f (p + 10))))), (13, .int (nI i))], [.int (nI i), .int 8, .int (nI (p + 14 + by4 f (p + 10) + 2))], M1)) rfl rfl rfl ?_
          refine ps_st (S' := (264, [(0, .ref m0), (2, .int (nI (p + 6))), (4, .int (nI x)), (5, .long (nL (by4 f (p + 10)))), (8, .int (nI (by2 f (p + 14 + by4 f (p + 10))))), (9, .int (nI (p + 14 + by4 f (p + 10) + 2))), (10, .int (nI (p + 14 + by4 f (p + 10) + 2 + 8 * by2 f (p + 14 + by4 f (p + 10))))), (13, .int (nI i))], [.int (8 * (nI i)), .int (nI (p + 14 + by4 f (p + 10) + 2))], M1)) rfl rfl rfl ?_
          rw [nI_mul1 (p := 8) (k := i) (x := 8) (y := (nI i)) rfl rfl (by omega)]
          show pl _ _ _ (_, [(0, .ref m0), (2, .int (nI (p + 6))), (4, .int (nI x)), (5, .long (nL (by4 f (p + 10)))), (8, .int (nI (by2 f (p + 14 + by4 f (p + 10))))), (9, .int (nI (p + 14 + by4 f (p + 10) + 2))), (10, .int (nI (p + 14 + by4 f (p + 10) + 2 + 8 * by2 f (p + 14 + by4 f (p + 10))))), (13, .int (nI i))], [.int (nI (8 * i)), .int (nI (p + 14 + by4 f (p + 10) + 2))], M1) _
          refine ps_st (S' := (265, [(0, .ref m0), (2, .int (nI (p + 6))), (4, .int (nI x)), (5, .long (nL (by4 f (p + 10)))), (8, .int (nI (by2 f (p + 14 + by4 f (p + 10))))), (9, .int (nI (p + 14 + by4 f (p + 10) + 2))), (10, .int (nI (p + 14 + by4 f (p + 10) + 2 + 8 * by2 f (p + 14 + by4 f (p + 10))))), (13, .int (nI i))], [.int ((nI (p + 14 + by4 f (p + 10) + 2)) + (nI (8 * i)))], M1)) rfl rfl rfl ?_
          rw [nI_add1 (p := p + 14 + by4 f (p + 10) + 2) (k := 8 * i) (x := (nI (8 * i))) rfl (by omega)]
          show pl _ _ _ (_, [(0, .ref m0), (2, .int (nI (p + 6))), (4, .int (nI x)), (5, .long (nL (by4 f (p + 10)))), (8, .int (nI (by2 f (p + 14 + by4 f (p + 10))))), (9, .int (nI (p + 14 + by4 f (p + 10) + 2))), (10, .int (nI (p + 14 + by4 f (p + 10) + 2 + 8 * by2 f (p + 14 + by4 f (p + 10))))), (13, .int (nI i))], [.int (nI (p + 14 + by4 f (p + 10) + 2 + 8 * i))], M1) _
          refine ps_st (S' := (267, [(14, .int (nI (p + 14 + by4 f (p + 10) + 2 + 8 * i))), (0, .ref m0), (2, .int (nI (p + 6))), (4, .int (nI x)), (5, .long (nL (by4 f (p + 10)))), (8, .int (nI (by2 f (p + 14 + by4 f (p + 10))))), (9, .int (nI (p + 14 + by4 f (p + 10) + 2))), (10, .int (nI (p + 14 + by4 f (p + 10) + 2 + 8 * by2 f (p + 14 + by4 f (p + 10))))), (13, .int (nI i))], [], M1)) rfl rfl rfl ?_
          refine ps_st (S' := (268, [(14, .int (nI (p + 14 + by4 f (p + 10) + 2 + 8 * i))), (0, .ref m0), (2, .int (nI (p + 6))), (4, .int (nI x)), (5, .long (nL (by4 f (p + 10)))), (8, .int (nI (by2 f (p + 14 + by4 f (p + 10))))), (9, .int (nI (p + 14 + by4 f (p + 10) + 2))), (10, .int (nI (p + 14 + by4 f (p + 10) + 2 + 8 * by2 f (p + 14 + by4 f (p + 10))))), (13, .int (nI i))], [.ref m0], M1)) rfl rfl rfl ?_
          refine ps_st (S' := (270, [(14, .int (nI (p + 14 + by4 f (p + 10) + 2 + 8 * i))), (0, .ref m0), (2, .int (nI (p + 6))), (4, .int (nI x)), (5, .long (nL (by4 f (p + 10)))), (8, .int (nI (by2 f (p + 14 + by4 f (p + 10))))), (9, .int (nI (p + 14 + by4 f (p + 10) + 2))), (10, .int (nI (p + 14 + by4 f (p + 10) + 2 + 8 * by2 f (p + 14 + by4 f (p + 10))))), (13, .int (nI i))], [.int (nI (p + 14 + by4 f (p + 10) + 2 + 8 * i)), .ref m0], M1)) rfl rfl rfl ?_
          refine pl_call (a := [.ref m0, .int (nI (p + 14 + by4 f (p + 10) + 2 + 8 * i))]) (rest := []) rfl rfl rfl (rd_u2 (n := n) (f := f) (p := (p + 14 + by4 f (p + 10) + 2 + 8 * i)) hR1 hF1 (by omega)) (fun v113 M114 q115 => ?_)
          obtain ⟨rfl, rfl⟩ := q115
          show pl _ _ _ (273, [(14, .int (nI (p + 14 + by4 f (p + 10) + 2 + 8 * i))), (0, .ref m0), (2, .int (nI (p + 6))), (4, .int (nI x)), (5, .long (nL (by4 f (p + 10)))), (8, .int (nI (by2 f (p + 14 + by4 f (p + 10))))), (9, .int (nI (p + 14 + by4 f (p + 10) + 2))), (10, .int (nI (p + 14 + by4 f (p + 10) + 2 + 8 * by2 f (p + 14 + by4 f (p + 10))))), (13, .int (nI i))], [.int (nI (by2 f (p + 14 + by4 f (p + 10) + 2 + 8 * i)))], M1) _
          have hu_270 := by2_lt f (p + 14 + by4 f (p + 10) + 2 + 8 * i)
          refine ps_st (S' := (274, [(14, .int (nI (p + 14 + by4 f (p + 10) + 2 + 8 * i))), (0, .ref m0), (2, .int (nI (p + 6))), (4, .int (nI x)), (5, .long (nL (by4 f (p + 10)))), (8, .int (nI (by2 f (p + 14 + by4 f (p + 10))))), (9, .int (nI (p + 14 + by4 f (p + 10) + 2))), (10, .int (nI (p + 14 + by4 f (p + 10) + 2 + 8 * by2 f (p + 14 + by4 f (p + 10))))), (13, .int (nI i))], [.ref m0, .int (nI (by2 f (p + 14 + by4 f (p + 10) + 2 + 8 * i)))], M1)) rfl rfl rfl ?_
          refine ps_st (S' := (276, [(14, .int (nI (p + 14 + by4 f (p + 10) + 2 + 8 * i))), (0, .ref m0), (2, .int (nI (p + 6))), (4, .int (nI x)), (5, .long (nL (by4 f (p + 10)))), (8, .int (nI (by2 f (p + 14 + by4 f (p + 10))))), (9, .int (nI (p + 14 + by4 f (p + 10) + 2))), (10, .int (nI (p + 14 + by4 f (p + 10) + 2 + 8 * by2 f (p + 14 + by4 f (p + 10))))), (13, .int (nI i))], [.int (nI (p + 14 + by4 f (p + 10) + 2 + 8 * i)), .ref m0, .int (nI (by2 f (p + 14 + by4 f (p + 10) + 2 + 8 * i)))], M1)) rfl rfl rfl ?_
          refine ps_st (S' := (277, [(14, .int (nI (p + 14 + by4 f (p + 10) + 2 + 8 * i))), (0, .ref m0), (2, .int (nI (p + 6))), (4, .int (nI x)), (5, .long (nL (by4 f (p + 10)))), (8, .int (nI (by2 f (p + 14 + by4 f (p + 10))))), (9, .int (nI (p + 14 + by4 f (p + 10) + 2))), (10, .int (nI (p + 14 + by4 f (p + 10) + 2 + 8 * by2 f (p + 14 + by4 f (p + 10))))), (13, .int (nI i))], [.int 2, .int (nI (p + 14 + by4 f (p + 10) + 2 + 8 * i)), .ref m0, .int (nI (by2 f (p + 14 + by4 f (p + 10) + 2 + 8 * i)))], M1)) rfl rfl rfl ?_
          refine ps_st (S' := (278, [(14, .int (nI (p + 14 + by4 f (p + 10) + 2 + 8 * i))), (0, .ref m0), (2, .int (nI (p + 6))), (4, .int (nI x)), (5, .long (nL (by4 f (p + 10)))), (8, .int (nI (by2 f (p + 14 + by4 f (p + 10))))), (9, .int (nI (p + 14 + by4 f (p + 10) + 2))), (10, .int (nI (p + 14 + by4 f (p + 10) + 2 + 8 * by2 f (p + 14 + by4 f (p + 10))))), (13, .int (nI i))], [.int ((nI (p + 14 + by4 f (p + 10) + 2 + 8 * i)) + 2), .ref m0, .int (nI (by2 f (p + 14 + by4 f (p + 10) + 2 + 8 * i)))], M1)) rfl rfl rfl ?_
          rw [nI_add1 (p := p + 14 + by4 f (p + 10) + 2 + 8 * i) (k := 2) (x := 2) rfl (by omega)]
          show pl _ _ _ (_, [(14, .int (nI (p + 14 + by4 f (p + 10) + 2 + 8 * i))), (0, .ref m0), (2, .int (nI (p + 6))), (4, .int (nI x)), (5, .long (nL (by4 f (p + 10)))), (8, .int (nI (by2 f (p + 14 + by4 f (p + 10))))), (9, .int (nI (p + 14 + by4 f (p + 10) + 2))), (10, .int (nI (p + 14 + by4 f (p + 10) + 2 + 8 * by2 f (p + 14 + by4 f (p + 10))))), (13, .int (nI i))], [.int (nI (p + 14 + by4 f (p + 10) + 2 + 8 * i + 2)), .ref m0, .int (nI (by2 f (p + 14 + by4 f (p + 10) + 2 + 8 * i)))], M1) _
          refine pl_call (a := [.ref m0, .int (nI (p + 14 + by4 f (p + 10) + 2 + 8 * i + 2))]) (rest := [.int (nI (by2 f (p + 14 + by4 f (p + 10) + 2 + 8 * i)))]) rfl rfl rfl (rd_u2 (n := n) (f := f) (p := (p + 14 + by4 f (p + 10) + 2 + 8 * i + 2)) hR1 hF1 (by omega)) (fun v116 M117 q118 => ?_)
          obtain ⟨rfl, rfl⟩ := q118
          show pl _ _ _ (281, [(14, .int (nI (p + 14 + by4 f (p + 10) + 2 + 8 * i))), (0, .ref m0), (2, .int (nI (p + 6))), (4, .int (nI x)), (5, .long (nL (by4 f (p + 10)))), (8, .int (nI (by2 f (p + 14 + by4 f (p + 10))))), (9, .int (nI (p + 14 + by4 f (p + 10) + 2))), (10, .int (nI (p + 14 + by4 f (p + 10) + 2 + 8 * by2 f (p + 14 + by4 f (p + 10))))), (13, .int (nI i))], [.int (nI (by2 f (p + 14 + by4 f (p + 10) + 2 + 8 * i + 2))), .int (nI (by2 f (p + 14 + by4 f (p + 10) + 2 + 8 * i)))], M1) _
          have hu_278 := by2_lt f (p + 14 + by4 f (p + 10) + 2 + 8 * i + 2)
          refine ps_if2 (S1 := (344, [], [], M1)) (S2 := (284, [(14, .int (nI (p + 14 + by4 f (p + 10) + 2 + 8 * i))), (0, .ref m0), (2, .int (nI (p + 6))), (4, .int (nI x)), (5, .long (nL (by4 f (p + 10)))), (8, .int (nI (by2 f (p + 14 + by4 f (p + 10))))), (9, .int (nI (p + 14 + by4 f (p + 10) + 2))), (10, .int (nI (p + 14 + by4 f (p + 10) + 2 + 8 * by2 f (p + 14 + by4 f (p + 10))))), (13, .int (nI i))], [], M1)) rfl rfl rfl (fun c_281 => ?_) (fun c_281 => ?_)
          · have c_281 : (nI (by2 f (p + 14 + by4 f (p + 10) + 2 + 8 * i + 2))) ≤ (nI (by2 f (p + 14 + by4 f (p + 10) + 2 + 8 * i))) := of_decide_eq_true c_281
            have n_281 : by2 f (p + 14 + by4 f (p + 10) + 2 + 8 * i + 2) ≤ by2 f (p + 14 + by4 f (p + 10) + 2 + 8 * i) := (le_nI (p := by2 f (p + 14 + by4 f (p + 10) + 2 + 8 * i + 2)) (n := by2 f (p + 14 + by4 f (p + 10) + 2 + 8 * i)) (Nat.lt_trans (by2_lt _ _) (by decide)) (Nat.lt_trans (by2_lt _ _) (by decide))).mp c_281
            refine ps_st (S' := (346, [], [.int 43], M1)) rfl rfl rfl ?_
            exact ps_ret rfl rfl (Or.inr (Or.inl ⟨43, I1, R1, hce, by
                unfold cdS
                rw [if_neg h41, if_neg h42, if_pos (by rw [← hw9, rwA_st (i := i) (by omega), if_pos (by unfold rwN; rw [if_neg (by omega)])])], by decide, rfl, hR1, hEI1, hER1⟩))
          · have c_281 : ¬ ((nI (by2 f (p + 14 + by4 f (p + 10) + 2 + 8 * i + 2))) ≤ (nI (by2 f (p + 14 + by4 f (p + 10) + 2 + 8 * i)))) := of_decide_eq_false c_281
            have n_281 : ¬ (by2 f (p + 14 + by4 f (p + 10) + 2 + 8 * i + 2) ≤ by2 f (p + 14 + by4 f (p + 10) + 2 + 8 * i)) := fun h9 => c_281 ((le_nI (p := by2 f (p + 14 + by4 f (p + 10) + 2 + 8 * i + 2)) (n := by2 f (p + 14 + by4 f (p + 10) + 2 + 8 * i)) (Nat.lt_trans (by2_lt _ _) (by decide)) (Nat.lt_trans (by2_lt _ _) (by decide))).mpr h9)
            refine ps_st (S' := (285, [(14, .int (nI (p + 14 + by4 f (p + 10) + 2 + 8 * i))), (0, .ref m0), (2, .int (nI (p + 6))), (4, .int (nI x)), (5, .long (nL (by4 f (p + 10)))), (8, .int (nI (by2 f (p + 14 + by4 f (p + 10))))), (9, .int (nI (p + 14 + by4 f (p + 10) + 2))), (10, .int (nI (p + 14 + by4 f (p + 10) + 2 + 8 * by2 f (p + 14 + by4 f (p + 10))))), (13, .int (nI i))], [.ref m0], M1)) rfl rfl rfl ?_
            refine ps_st (S' := (287, [(14, .int (nI (p + 14 + by4 f (p + 10) + 2 + 8 * i))), (0, .ref m0), (2, .int (nI (p + 6))), (4, .int (nI x)), (5, .long (nL (by4 f (p + 10)))), (8, .int (nI (by2 f (p + 14 + by4 f (p + 10))))), (9, .int (nI (p + 14 + by4 f (p + 10) + 2))), (10, .int (nI (p + 14 + by4 f (p + 10) + 2 + 8 * by2 f (p + 14 + by4 f (p + 10))))), (13, .int (nI i))], [.int (nI (p + 14 + by4 f (p + 10) + 2 + 8 * i)), .ref m0], M1)) rfl rfl rfl ?_
            refine ps_st (S' := (288, [(14, .int (nI (p + 14 + by4 f (p + 10) + 2 + 8 * i))), (0, .ref m0), (2, .int (nI (p + 6))), (4, .int (nI x)), (5, .long (nL (by4 f (p + 10)))), (8, .int (nI (by2 f (p + 14 + by4 f (p + 10))))), (9, .int (nI (p + 14 + by4 f (p + 10) + 2))), (10, .int (nI (p + 14 + by4 f (p + 10) + 2 + 8 * by2 f (p + 14 + by4 f (p + 10))))), (13, .int (nI i))], [.int 2, .int (nI (p + 14 + by4 f (p + 10) + 2 + 8 * i)), .ref m0], M1)) rfl rfl rfl ?_
            refine ps_st (S' := (289, [(14, .int (nI (p + 14 + by4 f (p + 10) + 2 + 8 * i))), (0, .ref m0), (2, .int (nI (p + 6))), (4, .int (nI x)), (5, .long (nL (by4 f (p + 10)))), (8, .int (nI (by2 f (p + 14 + by4 f (p + 10))))), (9, .int (nI (p + 14 + by4 f (p + 10) + 2))), (10, .int (nI (p + 14 + by4 f (p + 10) + 2 + 8 * by2 f (p + 14 + by4 f (p + 10))))), (13, .int (nI i))], [.int ((nI (p + 14 + by4 f (p + 10) + 2 + 8 * i)) + 2), .ref m0], M1)) rfl rfl rfl ?_
            rw [nI_add1 (p := p + 14 + by4 f (p + 10) + 2 + 8 * i) (k := 2) (x := 2) rfl (by omega)]
            show pl _ _ _ (_, [(14, .int (nI (p + 14 + by4 f (p + 10) + 2 + 8 * i))), (0, .ref m0), (2, .int (nI (p + 6))), (4, .int (nI x)), (5, .long (nL (by4 f (p + 10)))), (8, .int (nI (by2 f (p + 14 + by4 f (p + 10))))), (9, .int (nI (p + 14 + by4 f (p + 10) + 2))), (10, .int (nI (p + 14 + by4 f (p + 10) + 2 + 8 * by2 f (p + 14 + by4 f (p + 10))))), (13, .int (nI i))], [.int (nI (p + 14 + by4 f (p + 10) + 2 + 8 * i + 2)), .ref m0], M1) _
            refine pl_call (a := [.ref m0, .int (nI (p + 14 + by4 f (p + 10) + 2 + 8 * i + 2))]) (rest := []) rfl rfl rfl (rd_u2 (n := n) (f := f) (p := (p + 14 + by4 f (p + 10) + 2 + 8 * i + 2)) hR1 hF1 (by omega)) (fun v119 M120 q121 => ?_)
            obtain ⟨rfl, rfl⟩ := q121
            show pl _ _ _ (292, [(14, .int (nI (p + 14 + by4 f (p + 10) + 2 + 8 * i))), (0, .ref m0), (2, .int (nI (p + 6))), (4, .int (nI x)), (5, .long (nL (by4 f (p + 10)))), (8, .int (nI (by2 f (p + 14 + by4 f (p + 10))))), (9, .int (nI (p + 14 + by4 f (p + 10) + 2))), (10, .int (nI (p + 14 + by4 f (p + 10) + 2 + 8 * by2 f (p + 14 + by4 f (p + 10))))), (13, .int (nI i))], [.int (nI (by2 f (p + 14 + by4 f (p + 10) + 2 + 8 * i + 2)))], M1) _
            have hu_289 := by2_lt f (p + 14 + by4 f (p + 10) + 2 + 8 * i + 2)
            refine ps_st (S' := (293, [(14, .int (nI (p + 14 + by4 f (p + 10) + 2 + 8 * i))), (0, .ref m0), (2, .int (nI (p + 6))), (4, .int (nI x)), (5, .long (nL (by4 f (p + 10)))), (8, .int (nI (by2 f (p + 14 + by4 f (p + 10))))), (9, .int (nI (p + 14 + by4 f (p + 10) + 2))), (10, .int (nI (p + 14 + by4 f (p + 10) + 2 + 8 * by2 f (p + 14 + by4 f (p + 10))))), (13, .int (nI i))], [.long (Int32.toInt64 (nI (by2 f (p + 14 + by4 f (p + 10) + 2 + 8 * i + 2))))], M1)) rfl rfl rfl ?_
            rw [i2l_nL (p := by2 f (p + 14 + by4 f (p + 10) + 2 + 8 * i + 2)) (by omega)]
            show pl _ _ _ (_, [(14, .int (nI (p + 14 + by4 f (p + 10) + 2 + 8 * i))), (0, .ref m0), (2, .int (nI (p + 6))), (4, .int (nI x)), (5, .long (nL (by4 f (p + 10)))), (8, .int (nI (by2 f (p + 14 + by4 f (p + 10))))), (9, .int (nI (p + 14 + by4 f (p + 10) + 2))), (10, .int (nI (p + 14 + by4 f (p + 10) + 2 + 8 * by2 f (p + 14 + by4 f (p + 10))))), (13, .int (nI i))], [.long (nL (by2 f (p + 14 + by4 f (p + 10) + 2 + 8 * i + 2)))], M1) _
            refine ps_st (S' := (295, [(14, .int (nI (p + 14 + by4 f (p + 10) + 2 + 8 * i))), (0, .ref m0), (2, .int (nI (p + 6))), (4, .int (nI x)), (5, .long (nL (by4 f (p + 10)))), (8, .int (nI (by2 f (p + 14 + by4 f (p + 10))))), (9, .int (nI (p + 14 + by4 f (p + 10) + 2))), (10, .int (nI (p + 14 + by4 f (p + 10) + 2 + 8 * by2 f (p + 14 + by4 f (p + 10))))), (13, .int (nI i))], [.long (nL (by4 f (p + 10))), .long (nL (by2 f (p + 14 + by4 f (p + 10) + 2 + 8 * i + 2)))], M1)) rfl rfl rfl ?_
            refine ps_st (S' := (296, [(14, .int (nI (p + 14 + by4 f (p + 10) + 2 + 8 * i))), (0, .ref m0), (2, .int (nI (p + 6))), (4, .int (nI x)), (5, .long (nL (by4 f (p + 10)))), (8, .int (nI (by2 f (p + 14 + by4 f (p + 10))))), (9, .int (nI (p + 14 + by4 f (p + 10) + 2))), (10, .int (nI (p + 14 + by4 f (p + 10) + 2 + 8 * by2 f (p + 14 + by4 f (p + 10))))), (13, .int (nI i))], [.int (lg_cmp (nL (by2 f (p + 14 + by4 f (p + 10) + 2 + 8 * i + 2))) (nL (by4 f (p + 10))))], M1)) rfl rfl rfl ?_
            refine ps_if (S1 := (344, [], [], M1)) (S2 := (299, [(14, .int (nI (p + 14 + by4 f (p + 10) + 2 + 8 * i))), (0, .ref m0), (2, .int (nI (p + 6))), (4, .int (nI x)), (5, .long (nL (by4 f (p + 10)))), (8, .int (nI (by2 f (p + 14 + by4 f (p + 10))))), (9, .int (nI (p + 14 + by4 f (p + 10) + 2))), (10, .int (nI (p + 14 + by4 f (p + 10) + 2 + 8 * by2 f (p + 14 + by4 f (p + 10))))), (13, .int (nI i))], [], M1)) rfl rfl rfl (fun c_296 => ?_) (fun c_296 => ?_)
            · have n_296 : by4 f (p + 10) < by2 f (p + 14 + by4 f (p + 10) + 2 + 8 * i + 2) := (cL_gt (p := by2 f (p + 14 + by4 f (p + 10) + 2 + 8 * i + 2)) (k := by4 f (p + 10)) (x := (nL (by2 f (p + 14 + by4 f (p + 10) + 2 + 8 * i + 2)))) (y := (nL (by4 f (p + 10)))) rfl rfl (by omega) (by omega)).mp (of_decide_eq_true c_296)
              refine ps_st (S' := (346, [], [.int 43], M1)) rfl rfl rfl ?_
              exact ps_ret rfl rfl (Or.inr (Or.inl ⟨43, I1, R1, hce, by
                  unfold cdS
                  rw [if_neg h41, if_neg h42, if_pos (by rw [← hw9, rwA_st (i := i) (by omega), if_pos (by unfold rwN; rw [if_neg (by omega)])])], by decide, rfl, hR1, hEI1, hER1⟩))
            · have n_296 : ¬ (by4 f (p + 10) < by2 f (p + 14 + by4 f (p + 10) + 2 + 8 * i + 2)) := fun h9 => of_decide_eq_false c_296 ((cL_gt (p := by2 f (p + 14 + by4 f (p + 10) + 2 + 8 * i + 2)) (k := by4 f (p + 10)) (x := (nL (by2 f (p + 14 + by4 f (p + 10) + 2 + 8 * i + 2)))) (y := (nL (by4 f (p + 10)))) rfl rfl (by omega) (by omega)).mpr h9)
              refine ps_st (S' := (300, [(14, .int (nI (p + 14 + by4 f (p + 10) + 2 + 8 * i))), (0, .ref m0), (2, .int (nI (p + 6))), (4, .int (nI x)), (5, .long (nL (by4 f (p + 10)))), (8, .int (nI (by2 f (p + 14 + by4 f (p + 10))))), (9, .int (nI (p + 14 + by4 f (p + 10) + 2))), (10, .int (nI (p + 14 + by4 f (p + 10) + 2 + 8 * by2 f (p + 14 + by4 f (p + 10))))), (13, .int (nI i))], [.ref m0], M1)) rfl rfl rfl ?_
              refine ps_st (S' := (302, [(14, .int (nI (p + 14 + by4 f (p + 10) + 2 + 8 * i))), (0, .ref m0), (2, .int (nI (p + 6))), (4, .int (nI x)), (5, .long (nL (by4 f (p + 10)))), (8, .int (nI (by2 f (p + 14 + by4 f (p + 10))))), (9, .int (nI (p + 14 + by4 f (p + 10) + 2))), (10, .int (nI (p + 14 + by4 f (p + 10) + 2 + 8 * by2 f (p + 14 + by4 f (p + 10))))), (13, .int (nI i))], [.int (nI (p + 14 + by4 f (p + 10) + 2 + 8 * i)), .ref m0], M1)) rfl rfl rfl ?_
              refine ps_st (S' := (303, [(14, .int (nI (p + 14 + by4 f (p + 10) + 2 + 8 * i))), (0, .ref m0), (2, .int (nI (p + 6))), (4, .int (nI x)), (5, .long (nL (by4 f (p + 10)))), (8, .int (nI (by2 f (p + 14 + by4 f (p + 10))))), (9, .int (nI (p + 14 + by4 f (p + 10) + 2))), (10, .int (nI (p + 14 + by4 f (p + 10) + 2 + 8 * by2 f (p + 14 + by4 f (p + 10))))), (13, .int (nI i))], [.int 4, .int (nI (p + 14 + by4 f (p + 10) + 2 + 8 * i)), .ref m0], M1)) rfl rfl rfl ?_
              refine ps_st (S' := (304, [(14, .int (nI (p + 14 + by4 f (p + 10) + 2 + 8 * i))), (0, .ref m0), (2, .int (nI (p + 6))), (4, .int (nI x)), (5, .long (nL (by4 f (p + 10)))), (8, .int (nI (by2 f (p + 14 + by4 f (p + 10))))), (9, .int (nI (p + 14 + by4 f (p + 10) + 2))), (10, .int (nI (p + 14 + by4 f (p + 10) + 2 + 8 * by2 f (p + 14 + by4 f (p + 10))))), (13, .int (nI i))], [.int ((nI (p + 14 + by4 f (p + 10) + 2 + 8 * i)) + 4), .ref m0], M1)) rfl rfl rfl ?_
              rw [nI_add1 (p := p + 14 + by4 f (p + 10) + 2 + 8 * i) (k := 4) (x := 4) rfl (by omega)]
              show pl _ _ _ (_, [(14, .int (nI (p + 14 + by4 f (p + 10) + 2 + 8 * i))), (0, .ref m0), (2, .int (nI (p + 6))), (4, .int (nI x)), (5, .long (nL (by4 f (p + 10)))), (8, .int (nI (by2 f (p + 14 + by4 f (p + 10))))), (9, .int (nI (p + 14 + by4 f (p + 10) + 2))), (10, .int (nI (p + 14 + by4 f (p + 10) + 2 + 8 * by2 f (p + 14 + by4 f (p + 10))))), (13, .int (nI i))], [.int (nI (p + 14 + by4 f (p + 10) + 2 + 8 * i + 4)), .ref m0], M1) _
              refine pl_call (a := [.ref m0, .int (nI (p + 14 + by4 f (p + 10) + 2 + 8 * i + 4))]) (rest := []) rfl rfl rfl (rd_u2 (n := n) (f := f) (p := (p + 14 + by4 f (p + 10) + 2 + 8 * i + 4)) hR1 hF1 (by omega)) (fun v122 M123 q124 => ?_)
              obtain ⟨rfl, rfl⟩ := q124
              show pl _ _ _ (307, [(14, .int (nI (p + 14 + by4 f (p + 10) + 2 + 8 * i))), (0, .ref m0), (2, .int (nI (p + 6))), (4, .int (nI x)), (5, .long (nL (by4 f (p + 10)))), (8, .int (nI (by2 f (p + 14 + by4 f (p + 10))))), (9, .int (nI (p + 14 + by4 f (p + 10) + 2))), (10, .int (nI (p + 14 + by4 f (p + 10) + 2 + 8 * by2 f (p + 14 + by4 f (p + 10))))), (13, .int (nI i))], [.int (nI (by2 f (p + 14 + by4 f (p + 10) + 2 + 8 * i + 4)))], M1) _
              have hu_304 := by2_lt f (p + 14 + by4 f (p + 10) + 2 + 8 * i + 4)
              refine ps_st (S' := (308, [(14, .int (nI (p + 14 + by4 f (p + 10) + 2 + 8 * i))), (0, .ref m0), (2, .int (nI (p + 6))), (4, .int (nI x)), (5, .long (nL (by4 f (p + 10)))), (8, .int (nI (by2 f (p + 14 + by4 f (p + 10))))), (9, .int (nI (p + 14 + by4 f (p + 10) + 2))), (10, .int (nI (p + 14 + by4 f (p + 10) + 2 + 8 * by2 f (p + 14 + by4 f (p + 10))))), (13, .int (nI i))], [.long (Int32.toInt64 (nI (by2 f (p + 14 + by4 f (p + 10) + 2 + 8 * i + 4))))], M1)) rfl rfl rfl ?_
              rw [i2l_nL (p := by2 f (p + 14 + by4 f (p + 10) + 2 + 8 * i + 4)) (by omega)]
              show pl _ _ _ (_, [(14, .int (nI (p + 14 + by4 f (p + 10) + 2 + 8 * i))), (0, .ref m0), (2, .int (nI (p + 6))), (4, .int (nI x)), (5, .long (nL (by4 f (p + 10)))), (8, .int (nI (by2 f (p + 14 + by4 f (p + 10))))), (9, .int (nI (p + 14 + by4 f (p + 10) + 2))), (10, .int (nI (p + 14 + by4 f (p + 10) + 2 + 8 * by2 f (p + 14 + by4 f (p + 10))))), (13, .int (nI i))], [.long (nL (by2 f (p + 14 + by4 f (p + 10) + 2 + 8 * i + 4)))], M1) _
              refine ps_st (S' := (310, [(14, .int (nI (p + 14 + by4 f (p + 10) + 2 + 8 * i))), (0, .ref m0), (2, .int (nI (p + 6))), (4, .int (nI x)), (5, .long (nL (by4 f (p + 10)))), (8, .int (nI (by2 f (p + 14 + by4 f (p + 10))))), (9, .int (nI (p + 14 + by4 f (p + 10) + 2))), (10, .int (nI (p + 14 + by4 f (p + 10) + 2 + 8 * by2 f (p + 14 + by4 f (p + 10))))), (13, .int (nI i))], [.long (nL (by4 f (p + 10))), .long (nL (by2 f (p + 14 + by4 f (p + 10) + 2 + 8 * i + 4)))], M1)) rfl rfl rfl ?_
              refine ps_st (S' := (311, [(14, .int (nI (p + 14 + by4 f (p + 10) + 2 + 8 * i))), (0, .ref m0), (2, .int (nI (p + 6))), (4, .int (nI x)), (5, .long (nL (by4 f (p + 10)))), (8, .int (nI (by2 f (p + 14 + by4 f (p + 10))))), (9, .int (nI (p + 14 + by4 f (p + 10) + 2))), (10, .int (nI (p + 14 + by4 f (p + 10) + 2 + 8 * by2 f (p + 14 + by4 f (p + 10))))), (13, .int (nI i))], [.int (lg_cmp (nL (by2 f (p + 14 + by4 f (p + 10) + 2 + 8 * i + 4))) (nL (by4 f (p + 10))))], M1)) rfl rfl rfl ?_
              refine ps_if (S1 := (344, [], [], M1)) (S2 := (314, [(14, .int (nI (p + 14 + by4 f (p + 10) + 2 + 8 * i))), (0, .ref m0), (2, .int (nI (p + 6))), (4, .int (nI x)), (5, .long (nL (by4 f (p + 10)))), (8, .int (nI (by2 f (p + 14 + by4 f (p + 10))))), (9, .int (nI (p + 14 + by4 f (p + 10) + 2))), (10, .int (nI (p + 14 + by4 f (p + 10) + 2 + 8 * by2 f (p + 14 + by4 f (p + 10))))), (13, .int (nI i))], [], M1)) rfl rfl rfl (fun c_311 => ?_) (fun c_311 => ?_)
              · have n_311 : by4 f (p + 10) ≤ by2 f (p + 14 + by4 f (p + 10) + 2 + 8 * i + 4) := (cL_ge (p := by2 f (p + 14 + by4 f (p + 10) + 2 + 8 * i + 4)) (k := by4 f (p + 10)) (x := (nL (by2 f (p + 14 + by4 f (p + 10) + 2 + 8 * i + 4)))) (y := (nL (by4 f (p + 10)))) rfl rfl (by omega) (by omega)).mp (of_decide_eq_true c_311)
                refine ps_st (S' := (346, [], [.int 43], M1)) rfl rfl rfl ?_
                exact ps_ret rfl rfl (Or.inr (Or.inl ⟨43, I1, R1, hce, by
                    unfold cdS
                    rw [if_neg h41, if_neg h42, if_pos (by rw [← hw9, rwA_st (i := i) (by omega), if_pos (by unfold rwN; rw [if_neg (by omega)])])], by decide, rfl, hR1, hEI1, hER1⟩))
              · have n_311 : ¬ (by4 f (p + 10) ≤ by2 f (p + 14 + by4 f (p + 10) + 2 + 8 * i + 4)) := fun h9 => of_decide_eq_false c_311 ((cL_ge (p := by2 f (p + 14 + by4 f (p + 10) + 2 + 8 * i + 4)) (k := by4 f (p + 10)) (x := (nL (by2 f (p + 14 + by4 f (p + 10) + 2 + 8 * i + 4)))) (y := (nL (by4 f (p + 10)))) rfl rfl (by omega) (by omega)).mpr h9)
                refine ps_st (S' := (315, [(14, .int (nI (p + 14 + by4 f (p + 10) + 2 + 8 * i))), (0, .ref m0), (2, .int (nI (p + 6))), (4, .int (nI x)), (5, .long (nL (by4 f (p + 10)))), (8, .int (nI (by2 f (p + 14 + by4 f (p + 10))))), (9, .int (nI (p + 14 + by4 f (p + 10) + 2))), (10, .int (nI (p + 14 + by4 f (p + 10) + 2 + 8 * by2 f (p + 14 + by4 f (p + 10))))), (13, .int (nI i))], [.ref m0], M1)) rfl rfl rfl ?_
                refine ps_st (S' := (317, [(14, .int (nI (p + 14 + by4 f (p + 10) + 2 + 8 * i))), (0, .ref m0), (2, .int (nI (p + 6))), (4, .int (nI x)), (5, .long (nL (by4 f (p + 10)))), (8, .int (nI (by2 f (p + 14 + by4 f (p + 10))))), (9, .int (nI (p + 14 + by4 f (p + 10) + 2))), (10, .int (nI (p + 14 + by4 f (p + 10) + 2 + 8 * by2 f (p + 14 + by4 f (p + 10))))), (13, .int (nI i))], [.int (nI (p + 14 + by4 f (p + 10) + 2 + 8 * i)), .ref m0], M1)) rfl rfl rfl ?_
                refine ps_st (S' := (319, [(14, .int (nI (p + 14 + by4 f (p + 10) + 2 + 8 * i))), (0, .ref m0), (2, .int (nI (p + 6))), (4, .int (nI x)), (5, .long (nL (by4 f (p + 10)))), (8, .int (nI (by2 f (p + 14 + by4 f (p + 10))))), (9, .int (nI (p + 14 + by4 f (p + 10) + 2))), (10, .int (nI (p + 14 + by4 f (p + 10) + 2 + 8 * by2 f (p + 14 + by4 f (p + 10))))), (13, .int (nI i))], [.int 6, .int (nI (p + 14 + by4 f (p + 10) + 2 + 8 * i)), .ref m0], M1)) rfl rfl rfl ?_
                refine ps_st (S' := (320, [(14, .int (nI (p + 14 + by4 f (p + 10) + 2 + 8 * i))), (0, .ref m0), (2, .int (nI (p + 6))), (4, .int (nI x)), (5, .long (nL (by4 f (p + 10)))), (8, .int (nI (by2 f (p + 14 + by4 f (p + 10))))), (9, .int (nI (p + 14 + by4 f (p + 10) + 2))), (10, .int (nI (p + 14 + by4 f (p + 10) + 2 + 8 * by2 f (p + 14 + by4 f (p + 10))))), (13, .int (nI i))], [.int ((nI (p + 14 + by4 f (p + 10) + 2 + 8 * i)) + 6), .ref m0], M1)) rfl rfl rfl ?_
                rw [nI_add1 (p := p + 14 + by4 f (p + 10) + 2 + 8 * i) (k := 6) (x := 6) rfl (by omega)]
                show pl _ _ _ (_, [(14, .int (nI (p + 14 + by4 f (p + 10) + 2 + 8 * i))), (0, .ref m0), (2, .int (nI (p + 6))), (4, .int (nI x)), (5, .long (nL (by4 f (p + 10)))), (8, .int (nI (by2 f (p + 14 + by4 f (p + 10))))), (9, .int (nI (p + 14 + by4 f (p + 10) + 2))), (10, .int (nI (p + 14 + by4 f (p + 10) + 2 + 8 * by2 f (p + 14 + by4 f (p + 10))))), (13, .int (nI i))], [.int (nI (p + 14 + by4 f (p + 10) + 2 + 8 * i + 6)), .ref m0], M1) _
                refine pl_call (a := [.ref m0, .int (nI (p + 14 + by4 f (p + 10) + 2 + 8 * i + 6))]) (rest := []) rfl rfl rfl (rd_u2 (n := n) (f := f) (p := (p + 14 + by4 f (p + 10) + 2 + 8 * i + 6)) hR1 hF1 (by omega)) (fun v125 M126 q127 => ?_)
                obtain ⟨rfl, rfl⟩ := q127
                show pl _ _ _ (323, [(14, .int (nI (p + 14 + by4 f (p + 10) + 2 + 8 * i))), (0, .ref m0), (2, .int (nI (p + 6))), (4, .int (nI x)), (5, .long (nL (by4 f (p + 10)))), (8, .int (nI (by2 f (p + 14 + by4 f (p + 10))))), (9, .int (nI (p + 14 + by4 f (p + 10) + 2))), (10, .int (nI (p + 14 + by4 f (p + 10) + 2 + 8 * by2 f (p + 14 + by4 f (p + 10))))), (13, .int (nI i))], [.int (nI (by2 f (p + 14 + by4 f (p + 10) + 2 + 8 * i + 6)))], M1) _
                have hu_320 := by2_lt f (p + 14 + by4 f (p + 10) + 2 + 8 * i + 6)
                refine ps_if (S1 := (347, [(0, .ref m0), (2, .int (nI (p + 6))), (4, .int (nI x)), (5, .long (nL (by4 f (p + 10)))), (8, .int (nI (by2 f (p + 14 + by4 f (p + 10))))), (9, .int (nI (p + 14 + by4 f (p + 10) + 2))), (10, .int (nI (p + 14 + by4 f (p + 10) + 2 + 8 * by2 f (p + 14 + by4 f (p + 10))))), (13, .int (nI i))], [], M1)) (S2 := (326, [(14, .int (nI (p + 14 + by4 f (p + 10) + 2 + 8 * i))), (0, .ref m0), (2, .int (nI (p + 6))), (4, .int (nI x)), (5, .long (nL (by4 f (p + 10)))), (8, .int (nI (by2 f (p + 14 + by4 f (p + 10))))), (9, .int (nI (p + 14 + by4 f (p + 10) + 2))), (10, .int (nI (p + 14 + by4 f (p + 10) + 2 + 8 * by2 f (p + 14 + by4 f (p + 10))))), (13, .int (nI i))], [], M1)) rfl rfl rfl (fun c_323 => ?_) (fun c_323 => ?_)
                · have c_323 : (nI (by2 f (p + 14 + by4 f (p + 10) + 2 + 8 * i + 6))) = 0 := of_decide_eq_true c_323
                  have n_323 : by2 f (p + 14 + by4 f (p + 10) + 2 + 8 * i + 6) = 0 := (eq_nI (p := by2 f (p + 14 + by4 f (p + 10) + 2 + 8 * i + 6)) (n := 0) (Nat.lt_trans (by2_lt _ _) (by decide)) (by decide)).mp c_323
                  refine ps_st (S' := (350, [(13, .int ((nI i) + 1)), (0, .ref m0), (2, .int (nI (p + 6))), (4, .int (nI x)), (5, .long (nL (by4 f (p + 10)))), (8, .int (nI (by2 f (p + 14 + by4 f (p + 10))))), (9, .int (nI (p + 14 + by4 f (p + 10) + 2))), (10, .int (nI (p + 14 + by4 f (p + 10) + 2 + 8 * by2 f (p + 14 + by4 f (p + 10)))))], [], M1)) rfl rfl rfl ?_
                  rw [nI_add1 (p := i) (k := 1) (x := 1) rfl (by omega)]
                  show pl _ _ _ (_, [(13, .int (nI (i + 1))), (0, .ref m0), (2, .int (nI (p + 6))), (4, .int (nI x)), (5, .long (nL (by4 f (p + 10)))), (8, .int (nI (by2 f (p + 14 + by4 f (p + 10))))), (9, .int (nI (p + 14 + by4 f (p + 10) + 2))), (10, .int (nI (p + 14 + by4 f (p + 10) + 2 + 8 * by2 f (p + 14 + by4 f (p + 10)))))], [], M1) _
                  refine ps_st (S' := (250, [(0, .ref m0), (2, .int (nI (p + 6))), (4, .int (nI x)), (5, .long (nL (by4 f (p + 10)))), (8, .int (nI (by2 f (p + 14 + by4 f (p + 10))))), (9, .int (nI (p + 14 + by4 f (p + 10) + 2))), (10, .int (nI (p + 14 + by4 f (p + 10) + 2 + 8 * by2 f (p + 14 + by4 f (p + 10))))), (13, .int (nI (i + 1)))], [], M1)) rfl rfl rfl ?_
                  exact ih.2 (i + 1) M1 I1 R1 hR1 hEI1 hER1 hl51 hl52 hl53 hF1 hY1 hP1 hK1 (hr) (hb) (hce) (h41) (h42) (by omega) (by
                      rw [← hw9, rwA_st (i := i) (by omega), if_neg (by unfold rwN; rw [if_pos (by omega)]; decide)])
                · have c_323 : ¬ ((nI (by2 f (p + 14 + by4 f (p + 10) + 2 + 8 * i + 6))) = 0) := of_decide_eq_false c_323
                  have n_323 : ¬ (by2 f (p + 14 + by4 f (p + 10) + 2 + 8 * i + 6) = 0) := fun h9 => c_323 ((eq_nI (p := by2 f (p + 14 + by4 f (p + 10) + 2 + 8 * i + 6)) (n := 0) (Nat.lt_trans (by2_lt _ _) (by decide)) (by decide)).mpr h9)
                  refine ps_st (S' := (327, [(14, .int (nI (p + 14 + by4 f (p + 10) + 2 + 8 * i))), (0, .ref m0), (2, .int (nI (p + 6))), (4, .int (nI x)), (5, .long (nL (by4 f (p + 10)))), (8, .int (nI (by2 f (p + 14 + by4 f (p + 10))))), (9, .int (nI (p + 14 + by4 f (p + 10) + 2))), (10, .int (nI (p + 14 + by4 f (p + 10) + 2 + 8 * by2 f (p + 14 + by4 f (p + 10))))), (13, .int (nI i))], [.ref m0], M1)) rfl rfl rfl ?_
                  refine ps_st (S' := (328, [(14, .int (nI (p + 14 + by4 f (p + 10) + 2 + 8 * i))), (0, .ref m0), (2, .int (nI (p + 6))), (4, .int (nI x)), (5, .long (nL (by4 f (p + 10)))), (8, .int (nI (by2 f (p + 14 + by4 f (p + 10))))), (9, .int (nI (p + 14 + by4 f (p + 10) + 2))), (10, .int (nI (p + 14 + by4 f (p + 10) + 2 + 8 * by2 f (p + 14 + by4 f (p + 10))))), (13, .int (nI i))], [.ref m0, .ref m0], M1)) rfl rfl rfl ?_
                  refine ps_st (S' := (330, [(14, .int (nI (p + 14 + by4 f (p + 10) + 2 + 8 * i))), (0, .ref m0), (2, .int (nI (p + 6))), (4, .int (nI x)), (5, .long (nL (by4 f (p + 10)))), (8, .int (nI (by2 f (p + 14 + by4 f (p + 10))))), (9, .int (nI (p + 14 + by4 f (p + 10) + 2))), (10, .int (nI (p + 14 + by4 f (p + 10) + 2 + 8 * by2 f (p + 14 + by4 f (p + 10))))), (13, .int (nI i))], [.int (nI (p + 14 + by4 f (p + 10) + 2 + 8 * i)), .ref m0, .ref m0], M1)) rfl rfl rfl ?_
                  refine ps_st (S' := (332, [(14, .int (nI (p + 14 + by4 f (p + 10) + 2 + 8 * i))), (0, .ref m0), (2, .int (nI (p + 6))), (4, .int (nI x)), (5, .long (nL (by4 f (p + 10)))), (8, .int (nI (by2 f (p + 14 + by4 f (p + 10))))), (9, .int (nI (p + 14 + by4 f (p + 10) + 2))), (10, .int (nI (p + 14 + by4 f (p + 10) + 2 + 8 * by2 f (p + 14 + by4 f (p + 10))))), (13, .int (nI i))], [.int 6, .int (nI (p + 14 + by4 f (p + 10) + 2 + 8 * i)), .ref m0, .ref m0], M1)) rfl rfl rfl ?_
                  refine ps_st (S' := (333, [(14, .int (nI (p + 14 + by4 f (p + 10) + 2 + 8 * i))), (0, .ref m0), (2, .int (nI (p + 6))), (4, .int (nI x)), (5, .long (nL (by4 f (p + 10)))), (8, .int (nI (by2 f (p + 14 + by4 f (p + 10))))), (9, .int (nI (p + 14 + by4 f (p + 10) + 2))), (10, .int (nI (p + 14 + by4 f (p + 10) + 2 + 8 * by2 f (p + 14 + by4 f (p + 10))))), (13, .int (nI i))], [.int ((nI (p + 14 + by4 f (p + 10) + 2 + 8 * i)) + 6), .ref m0, .ref m0], M1)) rfl rfl rfl ?_
                  rw [nI_add1 (p := p + 14 + by4 f (p + 10) + 2 + 8 * i) (k := 6) (x := 6) rfl (by omega)]
                  show pl _ _ _ (_, [(14, .int (nI (p + 14 + by4 f (p + 10) + 2 + 8 * i))), (0, .ref m0), (2, .int (nI (p + 6))), (4, .int (nI x)), (5, .long (nL (by4 f (p + 10)))), (8, .int (nI (by2 f (p + 14 + by4 f (p + 10))))), (9, .int (nI (p + 14 + by4 f (p + 10) + 2))), (10, .int (nI (p + 14 + by4 f (p + 10) + 2 + 8 * by2 f (p + 14 + by4 f (p + 10))))), (13, .int (nI i))], [.int (nI (p + 14 + by4 f (p + 10) + 2 + 8 * i + 6)), .ref m0, .ref m0], M1) _
                  refine pl_call (a := [.ref m0, .int (nI (p + 14 + by4 f (p + 10) + 2 + 8 * i + 6))]) (rest := [.ref m0]) rfl rfl rfl (rd_u2 (n := n) (f := f) (p := (p + 14 + by4 f (p + 10) + 2 + 8 * i + 6)) hR1 hF1 (by omega)) (fun v128 M129 q130 => ?_)
                  obtain ⟨rfl, rfl⟩ := q130
                  show pl _ _ _ (336, [(14, .int (nI (p + 14 + by4 f (p + 10) + 2 + 8 * i))), (0, .ref m0), (2, .int (nI (p + 6))), (4, .int (nI x)), (5, .long (nL (by4 f (p + 10)))), (8, .int (nI (by2 f (p + 14 + by4 f (p + 10))))), (9, .int (nI (p + 14 + by4 f (p + 10) + 2))), (10, .int (nI (p + 14 + by4 f (p + 10) + 2 + 8 * by2 f (p + 14 + by4 f (p + 10))))), (13, .int (nI i))], [.int (nI (by2 f (p + 14 + by4 f (p + 10) + 2 + 8 * i + 6))), .ref m0], M1) _
                  have hu_333 := by2_lt f (p + 14 + by4 f (p + 10) + 2 + 8 * i + 6)
                  refine pl_call (a := [.ref m0, .int (nI (by2 f (p + 14 + by4 f (p + 10) + 2 + 8 * i + 6)))]) (rest := []) rfl rfl rfl (rd_tag (n := n) (f := f) (tx := tx) (cN := cN) (A := A) (N := N) (mj := mj) (E := E) (k := (by2 f (p + 14 + by4 f (p + 10) + 2 + 8 * i + 6))) hR1 hl51 hl52 hl53 hF1 hY1 hP1 (hEP) (hN) (hmj) (by2_lt _ _)) (fun v131 M132 q133 => ?_)
                  obtain ⟨rfl, rfl⟩ := q133
                  show pl _ _ _ (339, [(14, .int (nI (p + 14 + by4 f (p + 10) + 2 + 8 * i))), (0, .ref m0), (2, .int (nI (p + 6))), (4, .int (nI x)), (5, .long (nL (by4 f (p + 10)))), (8, .int (nI (by2 f (p + 14 + by4 f (p + 10))))), (9, .int (nI (p + 14 + by4 f (p + 10) + 2))), (10, .int (nI (p + 14 + by4 f (p + 10) + 2 + 8 * by2 f (p + 14 + by4 f (p + 10))))), (13, .int (nI i))], [.int (nI (tg f E (by2 f (p + 14 + by4 f (p + 10) + 2 + 8 * i + 6))))], M1) _
                  have htg_336 := tg_lt f E (by2 f (p + 14 + by4 f (p + 10) + 2 + 8 * i + 6))
                  refine ps_st (S' := (341, [(14, .int (nI (p + 14 + by4 f (p + 10) + 2 + 8 * i))), (0, .ref m0), (2, .int (nI (p + 6))), (4, .int (nI x)), (5, .long (nL (by4 f (p + 10)))), (8, .int (nI (by2 f (p + 14 + by4 f (p + 10))))), (9, .int (nI (p + 14 + by4 f (p + 10) + 2))), (10, .int (nI (p + 14 + by4 f (p + 10) + 2 + 8 * by2 f (p + 14 + by4 f (p + 10))))), (13, .int (nI i))], [.int 7, .int (nI (tg f E (by2 f (p + 14 + by4 f (p + 10) + 2 + 8 * i + 6))))], M1)) rfl rfl rfl ?_
                  refine ps_if2 (S1 := (347, [(0, .ref m0), (2, .int (nI (p + 6))), (4, .int (nI x)), (5, .long (nL (by4 f (p + 10)))), (8, .int (nI (by2 f (p + 14 + by4 f (p + 10))))), (9, .int (nI (p + 14 + by4 f (p + 10) + 2))), (10, .int (nI (p + 14 + by4 f (p + 10) + 2 + 8 * by2 f (p + 14 + by4 f (p + 10))))), (13, .int (nI i))], [], M1)) (S2 := (344, [], [], M1)) rfl rfl rfl (fun c_341 => ?_) (fun c_341 => ?_)
                  · have c_341 : (nI (tg f E (by2 f (p + 14 + by4 f (p + 10) + 2 + 8 * i + 6)))) = 7 := of_decide_eq_true c_341
                    have n_341 : tg f E (by2 f (p + 14 + by4 f (p + 10) + 2 + 8 * i + 6)) = 7 := (eq_nI (p := tg f E (by2 f (p + 14 + by4 f (p + 10) + 2 + 8 * i + 6))) (n := 7) (Nat.lt_trans (tg_lt _ _ _) (by decide)) (by decide)).mp c_341
                    refine ps_st (S' := (350, [(13, .int ((nI i) + 1)), (0, .ref m0), (2, .int (nI (p + 6))), (4, .int (nI x)), (5, .long (nL (by4 f (p + 10)))), (8, .int (nI (by2 f (p + 14 + by4 f (p + 10))))), (9, .int (nI (p + 14 + by4 f (p + 10) + 2))), (10, .int (nI (p + 14 + by4 f (p + 10) + 2 + 8 * by2 f (p + 14 + by4 f (p + 10)))))], [], M1)) rfl rfl rfl ?_
                    rw [nI_add1 (p := i) (k := 1) (x := 1) rfl (by omega)]
                    show pl _ _ _ (_, [(13, .int (nI (i + 1))), (0, .ref m0), (2, .int (nI (p + 6))), (4, .int (nI x)), (5, .long (nL (by4 f (p + 10)))), (8, .int (nI (by2 f (p + 14 + by4 f (p + 10))))), (9, .int (nI (p + 14 + by4 f (p + 10) + 2))), (10, .int (nI (p + 14 + by4 f (p + 10) + 2 + 8 * by2 f (p + 14 + by4 f (p + 10)))))], [], M1) _
                    refine ps_st (S' := (250, [(0, .ref m0), (2, .int (nI (p + 6))), (4, .int (nI x)), (5, .long (nL (by4 f (p + 10)))), (8, .int (nI (by2 f (p + 14 + by4 f (p + 10))))), (9, .int (nI (p + 14 + by4 f (p + 10) + 2))), (10, .int (nI (p + 14 + by4 f (p + 10) + 2 + 8 * by2 f (p + 14 + by4 f (p + 10))))), (13, .int (nI (i + 1)))], [], M1)) rfl rfl rfl ?_
                    exact ih.2 (i + 1) M1 I1 R1 hR1 hEI1 hER1 hl51 hl52 hl53 hF1 hY1 hP1 hK1 (hr) (hb) (hce) (h41) (h42) (by omega) (by
                        rw [← hw9, rwA_st (i := i) (by omega), if_neg (by unfold rwN; rw [if_pos (by omega)]; decide)])
                  · have c_341 : ¬ ((nI (tg f E (by2 f (p + 14 + by4 f (p + 10) + 2 + 8 * i + 6)))) = 7) := of_decide_eq_false c_341
                    have n_341 : ¬ (tg f E (by2 f (p + 14 + by4 f (p + 10) + 2 + 8 * i + 6)) = 7) := fun h9 => c_341 ((eq_nI (p := tg f E (by2 f (p + 14 + by4 f (p + 10) + 2 + 8 * i + 6))) (n := 7) (Nat.lt_trans (tg_lt _ _ _) (by decide)) (by decide)).mpr h9)
                    refine ps_st (S' := (346, [], [.int 43], M1)) rfl rfl rfl ?_
                    exact ps_ret rfl rfl (Or.inr (Or.inl ⟨43, I1, R1, hce, by
                        unfold cdS
                        rw [if_neg h41, if_neg h42, if_pos (by rw [← hw9, rwA_st (i := i) (by omega), if_pos (by unfold rwN; rw [if_neg (by omega)])])], by decide, rfl, hR1, hEI1, hER1⟩))
  refine ps_st (S' := (1, [(0, .ref m0), (1, .int t), (2, .int (nI (p + 6))), (3, .int (nI e)), (4, .int (nI x))], [.int (nI e)], M)) rfl rfl rfl ?_
  refine ps_st (S' := (2, [(0, .ref m0), (1, .int t), (2, .int (nI (p + 6))), (3, .int (nI e)), (4, .int (nI x))], [.int (nI (p + 6)), .int (nI e)], M)) rfl rfl rfl ?_
  refine ps_st (S' := (3, [(0, .ref m0), (1, .int t), (2, .int (nI (p + 6))), (3, .int (nI e)), (4, .int (nI x))], [.int ((nI e) - (nI (p + 6)))], M)) rfl rfl rfl ?_
  refine ps_st (S' := (5, [(0, .ref m0), (1, .int t), (2, .int (nI (p + 6))), (3, .int (nI e)), (4, .int (nI x))], [.int 8, .int ((nI e) - (nI (p + 6)))], M)) rfl rfl rfl ?_
  refine ps_if2 (S1 := (11, [(0, .ref m0), (1, .int t), (2, .int (nI (p + 6))), (3, .int (nI e)), (4, .int (nI x))], [], M)) (S2 := (8, [(0, .ref m0), (1, .int t), (2, .int (nI (p + 6))), (3, .int (nI e)), (4, .int (nI x))], [], M)) rfl rfl rfl (fun c_5 => ?_) (fun c_5 => ?_)
  · have c_5 : 8 ≤ ((nI e) - (nI (p + 6))) := of_decide_eq_true c_5
    have n_5 : 8 + (p + 6) ≤ e := (le_sub1 (e := e) (p := p + 6) (k := 8) (by omega) (by omega) (by omega)).mp c_5
    refine ps_st (S' := (12, [(0, .ref m0), (1, .int t), (2, .int (nI (p + 6))), (3, .int (nI e)), (4, .int (nI x))], [.ref m0], M)) rfl rfl rfl ?_
    refine ps_st (S' := (13, [(0, .ref m0), (1, .int t), (2, .int (nI (p + 6))), (3, .int (nI e)), (4, .int (nI x))], [.int (nI (p + 6)), .ref m0], M)) rfl rfl rfl ?_
    refine ps_st (S' := (14, [(0, .ref m0), (1, .int t), (2, .int (nI (p + 6))), (3, .int (nI e)), (4, .int (nI x))], [.int 4, .int (nI (p + 6)), .ref m0], M)) rfl rfl rfl ?_
    refine ps_st (S' := (15, [(0, .ref m0), (1, .int t), (2, .int (nI (p + 6))), (3, .int (nI e)), (4, .int (nI x))], [.int ((nI (p + 6)) + 4), .ref m0], M)) rfl rfl rfl ?_
    rw [nI_add1 (p := p + 6) (k := 4) (x := 4) rfl (by omega)]
    show pl _ _ _ (_, [(0, .ref m0), (1, .int t), (2, .int (nI (p + 6))), (3, .int (nI e)), (4, .int (nI x))], [.int (nI (p + 10)), .ref m0], M) _
    refine pl_call (a := [.ref m0, .int (nI (p + 10))]) (rest := []) rfl rfl rfl (rd_u4 (n := n) (f := f) (p := (p + 10)) hR hF (by omega)) (fun v134 M135 q136 => ?_)
    obtain ⟨rfl, rfl⟩ := q136
    show pl _ _ _ (18, [(0, .ref m0), (1, .int t), (2, .int (nI (p + 6))), (3, .int (nI e)), (4, .int (nI x))], [.long (nL (by4 f (p + 10)))], M) _
    have hu_15 := by4_lt f (p + 10)
    refine ps_st (S' := (20, [(5, .long (nL (by4 f (p + 10)))), (0, .ref m0), (1, .int t), (2, .int (nI (p + 6))), (3, .int (nI e)), (4, .int (nI x))], [], M)) rfl rfl rfl ?_
    refine ps_st (S' := (22, [(5, .long (nL (by4 f (p + 10)))), (0, .ref m0), (1, .int t), (2, .int (nI (p + 6))), (3, .int (nI e)), (4, .int (nI x))], [.long (nL (by4 f (p + 10)))], M)) rfl rfl rfl ?_
    refine ps_st (S' := (23, [(5, .long (nL (by4 f (p + 10)))), (0, .ref m0), (1, .int t), (2, .int (nI (p + 6))), (3, .int (nI e)), (4, .int (nI x))], [.int (nI e), .long (nL (by4 f (p + 10)))], M)) rfl rfl rfl ?_
    refine ps_st (S' := (24, [(5, .long (nL (by4 f (p + 10)))), (0, .ref m0), (1, .int t), (2, .int (nI (p + 6))), (3, .int (nI e)), (4, .int (nI x))], [.int (nI (p + 6)), .int (nI e), .long (nL (by4 f (p + 10)))], M)) rfl rfl rfl ?_
    refine ps_st (S' := (25, [(5, .long (nL (by4 f (p + 10)))), (0, .ref m0), (1, .int t), (2, .int (nI (p + 6))), (3, .int (nI e)), (4, .int (nI x))], [.int ((nI e) - (nI (p + 6))), .long (nL (by4 f (p + 10)))], M)) rfl rfl rfl ?_
    rw [nI_sub1 (p := e) (k := p + 6) (x := (nI (p + 6))) rfl (by omega) (by omega)]
    show pl _ _ _ (_, [(5, .long (nL (by4 f (p + 10)))), (0, .ref m0), (1, .int t), (2, .int (nI (p + 6))), (3, .int (nI e)), (4, .int (nI x))], [.int (nI (e - (p + 6))), .long (nL (by4 f (p + 10)))], M) _
    refine ps_st (S' := (27, [(5, .long (nL (by4 f (p + 10)))), (0, .ref m0), (1, .int t), (2, .int (nI (p + 6))), (3, .int (nI e)), (4, .int (nI x))], [.int 8, .int (nI (e - (p + 6))), .long (nL (by4 f (p + 10)))], M)) rfl rfl rfl ?_
    refine ps_st (S' := (28, [(5, .long (nL (by4 f (p + 10)))), (0, .ref m0), (1, .int t), (2, .int (nI (p + 6))), (3, .int (nI e)), (4, .int (nI x))], [.int ((nI (e - (p + 6))) - 8), .long (nL (by4 f (p + 10)))], M)) rfl rfl rfl ?_
    rw [nI_sub1 (p := e - (p + 6)) (k := 8) (x := 8) rfl (by omega) (by omega)]
    show pl _ _ _ (_, [(5, .long (nL (by4 f (p + 10)))), (0, .ref m0), (1, .int t), (2, .int (nI (p + 6))), (3, .int (nI e)), (4, .int (nI x))], [.int (nI ((e - (p + 6)) - 8)), .long (nL (by4 f (p + 10)))], M) _
    refine ps_st (S' := (29, [(5, .long (nL (by4 f (p + 10)))), (0, .ref m0), (1, .int t), (2, .int (nI (p + 6))), (3, .int (nI e)), (4, .int (nI x))], [.long (Int32.toInt64 (nI ((e - (p + 6)) - 8))), .long (nL (by4 f (p + 10)))], M)) rfl rfl rfl ?_
    rw [i2l_nL (p := (e - (p + 6)) - 8) (by omega)]
    show pl _ _ _ (_, [(5, .long (nL (by4 f (p + 10)))), (0, .ref m0), (1, .int t), (2, .int (nI (p + 6))), (3, .int (nI e)), (4, .int (nI x))], [.long (nL ((e - (p + 6)) - 8)), .long (nL (by4 f (p + 10)))], M) _
    refine ps_st (S' := (30, [(5, .long (nL (by4 f (p + 10)))), (0, .ref m0), (1, .int t), (2, .int (nI (p + 6))), (3, .int (nI e)), (4, .int (nI x))], [.int (lg_cmp (nL (by4 f (p + 10))) (nL ((e - (p + 6)) - 8)))], M)) rfl rfl rfl ?_
    refine ps_if (S1 := (36, [(5, .long (nL (by4 f (p + 10)))), (0, .ref m0), (1, .int t), (2, .int (nI (p + 6))), (3, .int (nI e)), (4, .int (nI x))], [], M)) (S2 := (33, [(5, .long (nL (by4 f (p + 10)))), (0, .ref m0), (1, .int t), (2, .int (nI (p + 6))), (3, .int (nI e)), (4, .int (nI x))], [], M)) rfl rfl rfl (fun c_30 => ?_) (fun c_30 => ?_)
    · have n_30 : by4 f (p + 10) ≤ (e - (p + 6)) - 8 := (cL_le (p := by4 f (p + 10)) (k := (e - (p + 6)) - 8) (x := (nL (by4 f (p + 10)))) (y := (nL ((e - (p + 6)) - 8))) rfl rfl (by omega) (by omega)).mp (of_decide_eq_true c_30)
      refine ps_st (S' := (37, [(5, .long (nL (by4 f (p + 10)))), (0, .ref m0), (1, .int t), (2, .int (nI (p + 6))), (3, .int (nI e)), (4, .int (nI x))], [.int (nI (p + 6))], M)) rfl rfl rfl ?_
      refine ps_st (S' := (39, [(5, .long (nL (by4 f (p + 10)))), (0, .ref m0), (1, .int t), (2, .int (nI (p + 6))), (3, .int (nI e)), (4, .int (nI x))], [.int 8, .int (nI (p + 6))], M)) rfl rfl rfl ?_
      refine ps_st (S' := (40, [(5, .long (nL (by4 f (p + 10)))), (0, .ref m0), (1, .int t), (2, .int (nI (p + 6))), (3, .int (nI e)), (4, .int (nI x))], [.int ((nI (p + 6)) + 8)], M)) rfl rfl rfl ?_
      rw [nI_add1 (p := p + 6) (k := 8) (x := 8) rfl (by omega)]
      show pl _ _ _ (_, [(5, .long (nL (by4 f (p + 10)))), (0, .ref m0), (1, .int t), (2, .int (nI (p + 6))), (3, .int (nI e)), (4, .int (nI x))], [.int (nI (p + 14))], M) _
      refine ps_st (S' := (42, [(5, .long (nL (by4 f (p + 10)))), (0, .ref m0), (1, .int t), (2, .int (nI (p + 6))), (3, .int (nI e)), (4, .int (nI x))], [.long (nL (by4 f (p + 10))), .int (nI (p + 14))], M)) rfl rfl rfl ?_
      refine ps_st (S' := (43, [(5, .long (nL (by4 f (p + 10)))), (0, .ref m0), (1, .int t), (2, .int (nI (p + 6))), (3, .int (nI e)), (4, .int (nI x))], [.int (Int64.toInt32 (nL (by4 f (p + 10)))), .int (nI (p + 14))], M)) rfl rfl rfl ?_
      rw [l2i_nL (p := by4 f (p + 10)) (by omega)]
      show pl _ _ _ (_, [(5, .long (nL (by4 f (p + 10)))), (0, .ref m0), (1, .int t), (2, .int (nI (p + 6))), (3, .int (nI e)), (4, .int (nI x))], [.int (nI (by4 f (p + 10))), .int (nI (p + 14))], M) _
      refine ps_st (S' := (44, [(5, .long (nL (by4 f (p + 10)))), (0, .ref m0), (1, .int t), (2, .int (nI (p + 6))), (3, .int (nI e)), (4, .int (nI x))], [.int ((nI (p + 14)) + (nI (by4 f (p + 10))))], M)) rfl rfl rfl ?_
      rw [nI_add1 (p := p + 14) (k := by4 f (p + 10)) (x := (nI (by4 f (p + 10)))) rfl (by omega)]
      show pl _ _ _ (_, [(5, .long (nL (by4 f (p + 10)))), (0, .ref m0), (1, .int t), (2, .int (nI (p + 6))), (3, .int (nI e)), (4, .int (nI x))], [.int (nI (p + 14 + by4 f (p + 10)))], M) _
      refine ps_st (S' := (46, [(7, .int (nI (p + 14 + by4 f (p + 10)))), (5, .long (nL (by4 f (p + 10)))), (0, .ref m0), (1, .int t), (2, .int (nI (p + 6))), (3, .int (nI e)), (4, .int (nI x))], [], M)) rfl rfl rfl ?_
      refine ps_st (S' := (48, [(7, .int (nI (p + 14 + by4 f (p + 10)))), (5, .long (nL (by4 f (p + 10)))), (0, .ref m0), (1, .int t), (2, .int (nI (p + 6))), (3, .int (nI e)), (4, .int (nI x))], [.int (nI (p + 14 + by4 f (p + 10)))], M)) rfl rfl rfl ?_
      refine ps_st (S' := (49, [(7, .int (nI (p + 14 + by4 f (p + 10)))), (5, .long (nL (by4 f (p + 10)))), (0, .ref m0), (1, .int t), (2, .int (nI (p + 6))), (3, .int (nI e)), (4, .int (nI x))], [.int 2, .int (nI (p + 14 + by4 f (p + 10)))], M)) rfl rfl rfl ?_
      refine ps_st (S' := (50, [(7, .int (nI (p + 14 + by4 f (p + 10)))), (5, .long (nL (by4 f (p + 10)))), (0, .ref m0), (1, .int t), (2, .int (nI (p + 6))), (3, .int (nI e)), (4, .int (nI x))], [.int ((nI (p + 14 + by4 f (p + 10))) + 2)], M)) rfl rfl rfl ?_
      rw [nI_add1 (p := p + 14 + by4 f (p + 10)) (k := 2) (x := 2) rfl (by omega)]
      show pl _ _ _ (_, [(7, .int (nI (p + 14 + by4 f (p + 10)))), (5, .long (nL (by4 f (p + 10)))), (0, .ref m0), (1, .int t), (2, .int (nI (p + 6))), (3, .int (nI e)), (4, .int (nI x))], [.int (nI (p + 14 + by4 f (p + 10) + 2))], M) _
      refine ps_st (S' := (51, [(7, .int (nI (p + 14 + by4 f (p + 10)))), (5, .long (nL (by4 f (p + 10)))), (0, .ref m0), (1, .int t), (2, .int (nI (p + 6))), (3, .int (nI e)), (4, .int (nI x))], [.int (nI e), .int (nI (p + 14 + by4 f (p + 10) + 2))], M)) rfl rfl rfl ?_
      refine ps_if2 (S1 := (57, [(7, .int (nI (p + 14 + by4 f (p + 10)))), (5, .long (nL (by4 f (p + 10)))), (0, .ref m0), (1, .int t), (2, .int (nI (p + 6))), (3, .int (nI e)), (4, .int (nI x))], [], M)) (S2 := (54, [(7, .int (nI (p + 14 + by4 f (p + 10)))), (5, .long (nL (by4 f (p + 10)))), (0, .ref m0), (1, .int t), (2, .int (nI (p + 6))), (3, .int (nI e)), (4, .int (nI x))], [], M)) rfl rfl rfl (fun c_51 => ?_) (fun c_51 => ?_)
      · have c_51 : (nI (p + 14 + by4 f (p + 10) + 2)) ≤ (nI e) := of_decide_eq_true c_51
        have n_51 : p + 14 + by4 f (p + 10) + 2 ≤ e := (le_nI (p := p + 14 + by4 f (p + 10) + 2) (n := e) (by omega) (by omega)).mp c_51
        refine ps_st (S' := (58, [(7, .int (nI (p + 14 + by4 f (p + 10)))), (5, .long (nL (by4 f (p + 10)))), (0, .ref m0), (1, .int t), (2, .int (nI (p + 6))), (3, .int (nI e)), (4, .int (nI x))], [.ref m0], M)) rfl rfl rfl ?_
        refine ps_st (S' := (60, [(7, .int (nI (p + 14 + by4 f (p + 10)))), (5, .long (nL (by4 f (p + 10)))), (0, .ref m0), (1, .int t), (2, .int (nI (p + 6))), (3, .int (nI e)), (4, .int (nI x))], [.int (nI (p + 14 + by4 f (p + 10))), .ref m0], M)) rfl rfl rfl ?_
        refine pl_call (a := [.ref m0, .int (nI (p + 14 + by4 f (p + 10)))]) (rest := []) rfl rfl rfl (rd_u2 (n := n) (f := f) (p := (p + 14 + by4 f (p + 10))) hR hF (by omega)) (fun v137 M138 q139 => ?_)
        obtain ⟨rfl, rfl⟩ := q139
        show pl _ _ _ (63, [(7, .int (nI (p + 14 + by4 f (p + 10)))), (5, .long (nL (by4 f (p + 10)))), (0, .ref m0), (1, .int t), (2, .int (nI (p + 6))), (3, .int (nI e)), (4, .int (nI x))], [.int (nI (by2 f (p + 14 + by4 f (p + 10))))], M) _
        have hu_60 := by2_lt f (p + 14 + by4 f (p + 10))
        refine ps_st (S' := (65, [(8, .int (nI (by2 f (p + 14 + by4 f (p + 10))))), (7, .int (nI (p + 14 + by4 f (p + 10)))), (5, .long (nL (by4 f (p + 10)))), (0, .ref m0), (1, .int t), (2, .int (nI (p + 6))), (3, .int (nI e)), (4, .int (nI x))], [], M)) rfl rfl rfl ?_
        refine ps_st (S' := (67, [(8, .int (nI (by2 f (p + 14 + by4 f (p + 10))))), (7, .int (nI (p + 14 + by4 f (p + 10)))), (5, .long (nL (by4 f (p + 10)))), (0, .ref m0), (1, .int t), (2, .int (nI (p + 6))), (3, .int (nI e)), (4, .int (nI x))], [.int (nI (p + 14 + by4 f (p + 10)))], M)) rfl rfl rfl ?_
        refine ps_st (S' := (68, [(8, .int (nI (by2 f (p + 14 + by4 f (p + 10))))), (7, .int (nI (p + 14 + by4 f (p + 10)))), (5, .long (nL (by4 f (p + 10)))), (0, .ref m0), (1, .int t), (2, .int (nI (p + 6))), (3, .int (nI e)), (4, .int (nI x))], [.int 2, .int (nI (p + 14 + by4 f (p + 10)))], M)) rfl rfl rfl ?_
        refine ps_st (S' := (69, [(8, .int (nI (by2 f (p + 14 + by4 f (p + 10))))), (7, .int (nI (p + 14 + by4 f (p + 10)))), (5, .long (nL (by4 f (p + 10)))), (0, .ref m0), (1, .int t), (2, .int (nI (p + 6))), (3, .int (nI e)), (4, .int (nI x))], [.int ((nI (p + 14 + by4 f (p + 10))) + 2)], M)) rfl rfl rfl ?_
        rw [nI_add1 (p := p + 14 + by4 f (p + 10)) (k := 2) (x := 2) rfl (by omega)]
        show pl _ _ _ (_, [(8, .int (nI (by2 f (p + 14 + by4 f (p + 10))))), (7, .int (nI (p + 14 + by4 f (p + 10)))), (5, .long (nL (by4 f (p + 10)))), (0, .ref m0), (1, .int t), (2, .int (nI (p + 6))), (3, .int (nI e)), (4, .int (nI x))], [.int (nI (p + 14 + by4 f (p + 10) + 2))], M) _
        refine ps_st (S' := (71, [(9, .int (nI (p + 14 + by4 f (p + 10) + 2))), (8, .int (nI (by2 f (p + 14 + by4 f (p + 10))))), (7, .int (nI (p + 14 + by4 f (p + 10)))), (5, .long (nL (by4 f (p + 10)))), (0, .ref m0), (1, .int t), (2, .int (nI (p + 6))), (3, .int (nI e)), (4, .int (nI x))], [], M)) rfl rfl rfl ?_
        refine ps_st (S' := (73, [(9, .int (nI (p + 14 + by4 f (p + 10) + 2))), (8, .int (nI (by2 f (p + 14 + by4 f (p + 10))))), (7, .int (nI (p + 14 + by4 f (p + 10)))), (5, .long (nL (by4 f (p + 10)))), (0, .ref m0), (1, .int t), (2, .int (nI (p + 6))), (3, .int (nI e)), (4, .int (nI x))], [.int (nI (p + 14 + by4 f (p + 10) + 2))], M)) rfl rfl rfl ?_
        refine ps_st (S' := (75, [(9, .int (nI (p + 14 + by4 f (p + 10) + 2))), (8, .int (nI (by2 f (p + 14 + by4 f (p + 10))))), (7, .int (nI (p + 14 + by4 f (p + 10)))), (5, .long (nL (by4 f (p + 10)))), (0, .ref m0), (1, .int t), (2, .int (nI (p + 6))), (3, .int (nI e)), (4, .int (nI x))], [.int 8, .int (nI (p + 14 + by4 f (p + 10) + 2))], M)) rfl rfl rfl ?_
        refine ps_st (S' := (77, [(9, .int (nI (p + 14 + by4 f (p + 10) + 2))), (8, .int (nI (by2 f (p + 14 + by4 f (p + 10))))), (7, .int (nI (p + 14 + by4 f (p + 10)))), (5, .long (nL (by4 f (p + 10)))), (0, .ref m0), (1, .int t), (2, .int (nI (p + 6))), (3, .int (nI e)), (4, .int (nI x))], [.int (nI (by2 f (p + 14 + by4 f (p + 10)))), .int 8, .int (nI (p + 14 + by4 f (p + 10) + 2))], M)) rfl rfl rfl ?_
        refine ps_st (S' := (78, [(9, .int (nI (p + 14 + by4 f (p + 10) + 2))), (8, .int (nI (by2 f (p + 14 + by4 f (p + 10))))), (7, .int (nI (p + 14 + by4 f (p + 10)))), (5, .long (nL (by4 f (p + 10)))), (0, .ref m0), (1, .int t), (2, .int (nI (p + 6))), (3, .int (nI e)), (4, .int (nI x))], [.int (8 * (nI (by2 f (p + 14 + by4 f (p + 10))))), .int (nI (p + 14 + by4 f (p + 10) + 2))], M)) rfl rfl rfl ?_
        rw [nI_mul1 (p := 8) (k := by2 f (p + 14 + by4 f (p + 10))) (x := 8) (y := (nI (by2 f (p + 14 + by4 f (p + 10))))) rfl rfl (by omega)]
        show pl _ _ _ (_, [(9, .int (nI (p + 14 + by4 f (p + 10) + 2))), (8, .int (nI (by2 f (p + 14 + by4 f (p + 10))))), (7, .int (nI (p + 14 + by4 f (p + 10)))), (5, .long (nL (by4 f (p + 10)))), (0, .ref m0), (1, .int t), (2, .int (nI (p + 6))), (3, .int (nI e)), (4, .int (nI x))], [.int (nI (8 * (by2 f (p + 14 + by4 f (p + 10))))), .int (nI (p + 14 + by4 f (p + 10) + 2))], M) _
        refine ps_st (S' := (79, [(9, .int (nI (p + 14 + by4 f (p + 10) + 2))), (8, .int (nI (by2 f (p + 14 + by4 f (p + 10))))), (7, .int (nI (p + 14 + by4 f (p + 10)))), (5, .long (nL (by4 f (p + 10)))), (0, .ref m0), (1, .int t), (2, .int (nI (p + 6))), (3, .int (nI e)), (4, .int (nI x))], [.int ((nI (p + 14 + by4 f (p + 10) + 2)) + (nI (8 * (by2 f (p + 14 + by4 f (p + 10))))))], M)) rfl rfl rfl ?_
        rw [nI_add1 (p := p + 14 + by4 f (p + 10) + 2) (k := 8 * (by2 f (p + 14 + by4 f (p + 10)))) (x := (nI (8 * (by2 f (p + 14 + by4 f (p + 10)))))) rfl (by omega)]
        show pl _ _ _ (_, [(9, .int (nI (p + 14 + by4 f (p + 10) + 2))), (8, .int (nI (by2 f (p + 14 + by4 f (p + 10))))), (7, .int (nI (p + 14 + by4 f (p + 10)))), (5, .long (nL (by4 f (p + 10)))), (0, .ref m0), (1, .int t), (2, .int (nI (p + 6))), (3, .int (nI e)), (4, .int (nI x))], [.int (nI (p + 14 + by4 f (p + 10) + 2 + 8 * (by2 f (p + 14 + by4 f (p + 10)))))], M) _
        refine ps_st (S' := (81, [(7, .int (nI (p + 14 + by4 f (p + 10) + 2 + 8 * (by2 f (p + 14 + by4 f (p + 10)))))), (9, .int (nI (p + 14 + by4 f (p + 10) + 2))), (8, .int (nI (by2 f (p + 14 + by4 f (p + 10))))), (5, .long (nL (by4 f (p + 10)))), (0, .ref m0), (1, .int t), (2, .int (nI (p + 6))), (3, .int (nI e)), (4, .int (nI x))], [], M)) rfl rfl rfl ?_
        refine ps_st (S' := (83, [(7, .int (nI (p + 14 + by4 f (p + 10) + 2 + 8 * (by2 f (p + 14 + by4 f (p + 10)))))), (9, .int (nI (p + 14 + by4 f (p + 10) + 2))), (8, .int (nI (by2 f (p + 14 + by4 f (p + 10))))), (5, .long (nL (by4 f (p + 10)))), (0, .ref m0), (1, .int t), (2, .int (nI (p + 6))), (3, .int (nI e)), (4, .int (nI x))], [.int (nI (p + 14 + by4 f (p + 10) + 2 + 8 * (by2 f (p + 14 + by4 f (p + 10)))))], M)) rfl rfl rfl ?_
        refine ps_st (S' := (84, [(7, .int (nI (p + 14 + by4 f (p + 10) + 2 + 8 * (by2 f (p + 14 + by4 f (p + 10)))))), (9, .int (nI (p + 14 + by4 f (p + 10) + 2))), (8, .int (nI (by2 f (p + 14 + by4 f (p + 10))))), (5, .long (nL (by4 f (p + 10)))), (0, .ref m0), (1, .int t), (2, .int (nI (p + 6))), (3, .int (nI e)), (4, .int (nI x))], [.int 2, .int (nI (p + 14 + by4 f (p + 10) + 2 + 8 * (by2 f (p + 14 + by4 f (p + 10)))))], M)) rfl rfl rfl ?_
        refine ps_st (S' := (85, [(7, .int (nI (p + 14 + by4 f (p + 10) + 2 + 8 * (by2 f (p + 14 + by4 f (p + 10)))))), (9, .int (nI (p + 14 + by4 f (p + 10) + 2))), (8, .int (nI (by2 f (p + 14 + by4 f (p + 10))))), (5, .long (nL (by4 f (p + 10)))), (0, .ref m0), (1, .int t), (2, .int (nI (p + 6))), (3, .int (nI e)), (4, .int (nI x))], [.int ((nI (p + 14 + by4 f (p + 10) + 2 + 8 * (by2 f (p + 14 + by4 f (p + 10))))) + 2)], M)) rfl rfl rfl ?_
        rw [nI_add1 (p := p + 14 + by4 f (p + 10) + 2 + 8 * (by2 f (p + 14 + by4 f (p + 10)))) (k := 2) (x := 2) rfl (by omega)]
        show pl _ _ _ (_, [(7, .int (nI (p + 14 + by4 f (p + 10) + 2 + 8 * (by2 f (p + 14 + by4 f (p + 10)))))), (9, .int (nI (p + 14 + by4 f (p + 10) + 2))), (8, .int (nI (by2 f (p + 14 + by4 f (p + 10))))), (5, .long (nL (by4 f (p + 10)))), (0, .ref m0), (1, .int t), (2, .int (nI (p + 6))), (3, .int (nI e)), (4, .int (nI x))], [.int (nI (p + 14 + by4 f (p + 10) + 2 + 8 * (by2 f (p + 14 + by4 f (p + 10))) + 2))], M) _
        refine ps_st (S' := (86, [(7, .int (nI (p + 14 + by4 f (p + 10) + 2 + 8 * (by2 f (p + 14 + by4 f (p + 10)))))), (9, .int (nI (p + 14 + by4 f (p + 10) + 2))), (8, .int (nI (by2 f (p + 14 + by4 f (p + 10))))), (5, .long (nL (by4 f (p + 10)))), (0, .ref m0), (1, .int t), (2, .int (nI (p + 6))), (3, .int (nI e)), (4, .int (nI x))], [.int (nI e), .int (nI (p + 14 + by4 f (p + 10) + 2 + 8 * (by2 f (p + 14 + by4 f (p + 10))) + 2))], M)) rfl rfl rfl ?_
        refine ps_if2 (S1 := (92, [(7, .int (nI (p + 14 + by4 f (p + 10) + 2 + 8 * (by2 f (p + 14 + by4 f (p + 10)))))), (9, .int (nI (p + 14 + by4 f (p + 10) + 2))), (8, .int (nI (by2 f (p + 14 + by4 f (p + 10))))), (5, .long (nL (by4 f (p + 10)))), (0, .ref m0), (1, .int t), (2, .int (nI (p + 6))), (3, .int (nI e)), (4, .int (nI x))], [], M)) (S2 := (89, [(7, .int (nI (p + 14 + by4 f (p + 10) + 2 + 8 * (by2 f (p + 14 + by4 f (p + 10)))))), (9, .int (nI (p + 14 + by4 f (p + 10) + 2))), (8, .int (nI (by2 f (p + 14 + by4 f (p + 10))))), (5, .long (nL (by4 f (p + 10)))), (0, .ref m0), (1, .int t), (2, .int (nI (p + 6))), (3, .int (nI e)), (4, .int (nI x))], [], M)) rfl rfl rfl (fun c_86 => ?_) (fun c_86 => ?_)
        · have c_86 : (nI (p + 14 + by4 f (p + 10) + 2 + 8 * (by2 f (p + 14 + by4 f (p + 10))) + 2)) ≤ (nI e) := of_decide_eq_true c_86
          have n_86 : p + 14 + by4 f (p + 10) + 2 + 8 * (by2 f (p + 14 + by4 f (p + 10))) + 2 ≤ e := (le_nI (p := p + 14 + by4 f (p + 10) + 2 + 8 * (by2 f (p + 14 + by4 f (p + 10))) + 2) (n := e) (by omega) (by omega)).mp c_86
          refine ps_st (S' := (94, [(7, .int (nI (p + 14 + by4 f (p + 10) + 2 + 8 * (by2 f (p + 14 + by4 f (p + 10)))))), (9, .int (nI (p + 14 + by4 f (p + 10) + 2))), (8, .int (nI (by2 f (p + 14 + by4 f (p + 10))))), (5, .long (nL (by4 f (p + 10)))), (0, .ref m0), (1, .int t), (2, .int (nI (p + 6))), (3, .int (nI e)), (4, .int (nI x))], [.int (nI (p + 14 + by4 f (p + 10) + 2 + 8 * (by2 f (p + 14 + by4 f (p + 10)))))], M)) rfl rfl rfl ?_
          refine ps_st (S' := (96, [(10, .int (nI (p + 14 + by4 f (p + 10) + 2 + 8 * (by2 f (p + 14 + by4 f (p + 10)))))), (7, .int (nI (p + 14 + by4 f (p + 10) + 2 + 8 * (by2 f (p + 14 + by4 f (p + 10)))))), (9, .int (nI (p + 14 + by4 f (p + 10) + 2))), (8, .int (nI (by2 f (p + 14 + by4 f (p + 10))))), (5, .long (nL (by4 f (p + 10)))), (0, .ref m0), (1, .int t), (2, .int (nI (p + 6))), (3, .int (nI e)), (4, .int (nI x))], [], M)) rfl rfl rfl ?_
          refine ps_st (S' := (97, [(10, .int (nI (p + 14 + by4 f (p + 10) + 2 + 8 * (by2 f (p + 14 + by4 f (p + 10)))))), (7, .int (nI (p + 14 + by4 f (p + 10) + 2 + 8 * (by2 f (p + 14 + by4 f (p + 10)))))), (9, .int (nI (p + 14 + by4 f (p + 10) + 2))), (8, .int (nI (by2 f (p + 14 + by4 f (p + 10))))), (5, .long (nL (by4 f (p + 10)))), (0, .ref m0), (1, .int t), (2, .int (nI (p + 6))), (3, .int (nI e)), (4, .int (nI x))], [.ref m0], M)) rfl rfl rfl ?_
          refine ps_st (S' := (99, [(10, .int (nI (p + 14 + by4 f (p + 10) + 2 + 8 * (by2 f (p + 14 + by4 f (p + 10)))))), (7, .int (nI (p + 14 + by4 f (p + 10) + 2 + 8 * (by2 f (p + 14 + by4 f (p + 10)))))), (9, .int (nI (p + 14 + by4 f (p + 10) + 2))), (8, .int (nI (by2 f (p + 14 + by4 f (p + 10))))), (5, .long (nL (by4 f (p + 10)))), (0, .ref m0), (1, .int t), (2, .int (nI (p + 6))), (3, .int (nI e)), (4, .int (nI x))], [.int (nI (p + 14 + by4 f (p + 10) + 2 + 8 * (by2 f (p + 14 + by4 f (p + 10))))), .ref m0], M)) rfl rfl rfl ?_
          refine pl_call (a := [.ref m0, .int (nI (p + 14 + by4 f (p + 10) + 2 + 8 * (by2 f (p + 14 + by4 f (p + 10)))))]) (rest := []) rfl rfl rfl (rd_u2 (n := n) (f := f) (p := (p + 14 + by4 f (p + 10) + 2 + 8 * (by2 f (p + 14 + by4 f (p + 10))))) hR hF (by omega)) (fun v140 M141 q142 => ?_)
          obtain ⟨rfl, rfl⟩ := q142
          show pl _ _ _ (102, [(10, .int (nI (p + 14 + by4 f (p + 10) + 2 + 8 * (by2 f (p + 14 + by4 f (p + 10)))))), (7, .int (nI (p + 14 + by4 f (p + 10) + 2 + 8 * (by2 f (p + 14 + by4 f (p + 10)))))), (9, .int (nI (p + 14 + by4 f (p + 10) + 2))), (8, .int (nI (by2 f (p + 14 + by4 f (p + 10))))), (5, .long (nL (by4 f (p + 10)))), (0, .ref m0), (1, .int t), (2, .int (nI (p + 6))), (3, .int (nI e)), (4, .int (nI x))], [.int (nI (by2 f (p + 14 + by4 f (p + 10) + 2 + 8 * (by2 f (p + 14 + by4 f (p + 10))))))], M) _
          have hu_99 := by2_lt f (p + 14 + by4 f (p + 10) + 2 + 8 * (by2 f (p + 14 + by4 f (p + 10))))
          refine ps_st (S' := (104, [(11, .int (nI (by2 f (p + 14 + by4 f (p + 10) + 2 + 8 * (by2 f (p + 14 + by4 f (p + 10))))))), (10, .int (nI (p + 14 + by4 f (p + 10) + 2 + 8 * (by2 f (p + 14 + by4 f (p + 10)))))), (7, .int (nI (p + 14 + by4 f (p + 10) + 2 + 8 * (by2 f (p + 14 + by4 f (p + 10)))))), (9, .int (nI (p + 14 + by4 f (p + 10) + 2))), (8, .int (nI (by2 f (p + 14 + by4 f (p + 10))))), (5, .long (nL (by4 f (p + 10)))), (0, .ref m0), (1, .int t), (2, .int (nI (p + 6))), (3, .int (nI e)), (4, .int (nI x))], [], M)) rfl rfl rfl ?_
          refine ps_st (S' := (107, [(7, .int ((nI (p + 14 + by4 f (p + 10) + 2 + 8 * (by2 f (p + 14 + by4 f (p + 10))))) + 2)), (11, .int (nI (by2 f (p + 14 + by4 f (p + 10) + 2 + 8 * (by2 f (p + 14 + by4 f (p + 10))))))), (10, .int (nI (p + 14 + by4 f (p + 10) + 2 + 8 * (by2 f (p + 14 + by4 f (p + 10)))))), (9, .int (nI (p + 14 + by4 f (p + 10) + 2))), (8, .int (nI (by2 f (p + 14 + by4 f (p + 10))))), (5, .long (nL (by4 f (p + 10)))), (0, .ref m0), (1, .int t), (2, .int (nI (p + 6))), (3, .int (nI e)), (4, .int (nI x))], [], M)) rfl rfl rfl ?_
          rw [nI_add1 (p := p + 14 + by4 f (p + 10) + 2 + 8 * (by2 f (p + 14 + by4 f (p + 10)))) (k := 2) (x := 2) rfl (by omega)]
          show pl _ _ _ (_, [(7, .int (nI (p + 14 + by4 f (p + 10) + 2 + 8 * (by2 f (p + 14 + by4 f (p + 10))) + 2))), (11, .int (nI (by2 f (p + 14 + by4 f (p + 10) + 2 + 8 * (by2 f (p + 14 + by4 f (p + 10))))))), (10, .int (nI (p + 14 + by4 f (p + 10) + 2 + 8 * (by2 f (p + 14 + by4 f (p + 10)))))), (9, .int (nI (p + 14 + by4 f (p + 10) + 2))), (8, .int (nI (by2 f (p + 14 + by4 f (p + 10))))), (5, .long (nL (by4 f (p + 10)))), (0, .ref m0), (1, .int t), (2, .int (nI (p + 6))), (3, .int (nI e)), (4, .int (nI x))], [], M) _
          refine ps_st (S' := (108, [(7, .int (nI (p + 14 + by4 f (p + 10) + 2 + 8 * (by2 f (p + 14 + by4 f (p + 10))) + 2))), (11, .int (nI (by2 f (p + 14 + by4 f (p + 10) + 2 + 8 * (by2 f (p + 14 + by4 f (p + 10))))))), (10, .int (nI (p + 14 + by4 f (p + 10) + 2 + 8 * (by2 f (p + 14 + by4 f (p + 10)))))), (9, .int (nI (p + 14 + by4 f (p + 10) + 2))), (8, .int (nI (by2 f (p + 14 + by4 f (p + 10))))), (5, .long (nL (by4 f (p + 10)))), (0, .ref m0), (1, .int t), (2, .int (nI (p + 6))), (3, .int (nI e)), (4, .int (nI x))], [.int 0], M)) rfl rfl rfl ?_
          refine ps_st (S' := (110, [(0, .ref m0), (2, .int (nI (p + 6))), (3, .int (nI e)), (4, .int (nI x)), (5, .long (nL (by4 f (p + 10)))), (7, .int (nI (p + 14 + by4 f (p + 10) + 2 + 8 * (by2 f (p + 14 + by4 f (p + 10))) + 2))), (8, .int (nI (by2 f (p + 14 + by4 f (p + 10))))), (9, .int (nI (p + 14 + by4 f (p + 10) + 2))), (10, .int (nI (p + 14 + by4 f (p + 10) + 2 + 8 * (by2 f (p + 14 + by4 f (p + 10)))))), (11, .int (nI (by2 f (p + 14 + by4 f (p + 10) + 2 + 8 * (by2 f (p + 14 + by4 f (p + 10))))))), (12, .int 0)], [], M)) rfl rfl rfl ?_
          exact (LL kf).1 (0) (p + 14 + by4 f (p + 10) + 2 + 8 * by2 f (p + 14 + by4 f (p + 10)) + 2) M I R hR hEI hER hi51 hi52 hi53 hF hY hP hK (⟨hfl, hds⟩) (by omega) (by omega) (by omega) (rfl)
        · have c_86 : ¬ ((nI (p + 14 + by4 f (p + 10) + 2 + 8 * (by2 f (p + 14 + by4 f (p + 10))) + 2)) ≤ (nI e)) := of_decide_eq_false c_86
          have n_86 : ¬ (p + 14 + by4 f (p + 10) + 2 + 8 * (by2 f (p + 14 + by4 f (p + 10))) + 2 ≤ e) := fun h9 => c_86 ((le_nI (p := p + 14 + by4 f (p + 10) + 2 + 8 * (by2 f (p + 14 + by4 f (p + 10))) + 2) (n := e) (by omega) (by omega)).mpr h9)
          refine ps_st (S' := (91, [(7, .int (nI (p + 14 + by4 f (p + 10) + 2 + 8 * (by2 f (p + 14 + by4 f (p + 10)))))), (9, .int (nI (p + 14 + by4 f (p + 10) + 2))), (8, .int (nI (by2 f (p + 14 + by4 f (p + 10))))), (5, .long (nL (by4 f (p + 10)))), (0, .ref m0), (1, .int t), (2, .int (nI (p + 6))), (3, .int (nI e)), (4, .int (nI x))], [.int 30], M)) rfl rfl rfl ?_
          exact ps_ret rfl rfl (Or.inl ⟨I, R, by
              rw [cdE_of]
              rw [if_neg (by omega), if_neg (by omega), if_pos (by omega)]
              exact (fun h9 => (by cases h9)), rfl, hR, hEI, hER⟩)
      · have c_51 : ¬ ((nI (p + 14 + by4 f (p + 10) + 2)) ≤ (nI e)) := of_decide_eq_false c_51
        have n_51 : ¬ (p + 14 + by4 f (p + 10) + 2 ≤ e) := fun h9 => c_51 ((le_nI (p := p + 14 + by4 f (p + 10) + 2) (n := e) (by omega) (by omega)).mpr h9)
        refine ps_st (S' := (56, [(7, .int (nI (p + 14 + by4 f (p + 10)))), (5, .long (nL (by4 f (p + 10)))), (0, .ref m0), (1, .int t), (2, .int (nI (p + 6))), (3, .int (nI e)), (4, .int (nI x))], [.int 30], M)) rfl rfl rfl ?_
        exact ps_ret rfl rfl (Or.inl ⟨I, R, by
            rw [cdE_of]
            rw [if_neg (by omega), if_neg (by omega), if_pos (by omega)]
            exact (fun h9 => (by cases h9)), rfl, hR, hEI, hER⟩)
    · have n_30 : ¬ (by4 f (p + 10) ≤ (e - (p + 6)) - 8) := fun h9 => of_decide_eq_false c_30 ((cL_le (p := by4 f (p + 10)) (k := (e - (p + 6)) - 8) (x := (nL (by4 f (p + 10)))) (y := (nL ((e - (p + 6)) - 8))) rfl rfl (by omega) (by omega)).mpr h9)
      refine ps_st (S' := (35, [(5, .long (nL (by4 f (p + 10)))), (0, .ref m0), (1, .int t), (2, .int (nI (p + 6))), (3, .int (nI e)), (4, .int (nI x))], [.int 30], M)) rfl rfl rfl ?_
      exact ps_ret rfl rfl (Or.inl ⟨I, R, by
          rw [cdE_of]
          rw [if_neg (by omega), if_pos (by omega)]
          exact (fun h9 => (by cases h9)), rfl, hR, hEI, hER⟩)
  · have c_5 : ¬ (8 ≤ ((nI e) - (nI (p + 6)))) := of_decide_eq_false c_5
    have n_5 : ¬ (8 + (p + 6) ≤ e) := fun h8 => c_5 ((le_sub1 (e := e) (p := p + 6) (k := 8) (by omega) (by omega) (by omega)).mpr h8)
    refine ps_st (S' := (10, [(0, .ref m0), (1, .int t), (2, .int (nI (p + 6))), (3, .int (nI e)), (4, .int (nI x))], [.int 30], M)) rfl rfl rfl ?_
    exact ps_ret rfl rfl (Or.inl ⟨I, R, by
        rw [cdE_of]
        rw [if_pos (by omega)]
        exact (fun h9 => (by cases h9)), rfl, hR, hEI, hER⟩)
end
section
/-! attributes one by one, as the reference checks them (laid by wip/p4/e13.py) -/

theorem fe_c {f : Nat → Int32} {k p e : Nat} (hk : k = 3 ∨ k = 8 ∨ k = 10) (h : p + 2 ≤ e) : s_fe f k p e = some (p + 2 + 2 * by2 f p) := by
  unfold s_fe
  rw [if_neg (by omega), if_neg (by omega), if_pos hk]
theorem fe_5 {f : Nat → Int32} {p e : Nat} (h : p + 2 ≤ e) : s_fe f 5 p e = some (p + 2 + 8 * by2 f p) := by
  unfold s_fe
  rw [if_neg (by omega), if_neg (by decide), if_neg (by decide), if_pos rfl]
theorem fe_1 {f : Nat → Int32} {k p e : Nat} (hk : k = 1 ∨ k = 7) (h : p + 2 ≤ e) : s_fe f k p e = some (p + 2) := by
  unfold s_fe
  rw [if_neg (by omega), if_pos hk]
theorem fe_cd {f : Nat → Int32} {p e : Nat} : s_fe f 2 p e = s_cdE f e p := by
  by_cases h : e < p + 2
  · unfold s_fe s_cdE
    rw [if_pos h, if_pos (by omega)]
  · unfold s_fe
    rw [if_neg h, if_neg (by decide), if_neg (by decide), if_neg (by decide), if_neg (by decide), if_neg (by decide)]
theorem nI_m1 {k : Nat} (h : k < 65536) : ¬ nI k = -1 := fun h9 => by
  have h1 : nI 0 ≤ nI k := (le_nI (p := 0) (n := k) (by decide) (by omega)).mpr (Nat.zero_le _)
  rw [h9] at h1
  exact absurd h1 (by decide)
theorem ct_in {l : List Nat} (h : ¬ fldN l = 0) : 0 < l.length ∧ (l.getD 0 0 = 91 → 1 < l.length) ∧ (l.getD 0 0 = 76 → 1 < l.length) ∧ (¬ l.getD 0 0 = 91 → ¬ l.getD 0 0 = 76 → l.length = 1) := by
  have h1 : s_ty (fun i => l.getD i 0) l.length 0 = some l.length := by
    rw [fld_eq] at h
    by_cases h2 : s_ty (fun i => l.getD i 0) l.length 0 = some l.length
    · exact h2
    · rw [if_neg h2] at h
      exact absurd rfl h
  have h0 := (s_ty_le h1).1
  have hb := br_st (c := fun i => l.getD i 0) (n := l.length) (k := 0) h0
  have hb2 := s_br_le (c := fun i => l.getD i 0) (r := l.length - (0 + 1)) (i := 0 + 1)
  have hb3 : (l.getD 0 0 = 91 → 1 ≤ s_br (fun i => l.getD i 0) (l.length - 0) 0) ∧ (¬ l.getD 0 0 = 91 → s_br (fun i => l.getD i 0) (l.length - 0) 0 = 0) := by
    rw [hb]
    refine ⟨fun h9 => ?_, fun h9 => ?_⟩
    · rw [if_pos h9]
      exact hb2.1
    · rw [if_neg h9]
  clear hb hb2
  unfold s_ty at h1
  generalize s_br (fun i => l.getD i 0) (l.length - 0) 0 = b at h1 hb3
  split at h1
  · cases h1
  · split at h1
    · have h4 := Option.some.inj h1
      refine ⟨h0, fun h9 => ?_, fun h9 => ?_, fun h9 _ => ?_⟩
      · have := hb3.1 h9
        omega
      · rename_i h7
        have h8 := hb3.2 (by omega)
        rw [h8] at h7
        have h7' : l.getD 0 0 = 66 ∨ l.getD 0 0 = 67 ∨ l.getD 0 0 = 68 ∨ l.getD 0 0 = 70 ∨ l.getD 0 0 = 73 ∨ l.getD 0 0 = 74 ∨ l.getD 0 0 = 83 ∨ l.getD 0 0 = 90 := h7
        omega
      · have := hb3.2 h9
        omega
    · split at h1
      · split at h1
        · cases h1
        · rename_i x hx
          split at h1
          · have h4 := Option.some.inj h1
            have h5 := s_nm_le hx
            refine ⟨h0, fun h9 => by omega, fun h9 => by omega, fun h9 h8 => ?_⟩
            exfalso
            have h7 : (fun i => l.getD i 0) b = 76 := by assumption
            rw [hb3.2 h9] at h7
            exact h8 h7
          · cases h1
      · cases h1
theorem lt_28 : ltx 28 = ltx 9 := by decide +kernel
theorem ct_str {l : List Nat} (h : ¬ l.getD 0 0 = 76) : eqN l (ltx 9) = 0 := by
  unfold eqN
  refine if_neg (fun h9 => h ?_)
  rw [h9]
  decide +kernel
theorem ct_ne {l : List Nat} (h : ¬ fldN l = 0) (h1 : ¬ l.getD 0 0 = 76) (h2 : ¬ l.getD 0 0 = 91) : ctS l = some (if l.getD 0 0 = 70 then 4 else if l.getD 0 0 = 74 then 5 else if l.getD 0 0 = 68 then 6 else 3) := by
  have h3 := (ct_in h).2.2.2 h2 h1
  unfold ctS
  rw [if_neg (by rw [ct_str h1]; exact fun h9 => h9 rfl), if_neg (by omega)]
  split
  · rfl
  · split
    · rfl
    · split <;> rfl
theorem ct_91 {l : List Nat} (h : ¬ fldN l = 0) (h1 : l.getD 0 0 = 91) : ctS l = none := by
  have h3 := (ct_in h).2.1 h1
  unfold ctS
  rw [if_neg (by rw [ct_str (by omega)]; exact fun h9 => h9 rfl), if_pos (by omega)]
theorem ct_76 {l : List Nat} (h : ¬ fldN l = 0) (h1 : l.getD 0 0 = 76) : ctS l = if eqN l (ltx 9) = 0 then none else some 8 := by
  have h3 := (ct_in h).2.2.1 h1
  unfold ctS
  by_cases h4 : eqN l (ltx 9) = 0
  · rw [if_neg (by omega), if_pos (by omega), if_pos h4]
  · rw [if_pos h4, if_neg h4]
set_option maxHeartbeats 4000000 in
theorem rd_attr2 {g : xe_G} {m0 : Nat} {q : Nat → Nat} {z : Nat × Nat} {I : rI} {R : rR} {M : mi_H} {n : Nat} {f : Nat → Int32} {tx : List (List Nat)} {cN : Nat} {A : Nat → Nat} {N mj : Nat} {E : List (Nat × Nat)} {p0 e x s3 : Nat} {t : Int32} (hR : RS g m0 q z I R M) (hi51 : I 51 = some 0) (hi52 : I 52 = some (nI N)) (hi53 : I 53 = some (nI mj)) (hF : FK n f I R) (hY : SYT tx cN A I R) (hP : RPV f n E tx N I R) (hEP : EP f n E) (hN : N < 65536) (hmj : mj < 65536) (he : p0 ≤ e ∧ e ≤ n) (hs3 : s3 < 2048) (hx : x < 8300) : pt (mT g) 177 [.ref m0, .int 2, .int t, .int (nI p0), .int (nI e), .int (nI x), .int (nI s3)] M (fun v M' => (∃  (I' : rI) (R' : rR), (¬ s_fe f 3 p0 e = some e) ∧ v = some (.int 30) ∧ RS g m0 q z I' R' M' ∧ eqI [] I I' ∧ eqR [44] R R') ∨ (∃  (I' : rI) (R' : rR), (s_fe f 3 p0 e = some e) ∧ (clA f E (p0 + 2) (by2 f p0) 0 = 0) ∧ v = some (.int 32) ∧ RS g m0 q z I' R' M' ∧ eqI [] I I' ∧ eqR [44] R R') ∨ (∃  (I' : rI) (R' : rR), (s_fe f 3 p0 e = some e) ∧ (¬ clA f E (p0 + 2) (by2 f p0) 0 = 0) ∧ v = some (.int 0) ∧ RS g m0 q z I' R' M' ∧ eqI [] I I' ∧ eqR [44] R R')) := by
  refine pt_in (b := mb_177 g) rfl (fun kf => ?_)
  show pl (mT g) kf (mb_177 g).2 (0, [(0, .ref m0), (1, .int 2), (2, .int t), (3, .int (nI p0)), (4, .int (nI e)), (5, .int (nI x)), (6, .int (nI s3))], [], M) _
  have hEI : eqI [] I I := eqI.rf
  have hER : eqR [44] R R := eqR.rf
  have hn := hF.1
  have LL : ∀ (kf : Nat), (∀ (i : Nat) (M1 : mi_H) (I1 : rI) (R1 : rR), (RS g m0 q z I1 R1 M1) → (eqI [] I I1) → (eqR [44] R R1) → (I1 51 = some 0) → (I1 52 = some (nI N)) → (I1 53 = some (nI mj)) → (FK n f I1 R1) → (SYT tx cN A I1 R1) → (RPV f n E tx N I1 R1) → (s_fe f 3 p0 e = some e) → (i ≤ by2 f p0) → (p0 + 2 + 2 * by2 f p0 = e) → (clA f E (p0 + 2) (by2 f p0 - i) i = clA f E (p0 + 2) (by2 f p0) 0) →  pl (mT g) kf (mb_177 g).2 (268, [(0, .ref m0), (1, .int 2), (3, .int (nI p0)), (5, .int (nI x)), (6, .int (nI s3)), (9, .int (nI i))], [], M1) (fun v M' => (∃  (I' : rI) (R' : rR), (¬ s_fe f 3 p0 e = some e) ∧ v = some (.int 30) ∧ RS g m0 q z I' R' M' ∧ eqI [] I I' ∧ eqR [44] R R') ∨ (∃  (I' : rI) (R' : rR), (s_fe f 3 p0 e = some e) ∧ (clA f E (p0 + 2) (by2 f p0) 0 = 0) ∧ v = some (.int 32) ∧ RS g m0 q z I' R' M' ∧ eqI [] I I' ∧ eqR [44] R R') ∨ (∃  (I' : rI) (R' : rR), (s_fe f 3 p0 e = some e) ∧ (¬ clA f E (p0 + 2) (by2 f p0) 0 = 0) ∧ v = some (.int 0) ∧ RS g m0 q z I' R' M' ∧ eqI [] I I' ∧ eqR [44] R R'))) := by
    intro kf
    induction kf with
    | zero => exact (by intros; exact pl_0)
    | succ kf ih =>
      intro i M1 I1 R1 hR1 hEI1 hER1 hl51 hl52 hl53 hF1 hY1 hP1 hfe hi hle hs
      have hn := hF1.1
      have hu9 := by2_lt f p0
      have hs6 := sb_lt s3 6
      have hs7 := sb_lt s3 7
      refine ps_st1 (S' := (270, [(0, .ref m0), (1, .int 2), (3, .int (nI p0)), (5, .int (nI x)), (6, .int (nI s3)), (9, .int (nI i))], [.int (nI i)], M1)) rfl rfl rfl ?_
      refine ps_st (S' := (271, [(0, .ref m0), (1, .int 2), (3, .int (nI p0)), (5, .int (nI x)), (6, .int (nI s3)), (9, .int (nI i))], [.ref m0, .int (nI i)], M1)) rfl rfl rfl ?_
      refine ps_st (S' := (272, [(0, .ref m0), (1, .int 2), (3, .int (nI p0)), (5, .int (nI x)), (6, .int (nI s3)), (9, .int (nI i))], [.int (nI p0), .ref m0, .int (nI i)], M1)) rfl rfl rfl ?_
      refine pl_call (a := [.ref m0, .int (nI p0)]) (rest := [.int (nI i)]) rfl rfl rfl (rd_u2 (n := n) (f := f) (p := p0) hR1 hF1 (by omega)) (fun v1 M2 q3 => ?_)
      obtain ⟨rfl, rfl⟩ := q3
      show pl _ _ _ (275, [(0, .ref m0), (1, .int 2), (3, .int (nI p0)), (5, .int (nI x)), (6, .int (nI s3)), (9, .int (nI i))], [.int (nI (by2 f p0)), .int (nI i)], M1) _
      have hu_272 := by2_lt f p0
      refine ps_if2 (S1 := (329, [(0, .ref m0), (1, .int 2), (3, .int (nI p0)), (5, .int (nI x)), (6, .int (nI s3)), (9, .int (nI i))], [], M1)) (S2 := (278, [(0, .ref m0), (1, .int 2), (3, .int (nI p0)), (5, .int (nI x)), (6, .int (nI s3)), (9, .int (nI i))], [], M1)) rfl rfl rfl (fun c_275 => ?_) (fun c_275 => ?_)
      · have c_275 : (nI (by2 f p0)) ≤ (nI i) := of_decide_eq_true c_275
        have n_275 : by2 f p0 ≤ i := (le_nI (p := by2 f p0) (n := i) (Nat.lt_trans (by2_lt _ _) (by decide)) (by omega)).mp c_275
        refine ps_st (S' := (330, [(0, .ref m0), (1, .int 2), (3, .int (nI p0)), (5, .int (nI x)), (6, .int (nI s3)), (9, .int (nI i))], [.int 2], M1)) rfl rfl rfl ?_
        refine ps_st (S' := (332, [(0, .ref m0), (1, .int 2), (3, .int (nI p0)), (5, .int (nI x)), (6, .int (nI s3)), (9, .int (nI i))], [.int 7, .int 2], M1)) rfl rfl rfl ?_
        refine ps_if2 (S1 := (349, [(0, .ref m0), (1, .int 2), (3, .int (nI p0)), (5, .int (nI x))], [], M1)) (S2 := (335, [(0, .ref m0), (1, .int 2), (3, .int (nI p0)), (5, .int (nI x)), (6, .int (nI s3)), (9, .int (nI i))], [], M1)) rfl rfl rfl (fun c_332 => ?_) (fun c_332 => ?_)
        rotate_left
        · exact absurd (by decide) (of_decide_eq_false c_332)
        refine ps_st (S' := (350, [(0, .ref m0), (1, .int 2), (3, .int (nI p0)), (5, .int (nI x))], [.int 2], M1)) rfl rfl rfl ?_
        refine ps_st (S' := (351, [(0, .ref m0), (1, .int 2), (3, .int (nI p0)), (5, .int (nI x))], [.int 2, .int 2], M1)) rfl rfl rfl ?_
        refine ps_if2 (S1 := (366, [(0, .ref m0), (1, .int 2), (3, .int (nI p0))], [], M1)) (S2 := (354, [(0, .ref m0), (1, .int 2), (3, .int (nI p0)), (5, .int (nI x))], [], M1)) rfl rfl rfl (fun c_351 => ?_) (fun c_351 => ?_)
        · exact absurd (of_decide_eq_true c_351) (by decide)
        refine ps_st (S' := (355, [(0, .ref m0), (1, .int 2), (3, .int (nI p0)), (5, .int (nI x))], [.ref m0], M1)) rfl rfl rfl ?_
        refine pr_ref (j := 44) (S' := (358, [(0, .ref m0), (1, .int 2), (3, .int (nI p0)), (5, .int (nI x))], [.ref (q 44)], M1)) rfl hR1 rfl rfl ?_
        refine ps_st (S' := (360, [(0, .ref m0), (1, .int 2), (3, .int (nI p0)), (5, .int (nI x))], [.int (nI x), .ref (q 44)], M1)) rfl rfl rfl ?_
        refine ps_st (S' := (361, [(0, .ref m0), (1, .int 2), (3, .int (nI p0)), (5, .int (nI x))], [.ref m0, .int (nI x), .ref (q 44)], M1)) rfl rfl rfl ?_
        refine ps_st (S' := (362, [(0, .ref m0), (1, .int 2), (3, .int (nI p0)), (5, .int (nI x))], [.int (nI p0), .ref m0, .int (nI x), .ref (q 44)], M1)) rfl rfl rfl ?_
        refine pl_call (a := [.ref m0, .int (nI p0)]) (rest := [.int (nI x), .ref (q 44)]) rfl rfl rfl (rd_u2 (n := n) (f := f) (p := p0) hR1 hF1 (by omega)) (fun v4 M5 q6 => ?_)
        obtain ⟨rfl, rfl⟩ := q6
        show pl _ _ _ (365, [(0, .ref m0), (1, .int 2), (3, .int (nI p0)), (5, .int (nI x))], [.int (nI (by2 f p0)), .int (nI x), .ref (q 44)], M1) _
        have hu_362 := by2_lt f p0
        refine pr_st (a := 44) (j := x) rfl hR1 rfl (by omega) (fun M7 R8 i1_365 hR9 hS10 => ?_)
        have hF_11 := hF1.mono (fun _ _ => rfl) (rRx hS10 (by decide))
        have hY_12 := hY1.mono (fun _ _ => rfl) (rRx hS10 (by decide))
        have hP_13 := hP1.mono (fun _ _ => rfl) (rRx hS10 (by decide))
        have hER14 := hER1.st hS10 (by decide)
        show pl _ _ _ (366, [(0, .ref m0), (1, .int 2), (3, .int (nI p0))], [], M7) _
        refine ps_st (S' := (367, [(0, .ref m0), (1, .int 2), (3, .int (nI p0))], [.int 2], M7)) rfl rfl rfl ?_
        refine ps_st (S' := (369, [(0, .ref m0), (1, .int 2), (3, .int (nI p0))], [.int 7, .int 2], M7)) rfl rfl rfl ?_
        refine ps_if2 (S1 := (381, [(0, .ref m0), (1, .int 2), (3, .int (nI p0))], [], M7)) (S2 := (372, [(0, .ref m0), (1, .int 2), (3, .int (nI p0))], [], M7)) rfl rfl rfl (fun c_369 => ?_) (fun c_369 => ?_)
        rotate_left
        · exact absurd (by decide) (of_decide_eq_false c_369)
        refine ps_st (S' := (382, [(0, .ref m0), (1, .int 2), (3, .int (nI p0))], [.int 2], M7)) rfl rfl rfl ?_
        refine ps_st (S' := (384, [(0, .ref m0), (1, .int 2), (3, .int (nI p0))], [.int 9, .int 2], M7)) rfl rfl rfl ?_
        refine ps_if2 (S1 := (396, [], [], M7)) (S2 := (387, [(0, .ref m0), (1, .int 2), (3, .int (nI p0))], [], M7)) rfl rfl rfl (fun c_384 => ?_) (fun c_384 => ?_)
        rotate_left
        · exact absurd (by decide) (of_decide_eq_false c_384)
        refine ps_st (S' := (397, [], [.int 0], M7)) rfl rfl rfl ?_
        exact ps_ret rfl rfl (Or.inr (Or.inr ⟨I1, R8, hfe, by rw [← hs, show by2 f p0 - i = 0 by omega]; exact Nat.one_ne_zero, rfl, hR9, hEI1, hER14⟩))
      · have c_275 : ¬ ((nI (by2 f p0)) ≤ (nI i)) := of_decide_eq_false c_275
        have n_275 : ¬ (by2 f p0 ≤ i) := fun h9 => c_275 ((le_nI (p := by2 f p0) (n := i) (Nat.lt_trans (by2_lt _ _) (by decide)) (by omega)).mpr h9)
        refine ps_st (S' := (279, [(0, .ref m0), (1, .int 2), (3, .int (nI p0)), (5, .int (nI x)), (6, .int (nI s3)), (9, .int (nI i))], [.ref m0], M1)) rfl rfl rfl ?_
        refine ps_st (S' := (280, [(0, .ref m0), (1, .int 2), (3, .int (nI p0)), (5, .int (nI x)), (6, .int (nI s3)), (9, .int (nI i))], [.ref m0, .ref m0], M1)) rfl rfl rfl ?_
        refine ps_st (S' := (281, [(0, .ref m0), (1, .int 2), (3, .int (nI p0)), (5, .int (nI x)), (6, .int (nI s3)), (9, .int (nI i))], [.int (nI p0), .ref m0, .ref m0], M1)) rfl rfl rfl ?_
        refine ps_st (S' := (282, [(0, .ref m0), (1, .int 2), (3, .int (nI p0)), (5, .int (nI x)), (6, .int (nI s3)), (9, .int (nI i))], [.int 2, .int (nI p0), .ref m0, .ref m0], M1)) rfl rfl rfl ?_
        refine ps_st (S' := (283, [(0, .ref m0), (1, .int 2), (3, .int (nI p0)), (5, .int (nI x)), (6, .int (nI s3)), (9, .int (nI i))], [.int ((nI p0) + 2), .ref m0, .ref m0], M1)) rfl rfl rfl ?_
        rw [nI_add1 (p := p0) (k := 2) (x := 2) rfl (by omega)]
        show pl _ _ _ (_, [(0, .ref m0), (1, .int 2), (3, .int (nI p0)), (5, .int (nI x)), (6, .int (nI s3)), (9, .int (nI i))], [.int (nI (p0 + 2)), .ref m0, .ref m0], M1) _
        refine ps_st (S' := (284, [(0, .ref m0), (1, .int 2), (3, .int (nI p0)), (5, .int (nI x)), (6, .int (nI s3)), (9, .int (nI i))], [.int 2, .int (nI (p0 + 2)), .ref m0, .ref m0], M1)) rfl rfl rfl ?_
        refine ps_st (S' := (286, [(0, .ref m0), (1, .int 2), (3, .int (nI p0)), (5, .int (nI x)), (6, .int (nI s3)), (9, .int (nI i))], [.int (nI i), .int 2, .int (nI (p0 + 2)), .ref m0, .ref m0], M1)) rfl rfl rfl ?_
        refine ps_st (S' := (287, [(0, .ref m0), (1, .int 2), (3, .int (nI p0)), (5, .int (nI x)), (6, .int (nI s3)), (9, .int (nI i))], [.int (2 * (nI i)), .int (nI (p0 + 2)), .ref m0, .ref m0], M1)) rfl rfl rfl ?_
        rw [nI_mul1 (p := 2) (k := i) (x := 2) (y := (nI i)) rfl rfl (by omega)]
        show pl _ _ _ (_, [(0, .ref m0), (1, .int 2), (3, .int (nI p0)), (5, .int (nI x)), (6, .int (nI s3)), (9, .int (nI i))], [.int (nI (2 * i)), .int (nI (p0 + 2)), .ref m0, .ref m0], M1) _
        refine ps_st (S' := (288, [(0, .ref m0), (1, .int 2), (3, .int (nI p0)), (5, .int (nI x)), (6, .int (nI s3)), (9, .int (nI i))], [.int ((nI (p0 + 2)) + (nI (2 * i))), .ref m0, .ref m0], M1)) rfl rfl rfl ?_
        rw [nI_add1 (p := p0 + 2) (k := 2 * i) (x := (nI (2 * i))) rfl (by omega)]
        show pl _ _ _ (_, [(0, .ref m0), (1, .int 2), (3, .int (nI p0)), (5, .int (nI x)), (6, .int (nI s3)), (9, .int (nI i))], [.int (nI (p0 + 2 + 2 * i)), .ref m0, .ref m0], M1) _
        refine pl_call (a := [.ref m0, .int (nI (p0 + 2 + 2 * i))]) (rest := [.ref m0]) rfl rfl rfl (rd_u2 (n := n) (f := f) (p := (p0 + 2 + 2 * i)) hR1 hF1 (by omega)) (fun v15 M16 q17 => ?_)
        obtain ⟨rfl, rfl⟩ := q17
        show pl _ _ _ (291, [(0, .ref m0), (1, .int 2), (3, .int (nI p0)), (5, .int (nI x)), (6, .int (nI s3)), (9, .int (nI i))], [.int (nI (by2 f (p0 + 2 + 2 * i))), .ref m0], M1) _
        have hu_288 := by2_lt f (p0 + 2 + 2 * i)
        refine pl_call (a := [.ref m0, .int (nI (by2 f (p0 + 2 + 2 * i)))]) (rest := []) rfl rfl rfl (rd_tag (n := n) (f := f) (tx := tx) (cN := cN) (A := A) (N := N) (mj := mj) (E := E) (k := (by2 f (p0 + 2 + 2 * i))) hR1 hl51 hl52 hl53 hF1 hY1 hP1 (hEP) (hN) (hmj) (by2_lt _ _)) (fun v18 M19 q20 => ?_)
        obtain ⟨rfl, rfl⟩ := q20
        show pl _ _ _ (294, [(0, .ref m0), (1, .int 2), (3, .int (nI p0)), (5, .int (nI x)), (6, .int (nI s3)), (9, .int (nI i))], [.int (nI (tg f E (by2 f (p0 + 2 + 2 * i))))], M1) _
        have htg_291 := tg_lt f E (by2 f (p0 + 2 + 2 * i))
        refine ps_st (S' := (296, [(0, .ref m0), (1, .int 2), (3, .int (nI p0)), (5, .int (nI x)), (6, .int (nI s3)), (9, .int (nI i))], [.int 7, .int (nI (tg f E (by2 f (p0 + 2 + 2 * i))))], M1)) rfl rfl rfl ?_
        refine ps_if2 (S1 := (323, [(0, .ref m0), (1, .int 2), (3, .int (nI p0)), (5, .int (nI x)), (6, .int (nI s3)), (9, .int (nI i))], [], M1)) (S2 := (299, [(0, .ref m0), (1, .int 2), (3, .int (nI p0)), (5, .int (nI x)), (6, .int (nI s3)), (9, .int (nI i))], [], M1)) rfl rfl rfl (fun c_296 => ?_) (fun c_296 => ?_)
        · have c_296 : (nI (tg f E (by2 f (p0 + 2 + 2 * i)))) = 7 := of_decide_eq_true c_296
          have n_296 : tg f E (by2 f (p0 + 2 + 2 * i)) = 7 := (eq_nI (p := tg f E (by2 f (p0 + 2 + 2 * i))) (n := 7) (Nat.lt_trans (tg_lt _ _ _) (by decide)) (by decide)).mp c_296
          refine ps_st (S' := (326, [(9, .int ((nI i) + 1)), (0, .ref m0), (1, .int 2), (3, .int (nI p0)), (5, .int (nI x)), (6, .int (nI s3))], [], M1)) rfl rfl rfl ?_
          rw [nI_add1 (p := i) (k := 1) (x := 1) rfl (by omega)]
          show pl _ _ _ (_, [(9, .int (nI (i + 1))), (0, .ref m0), (1, .int 2), (3, .int (nI p0)), (5, .int (nI x)), (6, .int (nI s3))], [], M1) _
          refine ps_st (S' := (268, [(0, .ref m0), (1, .int 2), (3, .int (nI p0)), (5, .int (nI x)), (6, .int (nI s3)), (9, .int (nI (i + 1)))], [], M1)) rfl rfl rfl ?_
          exact ih (i + 1) M1 I1 R1 hR1 hEI1 hER1 hl51 hl52 hl53 hF1 hY1 hP1 (hfe) (by omega) (hle) (by
              rw [← hs, clA_st (i := i) (by omega), if_pos (by omega)])
        · have c_296 : ¬ ((nI (tg f E (by2 f (p0 + 2 + 2 * i)))) = 7) := of_decide_eq_false c_296
          have n_296 : ¬ (tg f E (by2 f (p0 + 2 + 2 * i)) = 7) := fun h9 => c_296 ((eq_nI (p := tg f E (by2 f (p0 + 2 + 2 * i))) (n := 7) (Nat.lt_trans (tg_lt _ _ _) (by decide)) (by decide)).mpr h9)
          refine ps_st (S' := (300, [(0, .ref m0), (1, .int 2), (3, .int (nI p0)), (5, .int (nI x)), (6, .int (nI s3)), (9, .int (nI i))], [.int 2], M1)) rfl rfl rfl ?_
          refine ps_st (S' := (301, [(0, .ref m0), (1, .int 2), (3, .int (nI p0)), (5, .int (nI x)), (6, .int (nI s3)), (9, .int (nI i))], [.int 2, .int 2], M1)) rfl rfl rfl ?_
          refine ps_if2 (S1 := (309, [(0, .ref m0), (1, .int 2), (3, .int (nI p0)), (5, .int (nI x)), (6, .int (nI s3)), (9, .int (nI i))], [], M1)) (S2 := (304, [(0, .ref m0), (1, .int 2), (3, .int (nI p0)), (5, .int (nI x)), (6, .int (nI s3)), (9, .int (nI i))], [], M1)) rfl rfl rfl (fun c_301 => ?_) (fun c_301 => ?_)
          · exact absurd (of_decide_eq_true c_301) (by decide)
          refine ps_st (S' := (306, [(0, .ref m0), (1, .int 2), (3, .int (nI p0)), (5, .int (nI x)), (6, .int (nI s3)), (9, .int (nI i))], [.int 32], M1)) rfl rfl rfl ?_
          refine ps_st (S' := (322, [], [.int 32], M1)) rfl rfl rfl ?_
          exact ps_ret rfl rfl (Or.inr (Or.inl ⟨I1, R1, hfe, by rw [← hs, clA_st (i := i) (by omega), if_neg (by omega)], rfl, hR1, hEI1, hER1⟩))
  refine ps_st (S' := (1, [(0, .ref m0), (1, .int 2), (2, .int t), (3, .int (nI p0)), (4, .int (nI e)), (5, .int (nI x)), (6, .int (nI s3))], [.int 2], M)) rfl rfl rfl ?_
  refine ps_st (S' := (219, [(0, .ref m0), (1, .int 2), (2, .int t), (3, .int (nI p0)), (4, .int (nI e)), (5, .int (nI x)), (6, .int (nI s3))], [], M)) rfl rfl rfl ?_
  refine ps_st (S' := (221, [(0, .ref m0), (1, .int 2), (2, .int t), (3, .int (nI p0)), (4, .int (nI e)), (5, .int (nI x)), (6, .int (nI s3))], [.int (nI e)], M)) rfl rfl rfl ?_
  refine ps_st (S' := (222, [(0, .ref m0), (1, .int 2), (2, .int t), (3, .int (nI p0)), (4, .int (nI e)), (5, .int (nI x)), (6, .int (nI s3))], [.int (nI p0), .int (nI e)], M)) rfl rfl rfl ?_
  refine ps_st (S' := (223, [(0, .ref m0), (1, .int 2), (2, .int t), (3, .int (nI p0)), (4, .int (nI e)), (5, .int (nI x)), (6, .int (nI s3))], [.int ((nI e) - (nI p0))], M)) rfl rfl rfl ?_
  rw [nI_sub1 (p := e) (k := p0) (x := (nI p0)) rfl (by omega) (by omega)]
  show pl _ _ _ (_, [(0, .ref m0), (1, .int 2), (2, .int t), (3, .int (nI p0)), (4, .int (nI e)), (5, .int (nI x)), (6, .int (nI s3))], [.int (nI (e - p0))], M) _
  refine ps_st (S' := (224, [(0, .ref m0), (1, .int 2), (2, .int t), (3, .int (nI p0)), (4, .int (nI e)), (5, .int (nI x)), (6, .int (nI s3))], [.int 2, .int (nI (e - p0))], M)) rfl rfl rfl ?_
  refine ps_if2 (S1 := (243, [], [], M)) (S2 := (227, [(0, .ref m0), (1, .int 2), (2, .int t), (3, .int (nI p0)), (4, .int (nI e)), (5, .int (nI x)), (6, .int (nI s3))], [], M)) rfl rfl rfl (fun c_224 => ?_) (fun c_224 => ?_)
  · have c_224 : (nI (e - p0)) < 2 := of_decide_eq_true c_224
    have n_224 : e - p0 < 2 := (lt_nI (p := e - p0) (n := 2) (by omega) (by decide)).mp c_224
    refine ps_st (S' := (245, [], [.int 30], M)) rfl rfl rfl ?_
    exact ps_ret rfl rfl (Or.inl ⟨I, R, fe_2 (by omega), rfl, hR, hEI, hER⟩)
  · have c_224 : ¬ ((nI (e - p0)) < 2) := of_decide_eq_false c_224
    have n_224 : ¬ (e - p0 < 2) := fun h9 => c_224 ((lt_nI (p := e - p0) (n := 2) (by omega) (by decide)).mpr h9)
    refine ps_st (S' := (229, [(0, .ref m0), (1, .int 2), (2, .int t), (3, .int (nI p0)), (4, .int (nI e)), (5, .int (nI x)), (6, .int (nI s3))], [.int (nI e)], M)) rfl rfl rfl ?_
    refine ps_st (S' := (230, [(0, .ref m0), (1, .int 2), (2, .int t), (3, .int (nI p0)), (4, .int (nI e)), (5, .int (nI x)), (6, .int (nI s3))], [.int (nI p0), .int (nI e)], M)) rfl rfl rfl ?_
    refine ps_st (S' := (231, [(0, .ref m0), (1, .int 2), (2, .int t), (3, .int (nI p0)), (4, .int (nI e)), (5, .int (nI x)), (6, .int (nI s3))], [.int ((nI e) - (nI p0))], M)) rfl rfl rfl ?_
    rw [nI_sub1 (p := e) (k := p0) (x := (nI p0)) rfl (by omega) (by omega)]
    show pl _ _ _ (_, [(0, .ref m0), (1, .int 2), (2, .int t), (3, .int (nI p0)), (4, .int (nI e)), (5, .int (nI x)), (6, .int (nI s3))], [.int (nI (e - p0))], M) _
    refine ps_st (S' := (232, [(0, .ref m0), (1, .int 2), (2, .int t), (3, .int (nI p0)), (4, .int (nI e)), (5, .int (nI x)), (6, .int (nI s3))], [.int 2, .int (nI (e - p0))], M)) rfl rfl rfl ?_
    refine ps_st (S' := (233, [(0, .ref m0), (1, .int 2), (2, .int t), (3, .int (nI p0)), (4, .int (nI e)), (5, .int (nI x)), (6, .int (nI s3))], [.int 2, .int 2, .int (nI (e - p0))], M)) rfl rfl rfl ?_
    refine ps_st (S' := (234, [(0, .ref m0), (1, .int 2), (2, .int t), (3, .int (nI p0)), (4, .int (nI e)), (5, .int (nI x)), (6, .int (nI s3))], [.ref m0, .int 2, .int 2, .int (nI (e - p0))], M)) rfl rfl rfl ?_
    refine ps_st (S' := (235, [(0, .ref m0), (1, .int 2), (2, .int t), (3, .int (nI p0)), (4, .int (nI e)), (5, .int (nI x)), (6, .int (nI s3))], [.int (nI p0), .ref m0, .int 2, .int 2, .int (nI (e - p0))], M)) rfl rfl rfl ?_
    refine pl_call (a := [.ref m0, .int (nI p0)]) (rest := [.int 2, .int 2, .int (nI (e - p0))]) rfl rfl rfl (rd_u2 (n := n) (f := f) (p := p0) hR hF (by omega)) (fun v21 M22 q23 => ?_)
    obtain ⟨rfl, rfl⟩ := q23
    show pl _ _ _ (238, [(0, .ref m0), (1, .int 2), (2, .int t), (3, .int (nI p0)), (4, .int (nI e)), (5, .int (nI x)), (6, .int (nI s3))], [.int (nI (by2 f p0)), .int 2, .int 2, .int (nI (e - p0))], M) _
    have hu_235 := by2_lt f p0
    refine ps_st (S' := (239, [(0, .ref m0), (1, .int 2), (2, .int t), (3, .int (nI p0)), (4, .int (nI e)), (5, .int (nI x)), (6, .int (nI s3))], [.int (2 * (nI (by2 f p0))), .int 2, .int (nI (e - p0))], M)) rfl rfl rfl ?_
    rw [nI_mul1 (p := 2) (k := by2 f p0) (x := 2) (y := (nI (by2 f p0))) rfl rfl (by omega)]
    show pl _ _ _ (_, [(0, .ref m0), (1, .int 2), (2, .int t), (3, .int (nI p0)), (4, .int (nI e)), (5, .int (nI x)), (6, .int (nI s3))], [.int (nI (2 * (by2 f p0))), .int 2, .int (nI (e - p0))], M) _
    refine ps_st (S' := (240, [(0, .ref m0), (1, .int 2), (2, .int t), (3, .int (nI p0)), (4, .int (nI e)), (5, .int (nI x)), (6, .int (nI s3))], [.int (2 + (nI (2 * (by2 f p0)))), .int (nI (e - p0))], M)) rfl rfl rfl ?_
    rw [nI_add2 (p := 2) (k := 2 * (by2 f p0)) (x := 2) (y := (nI (2 * (by2 f p0)))) rfl rfl (by omega)]
    show pl _ _ _ (_, [(0, .ref m0), (1, .int 2), (2, .int t), (3, .int (nI p0)), (4, .int (nI e)), (5, .int (nI x)), (6, .int (nI s3))], [.int (nI (2 + 2 * (by2 f p0))), .int (nI (e - p0))], M) _
    refine ps_if2 (S1 := (246, [(0, .ref m0), (1, .int 2), (2, .int t), (3, .int (nI p0)), (4, .int (nI e)), (5, .int (nI x)), (6, .int (nI s3))], [], M)) (S2 := (243, [], [], M)) rfl rfl rfl (fun c_240 => ?_) (fun c_240 => ?_)
    · have c_240 : (nI (e - p0)) = (nI (2 + 2 * (by2 f p0))) := of_decide_eq_true c_240
      have n_240 : e - p0 = 2 + 2 * (by2 f p0) := (eq_nI (p := e - p0) (n := 2 + 2 * (by2 f p0)) (by omega) (by omega)).mp c_240
      refine ps_st (S' := (247, [(0, .ref m0), (1, .int 2), (2, .int t), (3, .int (nI p0)), (4, .int (nI e)), (5, .int (nI x)), (6, .int (nI s3))], [.int 2], M)) rfl rfl rfl ?_
      refine ps_st (S' := (249, [(0, .ref m0), (1, .int 2), (2, .int t), (3, .int (nI p0)), (4, .int (nI e)), (5, .int (nI x)), (6, .int (nI s3))], [.int 9, .int 2], M)) rfl rfl rfl ?_
      refine ps_if2 (S1 := (265, [(0, .ref m0), (1, .int 2), (3, .int (nI p0)), (5, .int (nI x)), (6, .int (nI s3))], [], M)) (S2 := (252, [(0, .ref m0), (1, .int 2), (2, .int t), (3, .int (nI p0)), (4, .int (nI e)), (5, .int (nI x)), (6, .int (nI s3))], [], M)) rfl rfl rfl (fun c_249 => ?_) (fun c_249 => ?_)
      rotate_left
      · exact absurd (by decide) (of_decide_eq_false c_249)
      refine ps_st (S' := (266, [(0, .ref m0), (1, .int 2), (3, .int (nI p0)), (5, .int (nI x)), (6, .int (nI s3))], [.int 0], M)) rfl rfl rfl ?_
      refine ps_st (S' := (268, [(0, .ref m0), (1, .int 2), (3, .int (nI p0)), (5, .int (nI x)), (6, .int (nI s3)), (9, .int 0)], [], M)) rfl rfl rfl ?_
      exact (LL kf) (0) M I R hR hEI hER hi51 hi52 hi53 hF hY hP ((fe_c (by decide) (by omega)).trans (congrArg some (by omega))) (by omega) (by omega) (rfl)
    · have c_240 : ¬ ((nI (e - p0)) = (nI (2 + 2 * (by2 f p0)))) := of_decide_eq_false c_240
      have n_240 : ¬ (e - p0 = 2 + 2 * (by2 f p0)) := fun h9 => c_240 ((eq_nI (p := e - p0) (n := 2 + 2 * (by2 f p0)) (by omega) (by omega)).mpr h9)
      refine ps_st (S' := (245, [], [.int 30], M)) rfl rfl rfl ?_
      exact ps_ret rfl rfl (Or.inl ⟨I, R, (fun h9 => (by have h8 := Option.some.inj ((fe_c (by decide) (by omega)).symm.trans h9); omega)), rfl, hR, hEI, hER⟩)
set_option maxHeartbeats 4000000 in
theorem rd_attr7 {g : xe_G} {m0 : Nat} {q : Nat → Nat} {z : Nat × Nat} {I : rI} {R : rR} {M : mi_H} {n : Nat} {f : Nat → Int32} {tx : List (List Nat)} {cN : Nat} {A : Nat → Nat} {N mj : Nat} {E : List (Nat × Nat)} {p0 e x s3 : Nat} {t : Int32} (hR : RS g m0 q z I R M) (hi51 : I 51 = some 0) (hi52 : I 52 = some (nI N)) (hi53 : I 53 = some (nI mj)) (hF : FK n f I R) (hY : SYT tx cN A I R) (hP : RPV f n E tx N I R) (hEP : EP f n E) (hN : N < 65536) (hmj : mj < 65536) (he : p0 ≤ e ∧ e ≤ n) (hs3 : s3 < 2048) : pt (mT g) 177 [.ref m0, .int 7, .int t, .int (nI p0), .int (nI e), .int (nI x), .int (nI s3)] M (fun v M' => (∃  (I' : rI) (R' : rR), (¬ s_fe f 8 p0 e = some e) ∧ v = some (.int 30) ∧ RS g m0 q z I' R' M' ∧ eqI [68] I I' ∧ eqR [] R R') ∨ (∃  (I' : rI) (R' : rR), (s_fe f 8 p0 e = some e) ∧ (clA f E (p0 + 2) (by2 f p0) 0 = 0 ∨ ¬ sb s3 6 = 0) ∧ v = some (.int 35) ∧ RS g m0 q z I' R' M' ∧ eqI [68] I I' ∧ eqR [] R R') ∨ (∃  (I' : rI) (R' : rR), (s_fe f 8 p0 e = some e) ∧ (¬ clA f E (p0 + 2) (by2 f p0) 0 = 0 ∧ sb s3 6 = 0) ∧ v = some (.int 0) ∧ RS g m0 q z I' R' M' ∧ eqI [68] I I' ∧ eqR [] R R')) := by
  refine pt_in (b := mb_177 g) rfl (fun kf => ?_)
  show pl (mT g) kf (mb_177 g).2 (0, [(0, .ref m0), (1, .int 7), (2, .int t), (3, .int (nI p0)), (4, .int (nI e)), (5, .int (nI x)), (6, .int (nI s3))], [], M) _
  have hEI : eqI [68] I I := eqI.rf
  have hER : eqR [] R R := eqR.rf
  have hn := hF.1
  have LL : ∀ (kf : Nat), (∀ (i : Nat) (M1 : mi_H) (I1 : rI) (R1 : rR), (RS g m0 q z I1 R1 M1) → (eqI [68] I I1) → (eqR [] R R1) → (I1 51 = some 0) → (I1 52 = some (nI N)) → (I1 53 = some (nI mj)) → (FK n f I1 R1) → (SYT tx cN A I1 R1) → (RPV f n E tx N I1 R1) → (s_fe f 8 p0 e = some e) → (i ≤ by2 f p0) → (p0 + 2 + 2 * by2 f p0 = e) → (clA f E (p0 + 2) (by2 f p0 - i) i = clA f E (p0 + 2) (by2 f p0) 0) →  pl (mT g) kf (mb_177 g).2 (268, [(0, .ref m0), (1, .int 7), (3, .int (nI p0)), (5, .int (nI x)), (6, .int (nI s3)), (9, .int (nI i))], [], M1) (fun v M' => (∃  (I' : rI) (R' : rR), (¬ s_fe f 8 p0 e = some e) ∧ v = some (.int 30) ∧ RS g m0 q z I' R' M' ∧ eqI [68] I I' ∧ eqR [] R R') ∨ (∃  (I' : rI) (R' : rR), (s_fe f 8 p0 e = some e) ∧ (clA f E (p0 + 2) (by2 f p0) 0 = 0 ∨ ¬ sb s3 6 = 0) ∧ v = some (.int 35) ∧ RS g m0 q z I' R' M' ∧ eqI [68] I I' ∧ eqR [] R R') ∨ (∃  (I' : rI) (R' : rR), (s_fe f 8 p0 e = some e) ∧ (¬ clA f E (p0 + 2) (by2 f p0) 0 = 0 ∧ sb s3 6 = 0) ∧ v = some (.int 0) ∧ RS g m0 q z I' R' M' ∧ eqI [68] I I' ∧ eqR [] R R'))) := by
    intro kf
    induction kf with
    | zero => exact (by intros; exact pl_0)
    | succ kf ih =>
      intro i M1 I1 R1 hR1 hEI1 hER1 hl51 hl52 hl53 hF1 hY1 hP1 hfe hi hle hs
      have hn := hF1.1
      have hu9 := by2_lt f p0
      have hs6 := sb_lt s3 6
      have hs7 := sb_lt s3 7
      refine ps_st1 (S' := (270, [(0, .ref m0), (1, .int 7), (3, .int (nI p0)), (5, .int (nI x)), (6, .int (nI s3)), (9, .int (nI i))], [.int (nI i)], M1)) rfl rfl rfl ?_
      refine ps_st (S' := (271, [(0, .ref m0), (1, .int 7), (3, .int (nI p0)), (5, .int (nI x)), (6, .int (nI s3)), (9, .int (nI i))], [.ref m0, .int (nI i)], M1)) rfl rfl rfl ?_
      refine ps_st (S' := (272, [(0, .ref m0), (1, .int 7), (3, .int (nI p0)), (5, .int (nI x)), (6, .int (nI s3)), (9, .int (nI i))], [.int (nI p0), .ref m0, .int (nI i)], M1)) rfl rfl rfl ?_
      refine pl_call (a := [.ref m0, .int (nI p0)]) (rest := [.int (nI i)]) rfl rfl rfl (rd_u2 (n := n) (f := f) (p := p0) hR1 hF1 (by omega)) (fun v1 M2 q3 => ?_)
      obtain ⟨rfl, rfl⟩ := q3
      show pl _ _ _ (275, [(0, .ref m0), (1, .int 7), (3, .int (nI p0)), (5, .int (nI x)), (6, .int (nI s3)), (9, .int (nI i))], [.int (nI (by2 f p0)), .int (nI i)], M1) _
      have hu_272 := by2_lt f p0
      refine ps_if2 (S1 := (329, [(0, .ref m0), (1, .int 7), (3, .int (nI p0)), (5, .int (nI x)), (6, .int (nI s3)), (9, .int (nI i))], [], M1)) (S2 := (278, [(0, .ref m0), (1, .int 7), (3, .int (nI p0)), (5, .int (nI x)), (6, .int (nI s3)), (9, .int (nI i))], [], M1)) rfl rfl rfl (fun c_275 => ?_) (fun c_275 => ?_)
      · have c_275 : (nI (by2 f p0)) ≤ (nI i) := of_decide_eq_true c_275
        have n_275 : by2 f p0 ≤ i := (le_nI (p := by2 f p0) (n := i) (Nat.lt_trans (by2_lt _ _) (by decide)) (by omega)).mp c_275
        refine ps_st (S' := (330, [(0, .ref m0), (1, .int 7), (3, .int (nI p0)), (5, .int (nI x)), (6, .int (nI s3)), (9, .int (nI i))], [.int 7], M1)) rfl rfl rfl ?_
        refine ps_st (S' := (332, [(0, .ref m0), (1, .int 7), (3, .int (nI p0)), (5, .int (nI x)), (6, .int (nI s3)), (9, .int (nI i))], [.int 7, .int 7], M1)) rfl rfl rfl ?_
        refine ps_if2 (S1 := (349, [(0, .ref m0), (1, .int 7), (3, .int (nI p0)), (5, .int (nI x))], [], M1)) (S2 := (335, [(0, .ref m0), (1, .int 7), (3, .int (nI p0)), (5, .int (nI x)), (6, .int (nI s3)), (9, .int (nI i))], [], M1)) rfl rfl rfl (fun c_332 => ?_) (fun c_332 => ?_)
        · exact absurd (of_decide_eq_true c_332) (by decide)
        refine ps_st (S' := (337, [(0, .ref m0), (1, .int 7), (3, .int (nI p0)), (5, .int (nI x)), (6, .int (nI s3)), (9, .int (nI i))], [.int (nI s3)], M1)) rfl rfl rfl ?_
        refine ps_st (S' := (339, [(0, .ref m0), (1, .int 7), (3, .int (nI p0)), (5, .int (nI x)), (6, .int (nI s3)), (9, .int (nI i))], [.int 6, .int (nI s3)], M1)) rfl rfl rfl ?_
        refine ps_st (S' := (340, [(0, .ref m0), (1, .int 7), (3, .int (nI p0)), (5, .int (nI x)), (6, .int (nI s3)), (9, .int (nI i))], [.int ((nI s3) >>> (6 &&& 31))], M1)) rfl rfl rfl ?_
        refine ps_st (S' := (341, [(0, .ref m0), (1, .int 7), (3, .int (nI p0)), (5, .int (nI x)), (6, .int (nI s3)), (9, .int (nI i))], [.int 1, .int ((nI s3) >>> (6 &&& 31))], M1)) rfl rfl rfl ?_
        refine ps_st (S' := (342, [(0, .ref m0), (1, .int 7), (3, .int (nI p0)), (5, .int (nI x)), (6, .int (nI s3)), (9, .int (nI i))], [.int (((nI s3) >>> (6 &&& 31)) &&& 1)], M1)) rfl rfl rfl ?_
        rw [show (nI s3 >>> (6 &&& 31)) &&& 1 = nI (sb s3 6) from shr_k s3 (by omega) 6 (by decide)]
        show pl _ _ _ (_, [(0, .ref m0), (1, .int 7), (3, .int (nI p0)), (5, .int (nI x)), (6, .int (nI s3)), (9, .int (nI i))], [.int (nI (sb s3 6))], M1) _
        refine ps_st (S' := (343, [(0, .ref m0), (1, .int 7), (3, .int (nI p0)), (5, .int (nI x)), (6, .int (nI s3)), (9, .int (nI i))], [.int 1, .int (nI (sb s3 6))], M1)) rfl rfl rfl ?_
        refine ps_if2 (S1 := (349, [(0, .ref m0), (1, .int 7), (3, .int (nI p0)), (5, .int (nI x))], [], M1)) (S2 := (346, [(0, .ref m0), (1, .int 7), (3, .int (nI p0)), (5, .int (nI x)), (6, .int (nI s3)), (9, .int (nI i))], [], M1)) rfl rfl rfl (fun c_343 => ?_) (fun c_343 => ?_)
        · have c_343 : ¬ (nI (sb s3 6)) = 1 := of_decide_eq_true c_343
          have n_343 : ¬ (sb s3 6 = 1) := fun h9 => c_343 ((eq_nI (p := sb s3 6) (n := 1) (Nat.lt_trans (sb_lt _ _) (by decide)) (by decide)).mpr h9)
          refine ps_st (S' := (350, [(0, .ref m0), (1, .int 7), (3, .int (nI p0)), (5, .int (nI x))], [.int 7], M1)) rfl rfl rfl ?_
          refine ps_st (S' := (351, [(0, .ref m0), (1, .int 7), (3, .int (nI p0)), (5, .int (nI x))], [.int 2, .int 7], M1)) rfl rfl rfl ?_
          refine ps_if2 (S1 := (366, [(0, .ref m0), (1, .int 7), (3, .int (nI p0))], [], M1)) (S2 := (354, [(0, .ref m0), (1, .int 7), (3, .int (nI p0)), (5, .int (nI x))], [], M1)) rfl rfl rfl (fun c_351 => ?_) (fun c_351 => ?_)
          rotate_left
          · exact absurd (by decide) (of_decide_eq_false c_351)
          refine ps_st (S' := (367, [(0, .ref m0), (1, .int 7), (3, .int (nI p0))], [.int 7], M1)) rfl rfl rfl ?_
          refine ps_st (S' := (369, [(0, .ref m0), (1, .int 7), (3, .int (nI p0))], [.int 7, .int 7], M1)) rfl rfl rfl ?_
          refine ps_if2 (S1 := (381, [(0, .ref m0), (1, .int 7), (3, .int (nI p0))], [], M1)) (S2 := (372, [(0, .ref m0), (1, .int 7), (3, .int (nI p0))], [], M1)) rfl rfl rfl (fun c_369 => ?_) (fun c_369 => ?_)
          · exact absurd (of_decide_eq_true c_369) (by decide)
          refine ps_st (S' := (373, [(0, .ref m0), (1, .int 7), (3, .int (nI p0))], [.ref m0], M1)) rfl rfl rfl ?_
          refine ps_st (S' := (374, [(0, .ref m0), (1, .int 7), (3, .int (nI p0))], [.ref m0, .ref m0], M1)) rfl rfl rfl ?_
          refine ps_st (S' := (375, [(0, .ref m0), (1, .int 7), (3, .int (nI p0))], [.int (nI p0), .ref m0, .ref m0], M1)) rfl rfl rfl ?_
          refine pl_call (a := [.ref m0, .int (nI p0)]) (rest := [.ref m0]) rfl rfl rfl (rd_u2 (n := n) (f := f) (p := p0) hR1 hF1 (by omega)) (fun v4 M5 q6 => ?_)
          obtain ⟨rfl, rfl⟩ := q6
          show pl _ _ _ (378, [(0, .ref m0), (1, .int 7), (3, .int (nI p0))], [.int (nI (by2 f p0)), .ref m0], M1) _
          have hu_375 := by2_lt f p0
          refine pr_put (j := 68) rfl hR1 rfl (fun M7 I8 hR9 hi10 hI11 => ?_)
          have hi12 := (hI11 51 (by decide)).trans hl51
          have hi13 := (hI11 52 (by decide)).trans hl52
          have hi14 := (hI11 53 (by decide)).trans hl53
          have hF_15 := hF1.mono (pIx hI11 (by decide)) (fun _ _ => rfl)
          have hY_16 := hY1.mono (pIx hI11 (by decide)) (fun _ _ => rfl)
          have hP_17 := hP1.mono (pIx hI11 (by decide)) (fun _ _ => rfl)
          have hEI18 := hEI1.put hI11 (by decide)
          show pl _ _ _ (381, [(0, .ref m0), (1, .int 7), (3, .int (nI p0))], [], M7) _
          refine ps_st (S' := (382, [(0, .ref m0), (1, .int 7), (3, .int (nI p0))], [.int 7], M7)) rfl rfl rfl ?_
          refine ps_st (S' := (384, [(0, .ref m0), (1, .int 7), (3, .int (nI p0))], [.int 9, .int 7], M7)) rfl rfl rfl ?_
          refine ps_if2 (S1 := (396, [], [], M7)) (S2 := (387, [(0, .ref m0), (1, .int 7), (3, .int (nI p0))], [], M7)) rfl rfl rfl (fun c_384 => ?_) (fun c_384 => ?_)
          rotate_left
          · exact absurd (by decide) (of_decide_eq_false c_384)
          refine ps_st (S' := (397, [], [.int 0], M7)) rfl rfl rfl ?_
          exact ps_ret rfl rfl (Or.inr (Or.inr ⟨I8, R1, hfe, ⟨by rw [← hs, show by2 f p0 - i = 0 by omega]; exact Nat.one_ne_zero, by omega⟩, rfl, hR9, hEI18, hER1⟩))
        · have c_343 : ¬ (¬ (nI (sb s3 6)) = 1) := of_decide_eq_false c_343
          have n_343 : sb s3 6 = 1 := (eq_nI (p := sb s3 6) (n := 1) (Nat.lt_trans (sb_lt _ _) (by decide)) (by decide)).mp (Decidable.not_not.mp c_343)
          refine ps_st (S' := (348, [(0, .ref m0), (1, .int 7), (3, .int (nI p0)), (5, .int (nI x)), (6, .int (nI s3)), (9, .int (nI i))], [.int 35], M1)) rfl rfl rfl ?_
          exact ps_ret rfl rfl (Or.inr (Or.inl ⟨I1, R1, hfe, Or.inr (by omega), rfl, hR1, hEI1, hER1⟩))
      · have c_275 : ¬ ((nI (by2 f p0)) ≤ (nI i)) := of_decide_eq_false c_275
        have n_275 : ¬ (by2 f p0 ≤ i) := fun h9 => c_275 ((le_nI (p := by2 f p0) (n := i) (Nat.lt_trans (by2_lt _ _) (by decide)) (by omega)).mpr h9)
        refine ps_st (S' := (279, [(0, .ref m0), (1, .int 7), (3, .int (nI p0)), (5, .int (nI x)), (6, .int (nI s3)), (9, .int (nI i))], [.ref m0], M1)) rfl rfl rfl ?_
        refine ps_st (S' := (280, [(0, .ref m0), (1, .int 7), (3, .int (nI p0)), (5, .int (nI x)), (6, .int (nI s3)), (9, .int (nI i))], [.ref m0, .ref m0], M1)) rfl rfl rfl ?_
        refine ps_st (S' := (281, [(0, .ref m0), (1, .int 7), (3, .int (nI p0)), (5, .int (nI x)), (6, .int (nI s3)), (9, .int (nI i))], [.int (nI p0), .ref m0, .ref m0], M1)) rfl rfl rfl ?_
        refine ps_st (S' := (282, [(0, .ref m0), (1, .int 7), (3, .int (nI p0)), (5, .int (nI x)), (6, .int (nI s3)), (9, .int (nI i))], [.int 2, .int (nI p0), .ref m0, .ref m0], M1)) rfl rfl rfl ?_
        refine ps_st (S' := (283, [(0, .ref m0), (1, .int 7), (3, .int (nI p0)), (5, .int (nI x)), (6, .int (nI s3)), (9, .int (nI i))], [.int ((nI p0) + 2), .ref m0, .ref m0], M1)) rfl rfl rfl ?_
        rw [nI_add1 (p := p0) (k := 2) (x := 2) rfl (by omega)]
        show pl _ _ _ (_, [(0, .ref m0), (1, .int 7), (3, .int (nI p0)), (5, .int (nI x)), (6, .int (nI s3)), (9, .int (nI i))], [.int (nI (p0 + 2)), .ref m0, .ref m0], M1) _
        refine ps_st (S' := (284, [(0, .ref m0), (1, .int 7), (3, .int (nI p0)), (5, .int (nI x)), (6, .int (nI s3)), (9, .int (nI i))], [.int 2, .int (nI (p0 + 2)), .ref m0, .ref m0], M1)) rfl rfl rfl ?_
        refine ps_st (S' := (286, [(0, .ref m0), (1, .int 7), (3, .int (nI p0)), (5, .int (nI x)), (6, .int (nI s3)), (9, .int (nI i))], [.int (nI i), .int 2, .int (nI (p0 + 2)), .ref m0, .ref m0], M1)) rfl rfl rfl ?_
        refine ps_st (S' := (287, [(0, .ref m0), (1, .int 7), (3, .int (nI p0)), (5, .int (nI x)), (6, .int (nI s3)), (9, .int (nI i))], [.int (2 * (nI i)), .int (nI (p0 + 2)), .ref m0, .ref m0], M1)) rfl rfl rfl ?_
        rw [nI_mul1 (p := 2) (k := i) (x := 2) (y := (nI i)) rfl rfl (by omega)]
        show pl _ _ _ (_, [(0, .ref m0), (1, .int 7), (3, .int (nI p0)), (5, .int (nI x)), (6, .int (nI s3)), (9, .int (nI i))], [.int (nI (2 * i)), .int (nI (p0 + 2)), .ref m0, .ref m0], M1) _
        refine ps_st (S' := (288, [(0, .ref m0), (1, .int 7), (3, .int (nI p0)), (5, .int (nI x)), (6, .int (nI s3)), (9, .int (nI i))], [.int ((nI (p0 + 2)) + (nI (2 * i))), .ref m0, .ref m0], M1)) rfl rfl rfl ?_
        rw [nI_add1 (p := p0 + 2) (k := 2 * i) (x := (nI (2 * i))) rfl (by omega)]
        show pl _ _ _ (_, [(0, .ref m0), (1, .int 7), (3, .int (nI p0)), (5, .int (nI x)), (6, .int (nI s3)), (9, .int (nI i))], [.int (nI (p0 + 2 + 2 * i)), .ref m0, .ref m0], M1) _
        refine pl_call (a := [.ref m0, .int (nI (p0 + 2 + 2 * i))]) (rest := [.ref m0]) rfl rfl rfl (rd_u2 (n := n) (f := f) (p := (p0 + 2 + 2 * i)) hR1 hF1 (by omega)) (fun v19 M20 q21 => ?_)
        obtain ⟨rfl, rfl⟩ := q21
        show pl _ _ _ (291, [(0, .ref m0), (1, .int 7), (3, .int (nI p0)), (5, .int (nI x)), (6, .int (nI s3)), (9, .int (nI i))], [.int (nI (by2 f (p0 + 2 + 2 * i))), .ref m0], M1) _
        have hu_288 := by2_lt f (p0 + 2 + 2 * i)
        refine pl_call (a := [.ref m0, .int (nI (by2 f (p0 + 2 + 2 * i)))]) (rest := []) rfl rfl rfl (rd_tag (n := n) (f := f) (tx := tx) (cN := cN) (A := A) (N := N) (mj := mj) (E := E) (k := (by2 f (p0 + 2 + 2 * i))) hR1 hl51 hl52 hl53 hF1 hY1 hP1 (hEP) (hN) (hmj) (by2_lt _ _)) (fun v22 M23 q24 => ?_)
        obtain ⟨rfl, rfl⟩ := q24
        show pl _ _ _ (294, [(0, .ref m0), (1, .int 7), (3, .int (nI p0)), (5, .int (nI x)), (6, .int (nI s3)), (9, .int (nI i))], [.int (nI (tg f E (by2 f (p0 + 2 + 2 * i))))], M1) _
        have htg_291 := tg_lt f E (by2 f (p0 + 2 + 2 * i))
        refine ps_st (S' := (296, [(0, .ref m0), (1, .int 7), (3, .int (nI p0)), (5, .int (nI x)), (6, .int (nI s3)), (9, .int (nI i))], [.int 7, .int (nI (tg f E (by2 f (p0 + 2 + 2 * i))))], M1)) rfl rfl rfl ?_
        refine ps_if2 (S1 := (323, [(0, .ref m0), (1, .int 7), (3, .int (nI p0)), (5, .int (nI x)), (6, .int (nI s3)), (9, .int (nI i))], [], M1)) (S2 := (299, [(0, .ref m0), (1, .int 7), (3, .int (nI p0)), (5, .int (nI x)), (6, .int (nI s3)), (9, .int (nI i))], [], M1)) rfl rfl rfl (fun c_296 => ?_) (fun c_296 => ?_)
        · have c_296 : (nI (tg f E (by2 f (p0 + 2 + 2 * i)))) = 7 := of_decide_eq_true c_296
          have n_296 : tg f E (by2 f (p0 + 2 + 2 * i)) = 7 := (eq_nI (p := tg f E (by2 f (p0 + 2 + 2 * i))) (n := 7) (Nat.lt_trans (tg_lt _ _ _) (by decide)) (by decide)).mp c_296
          refine ps_st (S' := (326, [(9, .int ((nI i) + 1)), (0, .ref m0), (1, .int 7), (3, .int (nI p0)), (5, .int (nI x)), (6, .int (nI s3))], [], M1)) rfl rfl rfl ?_
          rw [nI_add1 (p := i) (k := 1) (x := 1) rfl (by omega)]
          show pl _ _ _ (_, [(9, .int (nI (i + 1))), (0, .ref m0), (1, .int 7), (3, .int (nI p0)), (5, .int (nI x)), (6, .int (nI s3))], [], M1) _
          refine ps_st (S' := (268, [(0, .ref m0), (1, .int 7), (3, .int (nI p0)), (5, .int (nI x)), (6, .int (nI s3)), (9, .int (nI (i + 1)))], [], M1)) rfl rfl rfl ?_
          exact ih (i + 1) M1 I1 R1 hR1 hEI1 hER1 hl51 hl52 hl53 hF1 hY1 hP1 (hfe) (by omega) (hle) (by
              rw [← hs, clA_st (i := i) (by omega), if_pos (by omega)])
        · have c_296 : ¬ ((nI (tg f E (by2 f (p0 + 2 + 2 * i)))) = 7) := of_decide_eq_false c_296
          have n_296 : ¬ (tg f E (by2 f (p0 + 2 + 2 * i)) = 7) := fun h9 => c_296 ((eq_nI (p := tg f E (by2 f (p0 + 2 + 2 * i))) (n := 7) (Nat.lt_trans (tg_lt _ _ _) (by decide)) (by decide)).mpr h9)
          refine ps_st (S' := (300, [(0, .ref m0), (1, .int 7), (3, .int (nI p0)), (5, .int (nI x)), (6, .int (nI s3)), (9, .int (nI i))], [.int 7], M1)) rfl rfl rfl ?_
          refine ps_st (S' := (301, [(0, .ref m0), (1, .int 7), (3, .int (nI p0)), (5, .int (nI x)), (6, .int (nI s3)), (9, .int (nI i))], [.int 2, .int 7], M1)) rfl rfl rfl ?_
          refine ps_if2 (S1 := (309, [(0, .ref m0), (1, .int 7), (3, .int (nI p0)), (5, .int (nI x)), (6, .int (nI s3)), (9, .int (nI i))], [], M1)) (S2 := (304, [(0, .ref m0), (1, .int 7), (3, .int (nI p0)), (5, .int (nI x)), (6, .int (nI s3)), (9, .int (nI i))], [], M1)) rfl rfl rfl (fun c_301 => ?_) (fun c_301 => ?_)
          rotate_left
          · exact absurd (by decide) (of_decide_eq_false c_301)
          refine ps_st (S' := (310, [(0, .ref m0), (1, .int 7), (3, .int (nI p0)), (5, .int (nI x)), (6, .int (nI s3)), (9, .int (nI i))], [.int 7], M1)) rfl rfl rfl ?_
          refine ps_st (S' := (312, [(0, .ref m0), (1, .int 7), (3, .int (nI p0)), (5, .int (nI x)), (6, .int (nI s3)), (9, .int (nI i))], [.int 7, .int 7], M1)) rfl rfl rfl ?_
          refine ps_if2 (S1 := (320, [(0, .ref m0), (1, .int 7), (3, .int (nI p0)), (5, .int (nI x)), (6, .int (nI s3)), (9, .int (nI i))], [], M1)) (S2 := (315, [(0, .ref m0), (1, .int 7), (3, .int (nI p0)), (5, .int (nI x)), (6, .int (nI s3)), (9, .int (nI i))], [], M1)) rfl rfl rfl (fun c_312 => ?_) (fun c_312 => ?_)
          · exact absurd (of_decide_eq_true c_312) (by decide)
          refine ps_st (S' := (317, [(0, .ref m0), (1, .int 7), (3, .int (nI p0)), (5, .int (nI x)), (6, .int (nI s3)), (9, .int (nI i))], [.int 35], M1)) rfl rfl rfl ?_
          refine ps_st (S' := (322, [], [.int 35], M1)) rfl rfl rfl ?_
          exact ps_ret rfl rfl (Or.inr (Or.inl ⟨I1, R1, hfe, Or.inl (by rw [← hs, clA_st (i := i) (by omega), if_neg (by omega)]), rfl, hR1, hEI1, hER1⟩))
  refine ps_st (S' := (1, [(0, .ref m0), (1, .int 7), (2, .int t), (3, .int (nI p0)), (4, .int (nI e)), (5, .int (nI x)), (6, .int (nI s3))], [.int 7], M)) rfl rfl rfl ?_
  refine ps_st (S' := (219, [(0, .ref m0), (1, .int 7), (2, .int t), (3, .int (nI p0)), (4, .int (nI e)), (5, .int (nI x)), (6, .int (nI s3))], [], M)) rfl rfl rfl ?_
  refine ps_st (S' := (221, [(0, .ref m0), (1, .int 7), (2, .int t), (3, .int (nI p0)), (4, .int (nI e)), (5, .int (nI x)), (6, .int (nI s3))], [.int (nI e)], M)) rfl rfl rfl ?_
  refine ps_st (S' := (222, [(0, .ref m0), (1, .int 7), (2, .int t), (3, .int (nI p0)), (4, .int (nI e)), (5, .int (nI x)), (6, .int (nI s3))], [.int (nI p0), .int (nI e)], M)) rfl rfl rfl ?_
  refine ps_st (S' := (223, [(0, .ref m0), (1, .int 7), (2, .int t), (3, .int (nI p0)), (4, .int (nI e)), (5, .int (nI x)), (6, .int (nI s3))], [.int ((nI e) - (nI p0))], M)) rfl rfl rfl ?_
  rw [nI_sub1 (p := e) (k := p0) (x := (nI p0)) rfl (by omega) (by omega)]
  show pl _ _ _ (_, [(0, .ref m0), (1, .int 7), (2, .int t), (3, .int (nI p0)), (4, .int (nI e)), (5, .int (nI x)), (6, .int (nI s3))], [.int (nI (e - p0))], M) _
  refine ps_st (S' := (224, [(0, .ref m0), (1, .int 7), (2, .int t), (3, .int (nI p0)), (4, .int (nI e)), (5, .int (nI x)), (6, .int (nI s3))], [.int 2, .int (nI (e - p0))], M)) rfl rfl rfl ?_
  refine ps_if2 (S1 := (243, [], [], M)) (S2 := (227, [(0, .ref m0), (1, .int 7), (2, .int t), (3, .int (nI p0)), (4, .int (nI e)), (5, .int (nI x)), (6, .int (nI s3))], [], M)) rfl rfl rfl (fun c_224 => ?_) (fun c_224 => ?_)
  · have c_224 : (nI (e - p0)) < 2 := of_decide_eq_true c_224
    have n_224 : e - p0 < 2 := (lt_nI (p := e - p0) (n := 2) (by omega) (by decide)).mp c_224
    refine ps_st (S' := (245, [], [.int 30], M)) rfl rfl rfl ?_
    exact ps_ret rfl rfl (Or.inl ⟨I, R, fe_2 (by omega), rfl, hR, hEI, hER⟩)
  · have c_224 : ¬ ((nI (e - p0)) < 2) := of_decide_eq_false c_224
    have n_224 : ¬ (e - p0 < 2) := fun h9 => c_224 ((lt_nI (p := e - p0) (n := 2) (by omega) (by decide)).mpr h9)
    refine ps_st (S' := (229, [(0, .ref m0), (1, .int 7), (2, .int t), (3, .int (nI p0)), (4, .int (nI e)), (5, .int (nI x)), (6, .int (nI s3))], [.int (nI e)], M)) rfl rfl rfl ?_
    refine ps_st (S' := (230, [(0, .ref m0), (1, .int 7), (2, .int t), (3, .int (nI p0)), (4, .int (nI e)), (5, .int (nI x)), (6, .int (nI s3))], [.int (nI p0), .int (nI e)], M)) rfl rfl rfl ?_
    refine ps_st (S' := (231, [(0, .ref m0), (1, .int 7), (2, .int t), (3, .int (nI p0)), (4, .int (nI e)), (5, .int (nI x)), (6, .int (nI s3))], [.int ((nI e) - (nI p0))], M)) rfl rfl rfl ?_
    rw [nI_sub1 (p := e) (k := p0) (x := (nI p0)) rfl (by omega) (by omega)]
    show pl _ _ _ (_, [(0, .ref m0), (1, .int 7), (2, .int t), (3, .int (nI p0)), (4, .int (nI e)), (5, .int (nI x)), (6, .int (nI s3))], [.int (nI (e - p0))], M) _
    refine ps_st (S' := (232, [(0, .ref m0), (1, .int 7), (2, .int t), (3, .int (nI p0)), (4, .int (nI e)), (5, .int (nI x)), (6, .int (nI s3))], [.int 2, .int (nI (e - p0))], M)) rfl rfl rfl ?_
    refine ps_st (S' := (233, [(0, .ref m0), (1, .int 7), (2, .int t), (3, .int (nI p0)), (4, .int (nI e)), (5, .int (nI x)), (6, .int (nI s3))], [.int 2, .int 2, .int (nI (e - p0))], M)) rfl rfl rfl ?_
    refine ps_st (S' := (234, [(0, .ref m0), (1, .int 7), (2, .int t), (3, .int (nI p0)), (4, .int (nI e)), (5, .int (nI x)), (6, .int (nI s3))], [.ref m0, .int 2, .int 2, .int (nI (e - p0))], M)) rfl rfl rfl ?_
    refine ps_st (S' := (235, [(0, .ref m0), (1, .int 7), (2, .int t), (3, .int (nI p0)), (4, .int (nI e)), (5, .int (nI x)), (6, .int (nI s3))], [.int (nI p0), .ref m0, .int 2, .int 2, .int (nI (e - p0))], M)) rfl rfl rfl ?_
    refine pl_call (a := [.ref m0, .int (nI p0)]) (rest := [.int 2, .int 2, .int (nI (e - p0))]) rfl rfl rfl (rd_u2 (n := n) (f := f) (p := p0) hR hF (by omega)) (fun v25 M26 q27 => ?_)
    obtain ⟨rfl, rfl⟩ := q27
    show pl _ _ _ (238, [(0, .ref m0), (1, .int 7), (2, .int t), (3, .int (nI p0)), (4, .int (nI e)), (5, .int (nI x)), (6, .int (nI s3))], [.int (nI (by2 f p0)), .int 2, .int 2, .int (nI (e - p0))], M) _
    have hu_235 := by2_lt f p0
    refine ps_st (S' := (239, [(0, .ref m0), (1, .int 7), (2, .int t), (3, .int (nI p0)), (4, .int (nI e)), (5, .int (nI x)), (6, .int (nI s3))], [.int (2 * (nI (by2 f p0))), .int 2, .int (nI (e - p0))], M)) rfl rfl rfl ?_
    rw [nI_mul1 (p := 2) (k := by2 f p0) (x := 2) (y := (nI (by2 f p0))) rfl rfl (by omega)]
    show pl _ _ _ (_, [(0, .ref m0), (1, .int 7), (2, .int t), (3, .int (nI p0)), (4, .int (nI e)), (5, .int (nI x)), (6, .int (nI s3))], [.int (nI (2 * (by2 f p0))), .int 2, .int (nI (e - p0))], M) _
    refine ps_st (S' := (240, [(0, .ref m0), (1, .int 7), (2, .int t), (3, .int (nI p0)), (4, .int (nI e)), (5, .int (nI x)), (6, .int (nI s3))], [.int (2 + (nI (2 * (by2 f p0)))), .int (nI (e - p0))], M)) rfl rfl rfl ?_
    rw [nI_add2 (p := 2) (k := 2 * (by2 f p0)) (x := 2) (y := (nI (2 * (by2 f p0)))) rfl rfl (by omega)]
    show pl _ _ _ (_, [(0, .ref m0), (1, .int 7), (2, .int t), (3, .int (nI p0)), (4, .int (nI e)), (5, .int (nI x)), (6, .int (nI s3))], [.int (nI (2 + 2 * (by2 f p0))), .int (nI (e - p0))], M) _
    refine ps_if2 (S1 := (246, [(0, .ref m0), (1, .int 7), (2, .int t), (3, .int (nI p0)), (4, .int (nI e)), (5, .int (nI x)), (6, .int (nI s3))], [], M)) (S2 := (243, [], [], M)) rfl rfl rfl (fun c_240 => ?_) (fun c_240 => ?_)
    · have c_240 : (nI (e - p0)) = (nI (2 + 2 * (by2 f p0))) := of_decide_eq_true c_240
      have n_240 : e - p0 = 2 + 2 * (by2 f p0) := (eq_nI (p := e - p0) (n := 2 + 2 * (by2 f p0)) (by omega) (by omega)).mp c_240
      refine ps_st (S' := (247, [(0, .ref m0), (1, .int 7), (2, .int t), (3, .int (nI p0)), (4, .int (nI e)), (5, .int (nI x)), (6, .int (nI s3))], [.int 7], M)) rfl rfl rfl ?_
      refine ps_st (S' := (249, [(0, .ref m0), (1, .int 7), (2, .int t), (3, .int (nI p0)), (4, .int (nI e)), (5, .int (nI x)), (6, .int (nI s3))], [.int 9, .int 7], M)) rfl rfl rfl ?_
      refine ps_if2 (S1 := (265, [(0, .ref m0), (1, .int 7), (3, .int (nI p0)), (5, .int (nI x)), (6, .int (nI s3))], [], M)) (S2 := (252, [(0, .ref m0), (1, .int 7), (2, .int t), (3, .int (nI p0)), (4, .int (nI e)), (5, .int (nI x)), (6, .int (nI s3))], [], M)) rfl rfl rfl (fun c_249 => ?_) (fun c_249 => ?_)
      rotate_left
      · exact absurd (by decide) (of_decide_eq_false c_249)
      refine ps_st (S' := (266, [(0, .ref m0), (1, .int 7), (3, .int (nI p0)), (5, .int (nI x)), (6, .int (nI s3))], [.int 0], M)) rfl rfl rfl ?_
      refine ps_st (S' := (268, [(0, .ref m0), (1, .int 7), (3, .int (nI p0)), (5, .int (nI x)), (6, .int (nI s3)), (9, .int 0)], [], M)) rfl rfl rfl ?_
      exact (LL kf) (0) M I R hR hEI hER hi51 hi52 hi53 hF hY hP ((fe_c (by decide) (by omega)).trans (congrArg some (by omega))) (by omega) (by omega) (rfl)
    · have c_240 : ¬ ((nI (e - p0)) = (nI (2 + 2 * (by2 f p0)))) := of_decide_eq_false c_240
      have n_240 : ¬ (e - p0 = 2 + 2 * (by2 f p0)) := fun h9 => c_240 ((eq_nI (p := e - p0) (n := 2 + 2 * (by2 f p0)) (by omega) (by omega)).mpr h9)
      refine ps_st (S' := (245, [], [.int 30], M)) rfl rfl rfl ?_
      exact ps_ret rfl rfl (Or.inl ⟨I, R, (fun h9 => (by have h8 := Option.some.inj ((fe_c (by decide) (by omega)).symm.trans h9); omega)), rfl, hR, hEI, hER⟩)
set_option maxHeartbeats 4000000 in
theorem rd_attr9 {g : xe_G} {m0 : Nat} {q : Nat → Nat} {z : Nat × Nat} {I : rI} {R : rR} {M : mi_H} {n : Nat} {f : Nat → Int32} {tx : List (List Nat)} {cN : Nat} {A : Nat → Nat} {N mj : Nat} {E : List (Nat × Nat)} {p0 e x s3 : Nat} {t : Int32} {fl : Nat} (hR : RS g m0 q z I R M) (hi51 : I 51 = some 0) (hi52 : I 52 = some (nI N)) (hi53 : I 53 = some (nI mj)) (hi58 : I 58 = some (nI fl)) (hF : FK n f I R) (hY : SYT tx cN A I R) (hP : RPV f n E tx N I R) (hEP : EP f n E) (hN : N < 65536) (hmj : mj < 65536) (he : p0 ≤ e ∧ e ≤ n) (hs3 : s3 < 2048) (hf6 : fl < 65536) : pt (mT g) 177 [.ref m0, .int 9, .int t, .int (nI p0), .int (nI e), .int (nI x), .int (nI s3)] M (fun v M' => (∃  (I' : rI) (R' : rR), (¬ s_fe f 10 p0 e = some e) ∧ v = some (.int 30) ∧ RS g m0 q z I' R' M' ∧ eqI [69] I I' ∧ eqR [] R R') ∨ (∃  (I' : rI) (R' : rR), (s_fe f 10 p0 e = some e) ∧ (clA f E (p0 + 2) (by2 f p0) 0 = 0 ∨ ¬ aN fl 16 = 0) ∧ v = some (.int 36) ∧ RS g m0 q z I' R' M' ∧ eqI [69] I I' ∧ eqR [] R R') ∨ (∃  (I' : rI) (R' : rR), (s_fe f 10 p0 e = some e) ∧ (¬ clA f E (p0 + 2) (by2 f p0) 0 = 0 ∧ aN fl 16 = 0) ∧ v = some (.int 0) ∧ RS g m0 q z I' R' M' ∧ eqI [69] I I' ∧ eqR [] R R')) := by
  refine pt_in (b := mb_177 g) rfl (fun kf => ?_)
  show pl (mT g) kf (mb_177 g).2 (0, [(0, .ref m0), (1, .int 9), (2, .int t), (3, .int (nI p0)), (4, .int (nI e)), (5, .int (nI x)), (6, .int (nI s3))], [], M) _
  have hEI : eqI [69] I I := eqI.rf
  have hER : eqR [] R R := eqR.rf
  have hn := hF.1
  have LL : ∀ (kf : Nat), (∀ (i : Nat) (M1 : mi_H) (I1 : rI) (R1 : rR), (RS g m0 q z I1 R1 M1) → (eqI [69] I I1) → (eqR [] R R1) → (I1 51 = some 0) → (I1 52 = some (nI N)) → (I1 53 = some (nI mj)) → (I1 58 = some (nI fl)) → (FK n f I1 R1) → (SYT tx cN A I1 R1) → (RPV f n E tx N I1 R1) → (s_fe f 10 p0 e = some e) → (i ≤ by2 f p0) → (p0 + 2 + 2 * by2 f p0 = e) → (clA f E (p0 + 2) (by2 f p0 - i) i = clA f E (p0 + 2) (by2 f p0) 0) → (aN fl 16 = 0) →  pl (mT g) kf (mb_177 g).2 (268, [(0, .ref m0), (1, .int 9), (3, .int (nI p0)), (5, .int (nI x)), (6, .int (nI s3)), (9, .int (nI i))], [], M1) (fun v M' => (∃  (I' : rI) (R' : rR), (¬ s_fe f 10 p0 e = some e) ∧ v = some (.int 30) ∧ RS g m0 q z I' R' M' ∧ eqI [69] I I' ∧ eqR [] R R') ∨ (∃  (I' : rI) (R' : rR), (s_fe f 10 p0 e = some e) ∧ (clA f E (p0 + 2) (by2 f p0) 0 = 0 ∨ ¬ aN fl 16 = 0) ∧ v = some (.int 36) ∧ RS g m0 q z I' R' M' ∧ eqI [69] I I' ∧ eqR [] R R') ∨ (∃  (I' : rI) (R' : rR), (s_fe f 10 p0 e = some e) ∧ (¬ clA f E (p0 + 2) (by2 f p0) 0 = 0 ∧ aN fl 16 = 0) ∧ v = some (.int 0) ∧ RS g m0 q z I' R' M' ∧ eqI [69] I I' ∧ eqR [] R R'))) := by
    intro kf
    induction kf with
    | zero => exact (by intros; exact pl_0)
    | succ kf ih =>
      intro i M1 I1 R1 hR1 hEI1 hER1 hl51 hl52 hl53 hl58 hF1 hY1 hP1 hfe hi hle hs h16
      have hn := hF1.1
      have hu9 := by2_lt f p0
      have hs6 := sb_lt s3 6
      have hs7 := sb_lt s3 7
      refine ps_st1 (S' := (270, [(0, .ref m0), (1, .int 9), (3, .int (nI p0)), (5, .int (nI x)), (6, .int (nI s3)), (9, .int (nI i))], [.int (nI i)], M1)) rfl rfl rfl ?_
      refine ps_st (S' := (271, [(0, .ref m0), (1, .int 9), (3, .int (nI p0)), (5, .int (nI x)), (6, .int (nI s3)), (9, .int (nI i))], [.ref m0, .int (nI i)], M1)) rfl rfl rfl ?_
      refine ps_st (S' := (272, [(0, .ref m0), (1, .int 9), (3, .int (nI p0)), (5, .int (nI x)), (6, .int (nI s3)), (9, .int (nI i))], [.int (nI p0), .ref m0, .int (nI i)], M1)) rfl rfl rfl ?_
      refine pl_call (a := [.ref m0, .int (nI p0)]) (rest := [.int (nI i)]) rfl rfl rfl (rd_u2 (n := n) (f := f) (p := p0) hR1 hF1 (by omega)) (fun v1 M2 q3 => ?_)
      obtain ⟨rfl, rfl⟩ := q3
      show pl _ _ _ (275, [(0, .ref m0), (1, .int 9), (3, .int (nI p0)), (5, .int (nI x)), (6, .int (nI s3)), (9, .int (nI i))], [.int (nI (by2 f p0)), .int (nI i)], M1) _
      have hu_272 := by2_lt f p0
      refine ps_if2 (S1 := (329, [(0, .ref m0), (1, .int 9), (3, .int (nI p0)), (5, .int (nI x)), (6, .int (nI s3)), (9, .int (nI i))], [], M1)) (S2 := (278, [(0, .ref m0), (1, .int 9), (3, .int (nI p0)), (5, .int (nI x)), (6, .int (nI s3)), (9, .int (nI i))], [], M1)) rfl rfl rfl (fun c_275 => ?_) (fun c_275 => ?_)
      · have c_275 : (nI (by2 f p0)) ≤ (nI i) := of_decide_eq_true c_275
        have n_275 : by2 f p0 ≤ i := (le_nI (p := by2 f p0) (n := i) (Nat.lt_trans (by2_lt _ _) (by decide)) (by omega)).mp c_275
        refine ps_st (S' := (330, [(0, .ref m0), (1, .int 9), (3, .int (nI p0)), (5, .int (nI x)), (6, .int (nI s3)), (9, .int (nI i))], [.int 9], M1)) rfl rfl rfl ?_
        refine ps_st (S' := (332, [(0, .ref m0), (1, .int 9), (3, .int (nI p0)), (5, .int (nI x)), (6, .int (nI s3)), (9, .int (nI i))], [.int 7, .int 9], M1)) rfl rfl rfl ?_
        refine ps_if2 (S1 := (349, [(0, .ref m0), (1, .int 9), (3, .int (nI p0)), (5, .int (nI x))], [], M1)) (S2 := (335, [(0, .ref m0), (1, .int 9), (3, .int (nI p0)), (5, .int (nI x)), (6, .int (nI s3)), (9, .int (nI i))], [], M1)) rfl rfl rfl (fun c_332 => ?_) (fun c_332 => ?_)
        rotate_left
        · exact absurd (by decide) (of_decide_eq_false c_332)
        refine ps_st (S' := (350, [(0, .ref m0), (1, .int 9), (3, .int (nI p0)), (5, .int (nI x))], [.int 9], M1)) rfl rfl rfl ?_
        refine ps_st (S' := (351, [(0, .ref m0), (1, .int 9), (3, .int (nI p0)), (5, .int (nI x))], [.int 2, .int 9], M1)) rfl rfl rfl ?_
        refine ps_if2 (S1 := (366, [(0, .ref m0), (1, .int 9), (3, .int (nI p0))], [], M1)) (S2 := (354, [(0, .ref m0), (1, .int 9), (3, .int (nI p0)), (5, .int (nI x))], [], M1)) rfl rfl rfl (fun c_351 => ?_) (fun c_351 => ?_)
        rotate_left
        · exact absurd (by decide) (of_decide_eq_false c_351)
        refine ps_st (S' := (367, [(0, .ref m0), (1, .int 9), (3, .int (nI p0))], [.int 9], M1)) rfl rfl rfl ?_
        refine ps_st (S' := (369, [(0, .ref m0), (1, .int 9), (3, .int (nI p0))], [.int 7, .int 9], M1)) rfl rfl rfl ?_
        refine ps_if2 (S1 := (381, [(0, .ref m0), (1, .int 9), (3, .int (nI p0))], [], M1)) (S2 := (372, [(0, .ref m0), (1, .int 9), (3, .int (nI p0))], [], M1)) rfl rfl rfl (fun c_369 => ?_) (fun c_369 => ?_)
        rotate_left
        · exact absurd (by decide) (of_decide_eq_false c_369)
        refine ps_st (S' := (382, [(0, .ref m0), (1, .int 9), (3, .int (nI p0))], [.int 9], M1)) rfl rfl rfl ?_
        refine ps_st (S' := (384, [(0, .ref m0), (1, .int 9), (3, .int (nI p0))], [.int 9, .int 9], M1)) rfl rfl rfl ?_
        refine ps_if2 (S1 := (396, [], [], M1)) (S2 := (387, [(0, .ref m0), (1, .int 9), (3, .int (nI p0))], [], M1)) rfl rfl rfl (fun c_384 => ?_) (fun c_384 => ?_)
        · exact absurd (of_decide_eq_true c_384) (by decide)
        refine ps_st (S' := (388, [(0, .ref m0), (1, .int 9), (3, .int (nI p0))], [.ref m0], M1)) rfl rfl rfl ?_
        refine ps_st (S' := (389, [(0, .ref m0), (1, .int 9), (3, .int (nI p0))], [.ref m0, .ref m0], M1)) rfl rfl rfl ?_
        refine ps_st (S' := (390, [(0, .ref m0), (1, .int 9), (3, .int (nI p0))], [.int (nI p0), .ref m0, .ref m0], M1)) rfl rfl rfl ?_
        refine pl_call (a := [.ref m0, .int (nI p0)]) (rest := [.ref m0]) rfl rfl rfl (rd_u2 (n := n) (f := f) (p := p0) hR1 hF1 (by omega)) (fun v4 M5 q6 => ?_)
        obtain ⟨rfl, rfl⟩ := q6
        show pl _ _ _ (393, [(0, .ref m0), (1, .int 9), (3, .int (nI p0))], [.int (nI (by2 f p0)), .ref m0], M1) _
        have hu_390 := by2_lt f p0
        refine pr_put (j := 69) rfl hR1 rfl (fun M7 I8 hR9 hi10 hI11 => ?_)
        have hi12 := (hI11 51 (by decide)).trans hl51
        have hi13 := (hI11 52 (by decide)).trans hl52
        have hi14 := (hI11 53 (by decide)).trans hl53
        have hi15 := (hI11 58 (by decide)).trans hl58
        have hF_16 := hF1.mono (pIx hI11 (by decide)) (fun _ _ => rfl)
        have hY_17 := hY1.mono (pIx hI11 (by decide)) (fun _ _ => rfl)
        have hP_18 := hP1.mono (pIx hI11 (by decide)) (fun _ _ => rfl)
        have hEI19 := hEI1.put hI11 (by decide)
        show pl _ _ _ (396, [], [], M7) _
        refine ps_st (S' := (397, [], [.int 0], M7)) rfl rfl rfl ?_
        exact ps_ret rfl rfl (Or.inr (Or.inr ⟨I8, R1, hfe, ⟨by rw [← hs, show by2 f p0 - i = 0 by omega]; exact Nat.one_ne_zero, h16⟩, rfl, hR9, hEI19, hER1⟩))
      · have c_275 : ¬ ((nI (by2 f p0)) ≤ (nI i)) := of_decide_eq_false c_275
        have n_275 : ¬ (by2 f p0 ≤ i) := fun h9 => c_275 ((le_nI (p := by2 f p0) (n := i) (Nat.lt_trans (by2_lt _ _) (by decide)) (by omega)).mpr h9)
        refine ps_st (S' := (279, [(0, .ref m0), (1, .int 9), (3, .int (nI p0)), (5, .int (nI x)), (6, .int (nI s3)), (9, .int (nI i))], [.ref m0], M1)) rfl rfl rfl ?_
        refine ps_st (S' := (280, [(0, .ref m0), (1, .int 9), (3, .int (nI p0)), (5, .int (nI x)), (6, .int (nI s3)), (9, .int (nI i))], [.ref m0, .ref m0], M1)) rfl rfl rfl ?_
        refine ps_st (S' := (281, [(0, .ref m0), (1, .int 9), (3, .int (nI p0)), (5, .int (nI x)), (6, .int (nI s3)), (9, .int (nI i))], [.int (nI p0), .ref m0, .ref m0], M1)) rfl rfl rfl ?_
        refine ps_st (S' := (282, [(0, .ref m0), (1, .int 9), (3, .int (nI p0)), (5, .int (nI x)), (6, .int (nI s3)), (9, .int (nI i))], [.int 2, .int (nI p0), .ref m0, .ref m0], M1)) rfl rfl rfl ?_
        refine ps_st (S' := (283, [(0, .ref m0), (1, .int 9), (3, .int (nI p0)), (5, .int (nI x)), (6, .int (nI s3)), (9, .int (nI i))], [.int ((nI p0) + 2), .ref m0, .ref m0], M1)) rfl rfl rfl ?_
        rw [nI_add1 (p := p0) (k := 2) (x := 2) rfl (by omega)]
        show pl _ _ _ (_, [(0, .ref m0), (1, .int 9), (3, .int (nI p0)), (5, .int (nI x)), (6, .int (nI s3)), (9, .int (nI i))], [.int (nI (p0 + 2)), .ref m0, .ref m0], M1) _
        refine ps_st (S' := (284, [(0, .ref m0), (1, .int 9), (3, .int (nI p0)), (5, .int (nI x)), (6, .int (nI s3)), (9, .int (nI i))], [.int 2, .int (nI (p0 + 2)), .ref m0, .ref m0], M1)) rfl rfl rfl ?_
        refine ps_st (S' := (286, [(0, .ref m0), (1, .int 9), (3, .int (nI p0)), (5, .int (nI x)), (6, .int (nI s3)), (9, .int (nI i))], [.int (nI i), .int 2, .int (nI (p0 + 2)), .ref m0, .ref m0], M1)) rfl rfl rfl ?_
        refine ps_st (S' := (287, [(0, .ref m0), (1, .int 9), (3, .int (nI p0)), (5, .int (nI x)), (6, .int (nI s3)), (9, .int (nI i))], [.int (2 * (nI i)), .int (nI (p0 + 2)), .ref m0, .ref m0], M1)) rfl rfl rfl ?_
        rw [nI_mul1 (p := 2) (k := i) (x := 2) (y := (nI i)) rfl rfl (by omega)]
        show pl _ _ _ (_, [(0, .ref m0), (1, .int 9), (3, .int (nI p0)), (5, .int (nI x)), (6, .int (nI s3)), (9, .int (nI i))], [.int (nI (2 * i)), .int (nI (p0 + 2)), .ref m0, .ref m0], M1) _
        refine ps_st (S' := (288, [(0, .ref m0), (1, .int 9), (3, .int (nI p0)), (5, .int (nI x)), (6, .int (nI s3)), (9, .int (nI i))], [.int ((nI (p0 + 2)) + (nI (2 * i))), .ref m0, .ref m0], M1)) rfl rfl rfl ?_
        rw [nI_add1 (p := p0 + 2) (k := 2 * i) (x := (nI (2 * i))) rfl (by omega)]
        show pl _ _ _ (_, [(0, .ref m0), (1, .int 9), (3, .int (nI p0)), (5, .int (nI x)), (6, .int (nI s3)), (9, .int (nI i))], [.int (nI (p0 + 2 + 2 * i)), .ref m0, .ref m0], M1) _
        refine pl_call (a := [.ref m0, .int (nI (p0 + 2 + 2 * i))]) (rest := [.ref m0]) rfl rfl rfl (rd_u2 (n := n) (f := f) (p := (p0 + 2 + 2 * i)) hR1 hF1 (by omega)) (fun v20 M21 q22 => ?_)
        obtain ⟨rfl, rfl⟩ := q22
        show pl _ _ _ (291, [(0, .ref m0), (1, .int 9), (3, .int (nI p0)), (5, .int (nI x)), (6, .int (nI s3)), (9, .int (nI i))], [.int (nI (by2 f (p0 + 2 + 2 * i))), .ref m0], M1) _
        have hu_288 := by2_lt f (p0 + 2 + 2 * i)
        refine pl_call (a := [.ref m0, .int (nI (by2 f (p0 + 2 + 2 * i)))]) (rest := []) rfl rfl rfl (rd_tag (n := n) (f := f) (tx := tx) (cN := cN) (A := A) (N := N) (mj := mj) (E := E) (k := (by2 f (p0 + 2 + 2 * i))) hR1 hl51 hl52 hl53 hF1 hY1 hP1 (hEP) (hN) (hmj) (by2_lt _ _)) (fun v23 M24 q25 => ?_)
        obtain ⟨rfl, rfl⟩ := q25
        show pl _ _ _ (294, [(0, .ref m0), (1, .int 9), (3, .int (nI p0)), (5, .int (nI x)), (6, .int (nI s3)), (9, .int (nI i))], [.int (nI (tg f E (by2 f (p0 + 2 + 2 * i))))], M1) _
        have htg_291 := tg_lt f E (by2 f (p0 + 2 + 2 * i))
        refine ps_st (S' := (296, [(0, .ref m0), (1, .int 9), (3, .int (nI p0)), (5, .int (nI x)), (6, .int (nI s3)), (9, .int (nI i))], [.int 7, .int (nI (tg f E (by2 f (p0 + 2 + 2 * i))))], M1)) rfl rfl rfl ?_
        refine ps_if2 (S1 := (323, [(0, .ref m0), (1, .int 9), (3, .int (nI p0)), (5, .int (nI x)), (6, .int (nI s3)), (9, .int (nI i))], [], M1)) (S2 := (299, [(0, .ref m0), (1, .int 9), (3, .int (nI p0)), (5, .int (nI x)), (6, .int (nI s3)), (9, .int (nI i))], [], M1)) rfl rfl rfl (fun c_296 => ?_) (fun c_296 => ?_)
        · have c_296 : (nI (tg f E (by2 f (p0 + 2 + 2 * i)))) = 7 := of_decide_eq_true c_296
          have n_296 : tg f E (by2 f (p0 + 2 + 2 * i)) = 7 := (eq_nI (p := tg f E (by2 f (p0 + 2 + 2 * i))) (n := 7) (Nat.lt_trans (tg_lt _ _ _) (by decide)) (by decide)).mp c_296
          refine ps_st (S' := (326, [(9, .int ((nI i) + 1)), (0, .ref m0), (1, .int 9), (3, .int (nI p0)), (5, .int (nI x)), (6, .int (nI s3))], [], M1)) rfl rfl rfl ?_
          rw [nI_add1 (p := i) (k := 1) (x := 1) rfl (by omega)]
          show pl _ _ _ (_, [(9, .int (nI (i + 1))), (0, .ref m0), (1, .int 9), (3, .int (nI p0)), (5, .int (nI x)), (6, .int (nI s3))], [], M1) _
          refine ps_st (S' := (268, [(0, .ref m0), (1, .int 9), (3, .int (nI p0)), (5, .int (nI x)), (6, .int (nI s3)), (9, .int (nI (i + 1)))], [], M1)) rfl rfl rfl ?_
          exact ih (i + 1) M1 I1 R1 hR1 hEI1 hER1 hl51 hl52 hl53 hl58 hF1 hY1 hP1 (hfe) (by omega) (hle) (by
              rw [← hs, clA_st (i := i) (by omega), if_pos (by omega)]) (h16)
        · have c_296 : ¬ ((nI (tg f E (by2 f (p0 + 2 + 2 * i)))) = 7) := of_decide_eq_false c_296
          have n_296 : ¬ (tg f E (by2 f (p0 + 2 + 2 * i)) = 7) := fun h9 => c_296 ((eq_nI (p := tg f E (by2 f (p0 + 2 + 2 * i))) (n := 7) (Nat.lt_trans (tg_lt _ _ _) (by decide)) (by decide)).mpr h9)
          refine ps_st (S' := (300, [(0, .ref m0), (1, .int 9), (3, .int (nI p0)), (5, .int (nI x)), (6, .int (nI s3)), (9, .int (nI i))], [.int 9], M1)) rfl rfl rfl ?_
          refine ps_st (S' := (301, [(0, .ref m0), (1, .int 9), (3, .int (nI p0)), (5, .int (nI x)), (6, .int (nI s3)), (9, .int (nI i))], [.int 2, .int 9], M1)) rfl rfl rfl ?_
          refine ps_if2 (S1 := (309, [(0, .ref m0), (1, .int 9), (3, .int (nI p0)), (5, .int (nI x)), (6, .int (nI s3)), (9, .int (nI i))], [], M1)) (S2 := (304, [(0, .ref m0), (1, .int 9), (3, .int (nI p0)), (5, .int (nI x)), (6, .int (nI s3)), (9, .int (nI i))], [], M1)) rfl rfl rfl (fun c_301 => ?_) (fun c_301 => ?_)
          rotate_left
          · exact absurd (by decide) (of_decide_eq_false c_301)
          refine ps_st (S' := (310, [(0, .ref m0), (1, .int 9), (3, .int (nI p0)), (5, .int (nI x)), (6, .int (nI s3)), (9, .int (nI i))], [.int 9], M1)) rfl rfl rfl ?_
          refine ps_st (S' := (312, [(0, .ref m0), (1, .int 9), (3, .int (nI p0)), (5, .int (nI x)), (6, .int (nI s3)), (9, .int (nI i))], [.int 7, .int 9], M1)) rfl rfl rfl ?_
          refine ps_if2 (S1 := (320, [(0, .ref m0), (1, .int 9), (3, .int (nI p0)), (5, .int (nI x)), (6, .int (nI s3)), (9, .int (nI i))], [], M1)) (S2 := (315, [(0, .ref m0), (1, .int 9), (3, .int (nI p0)), (5, .int (nI x)), (6, .int (nI s3)), (9, .int (nI i))], [], M1)) rfl rfl rfl (fun c_312 => ?_) (fun c_312 => ?_)
          rotate_left
          · exact absurd (by decide) (of_decide_eq_false c_312)
          refine ps_st (S' := (322, [], [.int 36], M1)) rfl rfl rfl ?_
          exact ps_ret rfl rfl (Or.inr (Or.inl ⟨I1, R1, hfe, Or.inl (by rw [← hs, clA_st (i := i) (by omega), if_neg (by omega)]), rfl, hR1, hEI1, hER1⟩))
  refine ps_st (S' := (1, [(0, .ref m0), (1, .int 9), (2, .int t), (3, .int (nI p0)), (4, .int (nI e)), (5, .int (nI x)), (6, .int (nI s3))], [.int 9], M)) rfl rfl rfl ?_
  refine ps_st (S' := (219, [(0, .ref m0), (1, .int 9), (2, .int t), (3, .int (nI p0)), (4, .int (nI e)), (5, .int (nI x)), (6, .int (nI s3))], [], M)) rfl rfl rfl ?_
  refine ps_st (S' := (221, [(0, .ref m0), (1, .int 9), (2, .int t), (3, .int (nI p0)), (4, .int (nI e)), (5, .int (nI x)), (6, .int (nI s3))], [.int (nI e)], M)) rfl rfl rfl ?_
  refine ps_st (S' := (222, [(0, .ref m0), (1, .int 9), (2, .int t), (3, .int (nI p0)), (4, .int (nI e)), (5, .int (nI x)), (6, .int (nI s3))], [.int (nI p0), .int (nI e)], M)) rfl rfl rfl ?_
  refine ps_st (S' := (223, [(0, .ref m0), (1, .int 9), (2, .int t), (3, .int (nI p0)), (4, .int (nI e)), (5, .int (nI x)), (6, .int (nI s3))], [.int ((nI e) - (nI p0))], M)) rfl rfl rfl ?_
  rw [nI_sub1 (p := e) (k := p0) (x := (nI p0)) rfl (by omega) (by omega)]
  show pl _ _ _ (_, [(0, .ref m0), (1, .int 9), (2, .int t), (3, .int (nI p0)), (4, .int (nI e)), (5, .int (nI x)), (6, .int (nI s3))], [.int (nI (e - p0))], M) _
  refine ps_st (S' := (224, [(0, .ref m0), (1, .int 9), (2, .int t), (3, .int (nI p0)), (4, .int (nI e)), (5, .int (nI x)), (6, .int (nI s3))], [.int 2, .int (nI (e - p0))], M)) rfl rfl rfl ?_
  refine ps_if2 (S1 := (243, [], [], M)) (S2 := (227, [(0, .ref m0), (1, .int 9), (2, .int t), (3, .int (nI p0)), (4, .int (nI e)), (5, .int (nI x)), (6, .int (nI s3))], [], M)) rfl rfl rfl (fun c_224 => ?_) (fun c_224 => ?_)
  · have c_224 : (nI (e - p0)) < 2 := of_decide_eq_true c_224
    have n_224 : e - p0 < 2 := (lt_nI (p := e - p0) (n := 2) (by omega) (by decide)).mp c_224
    refine ps_st (S' := (245, [], [.int 30], M)) rfl rfl rfl ?_
    exact ps_ret rfl rfl (Or.inl ⟨I, R, fe_2 (by omega), rfl, hR, hEI, hER⟩)
  · have c_224 : ¬ ((nI (e - p0)) < 2) := of_decide_eq_false c_224
    have n_224 : ¬ (e - p0 < 2) := fun h9 => c_224 ((lt_nI (p := e - p0) (n := 2) (by omega) (by decide)).mpr h9)
    refine ps_st (S' := (229, [(0, .ref m0), (1, .int 9), (2, .int t), (3, .int (nI p0)), (4, .int (nI e)), (5, .int (nI x)), (6, .int (nI s3))], [.int (nI e)], M)) rfl rfl rfl ?_
    refine ps_st (S' := (230, [(0, .ref m0), (1, .int 9), (2, .int t), (3, .int (nI p0)), (4, .int (nI e)), (5, .int (nI x)), (6, .int (nI s3))], [.int (nI p0), .int (nI e)], M)) rfl rfl rfl ?_
    refine ps_st (S' := (231, [(0, .ref m0), (1, .int 9), (2, .int t), (3, .int (nI p0)), (4, .int (nI e)), (5, .int (nI x)), (6, .int (nI s3))], [.int ((nI e) - (nI p0))], M)) rfl rfl rfl ?_
    rw [nI_sub1 (p := e) (k := p0) (x := (nI p0)) rfl (by omega) (by omega)]
    show pl _ _ _ (_, [(0, .ref m0), (1, .int 9), (2, .int t), (3, .int (nI p0)), (4, .int (nI e)), (5, .int (nI x)), (6, .int (nI s3))], [.int (nI (e - p0))], M) _
    refine ps_st (S' := (232, [(0, .ref m0), (1, .int 9), (2, .int t), (3, .int (nI p0)), (4, .int (nI e)), (5, .int (nI x)), (6, .int (nI s3))], [.int 2, .int (nI (e - p0))], M)) rfl rfl rfl ?_
    refine ps_st (S' := (233, [(0, .ref m0), (1, .int 9), (2, .int t), (3, .int (nI p0)), (4, .int (nI e)), (5, .int (nI x)), (6, .int (nI s3))], [.int 2, .int 2, .int (nI (e - p0))], M)) rfl rfl rfl ?_
    refine ps_st (S' := (234, [(0, .ref m0), (1, .int 9), (2, .int t), (3, .int (nI p0)), (4, .int (nI e)), (5, .int (nI x)), (6, .int (nI s3))], [.ref m0, .int 2, .int 2, .int (nI (e - p0))], M)) rfl rfl rfl ?_
    refine ps_st (S' := (235, [(0, .ref m0), (1, .int 9), (2, .int t), (3, .int (nI p0)), (4, .int (nI e)), (5, .int (nI x)), (6, .int (nI s3))], [.int (nI p0), .ref m0, .int 2, .int 2, .int (nI (e - p0))], M)) rfl rfl rfl ?_
    refine pl_call (a := [.ref m0, .int (nI p0)]) (rest := [.int 2, .int 2, .int (nI (e - p0))]) rfl rfl rfl (rd_u2 (n := n) (f := f) (p := p0) hR hF (by omega)) (fun v26 M27 q28 => ?_)
    obtain ⟨rfl, rfl⟩ := q28
    show pl _ _ _ (238, [(0, .ref m0), (1, .int 9), (2, .int t), (3, .int (nI p0)), (4, .int (nI e)), (5, .int (nI x)), (6, .int (nI s3))], [.int (nI (by2 f p0)), .int 2, .int 2, .int (nI (e - p0))], M) _
    have hu_235 := by2_lt f p0
    refine ps_st (S' := (239, [(0, .ref m0), (1, .int 9), (2, .int t), (3, .int (nI p0)), (4, .int (nI e)), (5, .int (nI x)), (6, .int (nI s3))], [.int (2 * (nI (by2 f p0))), .int 2, .int (nI (e - p0))], M)) rfl rfl rfl ?_
    rw [nI_mul1 (p := 2) (k := by2 f p0) (x := 2) (y := (nI (by2 f p0))) rfl rfl (by omega)]
    show pl _ _ _ (_, [(0, .ref m0), (1, .int 9), (2, .int t), (3, .int (nI p0)), (4, .int (nI e)), (5, .int (nI x)), (6, .int (nI s3))], [.int (nI (2 * (by2 f p0))), .int 2, .int (nI (e - p0))], M) _
    refine ps_st (S' := (240, [(0, .ref m0), (1, .int 9), (2, .int t), (3, .int (nI p0)), (4, .int (nI e)), (5, .int (nI x)), (6, .int (nI s3))], [.int (2 + (nI (2 * (by2 f p0)))), .int (nI (e - p0))], M)) rfl rfl rfl ?_
    rw [nI_add2 (p := 2) (k := 2 * (by2 f p0)) (x := 2) (y := (nI (2 * (by2 f p0)))) rfl rfl (by omega)]
    show pl _ _ _ (_, [(0, .ref m0), (1, .int 9), (2, .int t), (3, .int (nI p0)), (4, .int (nI e)), (5, .int (nI x)), (6, .int (nI s3))], [.int (nI (2 + 2 * (by2 f p0))), .int (nI (e - p0))], M) _
    refine ps_if2 (S1 := (246, [(0, .ref m0), (1, .int 9), (2, .int t), (3, .int (nI p0)), (4, .int (nI e)), (5, .int (nI x)), (6, .int (nI s3))], [], M)) (S2 := (243, [], [], M)) rfl rfl rfl (fun c_240 => ?_) (fun c_240 => ?_)
    · have c_240 : (nI (e - p0)) = (nI (2 + 2 * (by2 f p0))) := of_decide_eq_true c_240
      have n_240 : e - p0 = 2 + 2 * (by2 f p0) := (eq_nI (p := e - p0) (n := 2 + 2 * (by2 f p0)) (by omega) (by omega)).mp c_240
      refine ps_st (S' := (247, [(0, .ref m0), (1, .int 9), (2, .int t), (3, .int (nI p0)), (4, .int (nI e)), (5, .int (nI x)), (6, .int (nI s3))], [.int 9], M)) rfl rfl rfl ?_
      refine ps_st (S' := (249, [(0, .ref m0), (1, .int 9), (2, .int t), (3, .int (nI p0)), (4, .int (nI e)), (5, .int (nI x)), (6, .int (nI s3))], [.int 9, .int 9], M)) rfl rfl rfl ?_
      refine ps_if2 (S1 := (265, [(0, .ref m0), (1, .int 9), (3, .int (nI p0)), (5, .int (nI x)), (6, .int (nI s3))], [], M)) (S2 := (252, [(0, .ref m0), (1, .int 9), (2, .int t), (3, .int (nI p0)), (4, .int (nI e)), (5, .int (nI x)), (6, .int (nI s3))], [], M)) rfl rfl rfl (fun c_249 => ?_) (fun c_249 => ?_)
      · exact absurd (of_decide_eq_true c_249) (by decide)
      refine ps_st (S' := (253, [(0, .ref m0), (1, .int 9), (2, .int t), (3, .int (nI p0)), (4, .int (nI e)), (5, .int (nI x)), (6, .int (nI s3))], [.ref m0], M)) rfl rfl rfl ?_
      refine pr_int (j := 58) (S' := (256, [(0, .ref m0), (1, .int 9), (2, .int t), (3, .int (nI p0)), (4, .int (nI e)), (5, .int (nI x)), (6, .int (nI s3))], [.int (nI fl)], M)) rfl hR rfl hi58 rfl ?_
      refine ps_st (S' := (258, [(0, .ref m0), (1, .int 9), (2, .int t), (3, .int (nI p0)), (4, .int (nI e)), (5, .int (nI x)), (6, .int (nI s3))], [.int 16, .int (nI fl)], M)) rfl rfl rfl ?_
      refine ps_st (S' := (259, [(0, .ref m0), (1, .int 9), (2, .int t), (3, .int (nI p0)), (4, .int (nI e)), (5, .int (nI x)), (6, .int (nI s3))], [.int ((nI fl) &&& 16)], M)) rfl rfl rfl ?_
      rw [nI_an (p := fl) (k := 16) (x := 16) rfl]
      show pl _ _ _ (_, [(0, .ref m0), (1, .int 9), (2, .int t), (3, .int (nI p0)), (4, .int (nI e)), (5, .int (nI x)), (6, .int (nI s3))], [.int (nI (aN fl 16))], M) _
      refine ps_if (S1 := (265, [(0, .ref m0), (1, .int 9), (3, .int (nI p0)), (5, .int (nI x)), (6, .int (nI s3))], [], M)) (S2 := (262, [(0, .ref m0), (1, .int 9), (2, .int t), (3, .int (nI p0)), (4, .int (nI e)), (5, .int (nI x)), (6, .int (nI s3))], [], M)) rfl rfl rfl (fun c_259 => ?_) (fun c_259 => ?_)
      · have c_259 : (nI (aN fl 16)) = 0 := of_decide_eq_true c_259
        have n_259 : aN fl 16 = 0 := (eq_nI (p := aN fl 16) (n := 0) (Nat.lt_of_le_of_lt (an_le _ _) (by decide)) (by decide)).mp c_259
        refine ps_st (S' := (266, [(0, .ref m0), (1, .int 9), (3, .int (nI p0)), (5, .int (nI x)), (6, .int (nI s3))], [.int 0], M)) rfl rfl rfl ?_
        refine ps_st (S' := (268, [(0, .ref m0), (1, .int 9), (3, .int (nI p0)), (5, .int (nI x)), (6, .int (nI s3)), (9, .int 0)], [], M)) rfl rfl rfl ?_
        exact (LL kf) (0) M I R hR hEI hER hi51 hi52 hi53 hi58 hF hY hP ((fe_c (by decide) (by omega)).trans (congrArg some (by omega))) (by omega) (by omega) (rfl) (by omega)
      · have c_259 : ¬ ((nI (aN fl 16)) = 0) := of_decide_eq_false c_259
        have n_259 : ¬ (aN fl 16 = 0) := fun h9 => c_259 ((eq_nI (p := aN fl 16) (n := 0) (Nat.lt_of_le_of_lt (an_le _ _) (by decide)) (by decide)).mpr h9)
        refine ps_st (S' := (264, [(0, .ref m0), (1, .int 9), (2, .int t), (3, .int (nI p0)), (4, .int (nI e)), (5, .int (nI x)), (6, .int (nI s3))], [.int 36], M)) rfl rfl rfl ?_
        exact ps_ret rfl rfl (Or.inr (Or.inl ⟨I, R, (fe_c (by decide) (by omega)).trans (congrArg some (by omega)), Or.inr (by omega), rfl, hR, hEI, hER⟩))
    · have c_240 : ¬ ((nI (e - p0)) = (nI (2 + 2 * (by2 f p0)))) := of_decide_eq_false c_240
      have n_240 : ¬ (e - p0 = 2 + 2 * (by2 f p0)) := fun h9 => c_240 ((eq_nI (p := e - p0) (n := 2 + 2 * (by2 f p0)) (by omega) (by omega)).mpr h9)
      refine ps_st (S' := (245, [], [.int 30], M)) rfl rfl rfl ?_
      exact ps_ret rfl rfl (Or.inl ⟨I, R, (fun h9 => (by have h8 := Option.some.inj ((fe_c (by decide) (by omega)).symm.trans h9); omega)), rfl, hR, hEI, hER⟩)
set_option maxHeartbeats 4000000 in
theorem rd_attr4 {g : xe_G} {m0 : Nat} {q : Nat → Nat} {z : Nat × Nat} {I : rI} {R : rR} {M : mi_H} {n : Nat} {f : Nat → Int32} {tx : List (List Nat)} {cN : Nat} {A : Nat → Nat} {N mj : Nat} {E : List (Nat × Nat)} {p0 e x s3 : Nat} {t : Int32} (hR : RS g m0 q z I R M) (hi51 : I 51 = some 0) (hi52 : I 52 = some (nI N)) (hi53 : I 53 = some (nI mj)) (hF : FK n f I R) (hY : SYT tx cN A I R) (hP : RPV f n E tx N I R) (hEP : EP f n E) (hN : N < 65536) (hmj : mj < 65536) (he : p0 ≤ e ∧ e ≤ n) (hs3 : s3 < 2048) : pt (mT g) 177 [.ref m0, .int 4, .int t, .int (nI p0), .int (nI e), .int (nI x), .int (nI s3)] M (fun v M' => (∃  (I' : rI) (R' : rR), (¬ s_fe f 5 p0 e = some e) ∧ v = some (.int 30) ∧ RS g m0 q z I' R' M' ∧ eqI [65] I I' ∧ eqR [] R R') ∨ (∃  (I' : rI) (R' : rR), (s_fe f 5 p0 e = some e) ∧ (inA f E (p0 + 2) (by2 f p0) 0 = 0) ∧ v = some (.int 33) ∧ RS g m0 q z I' R' M' ∧ eqI [65] I I' ∧ eqR [] R R') ∨ (∃  (I' : rI) (R' : rR), (s_fe f 5 p0 e = some e) ∧ (¬ inA f E (p0 + 2) (by2 f p0) 0 = 0) ∧ v = some (.int 0) ∧ RS g m0 q z I' R' M' ∧ eqI [65] I I' ∧ eqR [] R R')) := by
  refine pt_in (b := mb_177 g) rfl (fun kf => ?_)
  show pl (mT g) kf (mb_177 g).2 (0, [(0, .ref m0), (1, .int 4), (2, .int t), (3, .int (nI p0)), (4, .int (nI e)), (5, .int (nI x)), (6, .int (nI s3))], [], M) _
  have hEI : eqI [65] I I := eqI.rf
  have hER : eqR [] R R := eqR.rf
  have hn := hF.1
  have LL : ∀ (kf : Nat), (∀ (i : Nat) (M1 : mi_H) (I1 : rI) (R1 : rR), (RS g m0 q z I1 R1 M1) → (eqI [65] I I1) → (eqR [] R R1) → (I1 51 = some 0) → (I1 52 = some (nI N)) → (I1 53 = some (nI mj)) → (FK n f I1 R1) → (SYT tx cN A I1 R1) → (RPV f n E tx N I1 R1) → (s_fe f 5 p0 e = some e) → (i ≤ by2 f p0) → (p0 + 2 + 8 * by2 f p0 = e) → (inA f E (p0 + 2) (by2 f p0 - i) i = inA f E (p0 + 2) (by2 f p0) 0) →  pl (mT g) kf (mb_177 g).2 (431, [(0, .ref m0), (3, .int (nI p0)), (9, .int (nI i))], [], M1) (fun v M' => (∃  (I' : rI) (R' : rR), (¬ s_fe f 5 p0 e = some e) ∧ v = some (.int 30) ∧ RS g m0 q z I' R' M' ∧ eqI [65] I I' ∧ eqR [] R R') ∨ (∃  (I' : rI) (R' : rR), (s_fe f 5 p0 e = some e) ∧ (inA f E (p0 + 2) (by2 f p0) 0 = 0) ∧ v = some (.int 33) ∧ RS g m0 q z I' R' M' ∧ eqI [65] I I' ∧ eqR [] R R') ∨ (∃  (I' : rI) (R' : rR), (s_fe f 5 p0 e = some e) ∧ (¬ inA f E (p0 + 2) (by2 f p0) 0 = 0) ∧ v = some (.int 0) ∧ RS g m0 q z I' R' M' ∧ eqI [65] I I' ∧ eqR [] R R'))) := by
    intro kf
    induction kf with
    | zero => exact (by intros; exact pl_0)
    | succ kf ih =>
      intro i M1 I1 R1 hR1 hEI1 hER1 hl51 hl52 hl53 hF1 hY1 hP1 hfe hi hle hs
      have hn := hF1.1
      have hu9 := by2_lt f p0
      have hs6 := sb_lt s3 6
      have hs7 := sb_lt s3 7
      refine ps_st1 (S' := (433, [(0, .ref m0), (3, .int (nI p0)), (9, .int (nI i))], [.int (nI i)], M1)) rfl rfl rfl ?_
      refine ps_st (S' := (434, [(0, .ref m0), (3, .int (nI p0)), (9, .int (nI i))], [.ref m0, .int (nI i)], M1)) rfl rfl rfl ?_
      refine ps_st (S' := (435, [(0, .ref m0), (3, .int (nI p0)), (9, .int (nI i))], [.int (nI p0), .ref m0, .int (nI i)], M1)) rfl rfl rfl ?_
      refine pl_call (a := [.ref m0, .int (nI p0)]) (rest := [.int (nI i)]) rfl rfl rfl (rd_u2 (n := n) (f := f) (p := p0) hR1 hF1 (by omega)) (fun v1 M2 q3 => ?_)
      obtain ⟨rfl, rfl⟩ := q3
      show pl _ _ _ (438, [(0, .ref m0), (3, .int (nI p0)), (9, .int (nI i))], [.int (nI (by2 f p0)), .int (nI i)], M1) _
      have hu_435 := by2_lt f p0
      refine ps_if2 (S1 := (531, [(0, .ref m0), (3, .int (nI p0)), (9, .int (nI i))], [], M1)) (S2 := (441, [(0, .ref m0), (3, .int (nI p0)), (9, .int (nI i))], [], M1)) rfl rfl rfl (fun c_438 => ?_) (fun c_438 => ?_)
      · have c_438 : (nI (by2 f p0)) ≤ (nI i) := of_decide_eq_true c_438
        have n_438 : by2 f p0 ≤ i := (le_nI (p := by2 f p0) (n := i) (Nat.lt_trans (by2_lt _ _) (by decide)) (by omega)).mp c_438
        refine ps_st (S' := (532, [(0, .ref m0), (3, .int (nI p0)), (9, .int (nI i))], [.ref m0], M1)) rfl rfl rfl ?_
        refine ps_st (S' := (533, [(0, .ref m0), (3, .int (nI p0)), (9, .int (nI i))], [.ref m0, .ref m0], M1)) rfl rfl rfl ?_
        refine ps_st (S' := (534, [(0, .ref m0), (3, .int (nI p0)), (9, .int (nI i))], [.int (nI p0), .ref m0, .ref m0], M1)) rfl rfl rfl ?_
        refine pl_call (a := [.ref m0, .int (nI p0)]) (rest := [.ref m0]) rfl rfl rfl (rd_u2 (n := n) (f := f) (p := p0) hR1 hF1 (by omega)) (fun v4 M5 q6 => ?_)
        obtain ⟨rfl, rfl⟩ := q6
        show pl _ _ _ (537, [(0, .ref m0), (3, .int (nI p0)), (9, .int (nI i))], [.int (nI (by2 f p0)), .ref m0], M1) _
        have hu_534 := by2_lt f p0
        refine pr_put (j := 65) rfl hR1 rfl (fun M7 I8 hR9 hi10 hI11 => ?_)
        have hi12 := (hI11 51 (by decide)).trans hl51
        have hi13 := (hI11 52 (by decide)).trans hl52
        have hi14 := (hI11 53 (by decide)).trans hl53
        have hF_15 := hF1.mono (pIx hI11 (by decide)) (fun _ _ => rfl)
        have hY_16 := hY1.mono (pIx hI11 (by decide)) (fun _ _ => rfl)
        have hP_17 := hP1.mono (pIx hI11 (by decide)) (fun _ _ => rfl)
        have hEI18 := hEI1.put hI11 (by decide)
        show pl _ _ _ (540, [(0, .ref m0), (3, .int (nI p0)), (9, .int (nI i))], [], M7) _
        refine ps_st (S' := (541, [(0, .ref m0), (3, .int (nI p0)), (9, .int (nI i))], [.int 0], M7)) rfl rfl rfl ?_
        exact ps_ret rfl rfl (Or.inr (Or.inr ⟨I8, R1, hfe, by rw [← hs, show by2 f p0 - i = 0 by omega]; exact Nat.one_ne_zero, rfl, hR9, hEI18, hER1⟩))
      · have c_438 : ¬ ((nI (by2 f p0)) ≤ (nI i)) := of_decide_eq_false c_438
        have n_438 : ¬ (by2 f p0 ≤ i) := fun h9 => c_438 ((le_nI (p := by2 f p0) (n := i) (Nat.lt_trans (by2_lt _ _) (by decide)) (by omega)).mpr h9)
        refine ps_st (S' := (442, [(0, .ref m0), (3, .int (nI p0)), (9, .int (nI i))], [.int (nI p0)], M1)) rfl rfl rfl ?_
        refine ps_st (S' := (443, [(0, .ref m0), (3, .int (nI p0)), (9, .int (nI i))], [.int 2, .int (nI p0)], M1)) rfl rfl rfl ?_
        refine ps_st (S' := (444, [(0, .ref m0), (3, .int (nI p0)), (9, .int (nI i))], [.int ((nI p0) + 2)], M1)) rfl rfl rfl ?_
        rw [nI_add1 (p := p0) (k := 2) (x := 2) rfl (by omega)]
        show pl _ _ _ (_, [(0, .ref m0), (3, .int (nI p0)), (9, .int (nI i))], [.int (nI (p0 + 2))], M1) _
        refine ps_st (S' := (446, [(0, .ref m0), (3, .int (nI p0)), (9, .int (nI i))], [.int 8, .int (nI (p0 + 2))], M1)) rfl rfl rfl ?_
        refine ps_st (S' := (448, [(0, .ref m0), (3, .int (nI p0)), (9, .int (nI i))], [.int (nI i), .int 8, .int (nI (p0 + 2))], M1)) rfl rfl rfl ?_
        refine ps_st (S' := (449, [(0, .ref m0), (3, .int (nI p0)), (9, .int (nI i))], [.int (8 * (nI i)), .int (nI (p0 + 2))], M1)) rfl rfl rfl ?_
        rw [nI_mul1 (p := 8) (k := i) (x := 8) (y := (nI i)) rfl rfl (by omega)]
        show pl _ _ _ (_, [(0, .ref m0), (3, .int (nI p0)), (9, .int (nI i))], [.int (nI (8 * i)), .int (nI (p0 + 2))], M1) _
        refine ps_st (S' := (450, [(0, .ref m0), (3, .int (nI p0)), (9, .int (nI i))], [.int ((nI (p0 + 2)) + (nI (8 * i)))], M1)) rfl rfl rfl ?_
        rw [nI_add1 (p := p0 + 2) (k := 8 * i) (x := (nI (8 * i))) rfl (by omega)]
        show pl _ _ _ (_, [(0, .ref m0), (3, .int (nI p0)), (9, .int (nI i))], [.int (nI (p0 + 2 + 8 * i))], M1) _
        refine ps_st (S' := (452, [(10, .int (nI (p0 + 2 + 8 * i))), (0, .ref m0), (3, .int (nI p0)), (9, .int (nI i))], [], M1)) rfl rfl rfl ?_
        refine ps_st (S' := (453, [(10, .int (nI (p0 + 2 + 8 * i))), (0, .ref m0), (3, .int (nI p0)), (9, .int (nI i))], [.ref m0], M1)) rfl rfl rfl ?_
        refine ps_st (S' := (454, [(10, .int (nI (p0 + 2 + 8 * i))), (0, .ref m0), (3, .int (nI p0)), (9, .int (nI i))], [.ref m0, .ref m0], M1)) rfl rfl rfl ?_
        refine ps_st (S' := (456, [(10, .int (nI (p0 + 2 + 8 * i))), (0, .ref m0), (3, .int (nI p0)), (9, .int (nI i))], [.int (nI (p0 + 2 + 8 * i)), .ref m0, .ref m0], M1)) rfl rfl rfl ?_
        refine pl_call (a := [.ref m0, .int (nI (p0 + 2 + 8 * i))]) (rest := [.ref m0]) rfl rfl rfl (rd_u2 (n := n) (f := f) (p := (p0 + 2 + 8 * i)) hR1 hF1 (by omega)) (fun v19 M20 q21 => ?_)
        obtain ⟨rfl, rfl⟩ := q21
        show pl _ _ _ (459, [(10, .int (nI (p0 + 2 + 8 * i))), (0, .ref m0), (3, .int (nI p0)), (9, .int (nI i))], [.int (nI (by2 f (p0 + 2 + 8 * i))), .ref m0], M1) _
        have hu_456 := by2_lt f (p0 + 2 + 8 * i)
        refine pl_call (a := [.ref m0, .int (nI (by2 f (p0 + 2 + 8 * i)))]) (rest := []) rfl rfl rfl (rd_tag (n := n) (f := f) (tx := tx) (cN := cN) (A := A) (N := N) (mj := mj) (E := E) (k := (by2 f (p0 + 2 + 8 * i))) hR1 hl51 hl52 hl53 hF1 hY1 hP1 (hEP) (hN) (hmj) (by2_lt _ _)) (fun v22 M23 q24 => ?_)
        obtain ⟨rfl, rfl⟩ := q24
        show pl _ _ _ (462, [(10, .int (nI (p0 + 2 + 8 * i))), (0, .ref m0), (3, .int (nI p0)), (9, .int (nI i))], [.int (nI (tg f E (by2 f (p0 + 2 + 8 * i))))], M1) _
        have htg_459 := tg_lt f E (by2 f (p0 + 2 + 8 * i))
        refine ps_st (S' := (464, [(10, .int (nI (p0 + 2 + 8 * i))), (0, .ref m0), (3, .int (nI p0)), (9, .int (nI i))], [.int 7, .int (nI (tg f E (by2 f (p0 + 2 + 8 * i))))], M1)) rfl rfl rfl ?_
        refine ps_if2 (S1 := (522, [], [], M1)) (S2 := (467, [(10, .int (nI (p0 + 2 + 8 * i))), (0, .ref m0), (3, .int (nI p0)), (9, .int (nI i))], [], M1)) rfl rfl rfl (fun c_464 => ?_) (fun c_464 => ?_)
        · have c_464 : ¬ (nI (tg f E (by2 f (p0 + 2 + 8 * i)))) = 7 := of_decide_eq_true c_464
          have n_464 : ¬ (tg f E (by2 f (p0 + 2 + 8 * i)) = 7) := fun h9 => c_464 ((eq_nI (p := tg f E (by2 f (p0 + 2 + 8 * i))) (n := 7) (Nat.lt_trans (tg_lt _ _ _) (by decide)) (by decide)).mpr h9)
          refine ps_st (S' := (524, [], [.int 33], M1)) rfl rfl rfl ?_
          exact ps_ret rfl rfl (Or.inr (Or.inl ⟨I1, R1, hfe, by rw [← hs, inA_st (i := i) (by omega), if_pos (by unfold inR; rw [if_neg (by omega)])], rfl, hR1, hEI1, hER1⟩))
        · have c_464 : ¬ (¬ (nI (tg f E (by2 f (p0 + 2 + 8 * i)))) = 7) := of_decide_eq_false c_464
          have n_464 : tg f E (by2 f (p0 + 2 + 8 * i)) = 7 := (eq_nI (p := tg f E (by2 f (p0 + 2 + 8 * i))) (n := 7) (Nat.lt_trans (tg_lt _ _ _) (by decide)) (by decide)).mp (Decidable.not_not.mp c_464)
          refine ps_st (S' := (468, [(10, .int (nI (p0 + 2 + 8 * i))), (0, .ref m0), (3, .int (nI p0)), (9, .int (nI i))], [.ref m0], M1)) rfl rfl rfl ?_
          refine ps_st (S' := (470, [(10, .int (nI (p0 + 2 + 8 * i))), (0, .ref m0), (3, .int (nI p0)), (9, .int (nI i))], [.int (nI (p0 + 2 + 8 * i)), .ref m0], M1)) rfl rfl rfl ?_
          refine ps_st (S' := (471, [(10, .int (nI (p0 + 2 + 8 * i))), (0, .ref m0), (3, .int (nI p0)), (9, .int (nI i))], [.int 2, .int (nI (p0 + 2 + 8 * i)), .ref m0], M1)) rfl rfl rfl ?_
          refine ps_st (S' := (472, [(10, .int (nI (p0 + 2 + 8 * i))), (0, .ref m0), (3, .int (nI p0)), (9, .int (nI i))], [.int ((nI (p0 + 2 + 8 * i)) + 2), .ref m0], M1)) rfl rfl rfl ?_
          rw [nI_add1 (p := p0 + 2 + 8 * i) (k := 2) (x := 2) rfl (by omega)]
          show pl _ _ _ (_, [(10, .int (nI (p0 + 2 + 8 * i))), (0, .ref m0), (3, .int (nI p0)), (9, .int (nI i))], [.int (nI (p0 + 2 + 8 * i + 2)), .ref m0], M1) _
          refine pl_call (a := [.ref m0, .int (nI (p0 + 2 + 8 * i + 2))]) (rest := []) rfl rfl rfl (rd_u2 (n := n) (f := f) (p := (p0 + 2 + 8 * i + 2)) hR1 hF1 (by omega)) (fun v25 M26 q27 => ?_)
          obtain ⟨rfl, rfl⟩ := q27
          show pl _ _ _ (475, [(10, .int (nI (p0 + 2 + 8 * i))), (0, .ref m0), (3, .int (nI p0)), (9, .int (nI i))], [.int (nI (by2 f (p0 + 2 + 8 * i + 2)))], M1) _
          have hu_472 := by2_lt f (p0 + 2 + 8 * i + 2)
          refine ps_if (S1 := (495, [(0, .ref m0), (3, .int (nI p0)), (9, .int (nI i)), (10, .int (nI (p0 + 2 + 8 * i)))], [], M1)) (S2 := (478, [(10, .int (nI (p0 + 2 + 8 * i))), (0, .ref m0), (3, .int (nI p0)), (9, .int (nI i))], [], M1)) rfl rfl rfl (fun c_475 => ?_) (fun c_475 => ?_)
          · have c_475 : (nI (by2 f (p0 + 2 + 8 * i + 2))) = 0 := of_decide_eq_true c_475
            have n_475 : by2 f (p0 + 2 + 8 * i + 2) = 0 := (eq_nI (p := by2 f (p0 + 2 + 8 * i + 2)) (n := 0) (Nat.lt_trans (by2_lt _ _) (by decide)) (by decide)).mp c_475
            refine ps_st (S' := (496, [(0, .ref m0), (3, .int (nI p0)), (9, .int (nI i)), (10, .int (nI (p0 + 2 + 8 * i)))], [.ref m0], M1)) rfl rfl rfl ?_
            refine ps_st (S' := (498, [(0, .ref m0), (3, .int (nI p0)), (9, .int (nI i)), (10, .int (nI (p0 + 2 + 8 * i)))], [.int (nI (p0 + 2 + 8 * i)), .ref m0], M1)) rfl rfl rfl ?_
            refine ps_st (S' := (499, [(0, .ref m0), (3, .int (nI p0)), (9, .int (nI i)), (10, .int (nI (p0 + 2 + 8 * i)))], [.int 4, .int (nI (p0 + 2 + 8 * i)), .ref m0], M1)) rfl rfl rfl ?_
            refine ps_st (S' := (500, [(0, .ref m0), (3, .int (nI p0)), (9, .int (nI i)), (10, .int (nI (p0 + 2 + 8 * i)))], [.int ((nI (p0 + 2 + 8 * i)) + 4), .ref m0], M1)) rfl rfl rfl ?_
            rw [nI_add1 (p := p0 + 2 + 8 * i) (k := 4) (x := 4) rfl (by omega)]
            show pl _ _ _ (_, [(0, .ref m0), (3, .int (nI p0)), (9, .int (nI i)), (10, .int (nI (p0 + 2 + 8 * i)))], [.int (nI (p0 + 2 + 8 * i + 4)), .ref m0], M1) _
            refine pl_call (a := [.ref m0, .int (nI (p0 + 2 + 8 * i + 4))]) (rest := []) rfl rfl rfl (rd_u2 (n := n) (f := f) (p := (p0 + 2 + 8 * i + 4)) hR1 hF1 (by omega)) (fun v28 M29 q30 => ?_)
            obtain ⟨rfl, rfl⟩ := q30
            show pl _ _ _ (503, [(0, .ref m0), (3, .int (nI p0)), (9, .int (nI i)), (10, .int (nI (p0 + 2 + 8 * i)))], [.int (nI (by2 f (p0 + 2 + 8 * i + 4)))], M1) _
            have hu_500 := by2_lt f (p0 + 2 + 8 * i + 4)
            refine ps_if (S1 := (525, [(0, .ref m0), (3, .int (nI p0)), (9, .int (nI i))], [], M1)) (S2 := (506, [(0, .ref m0), (3, .int (nI p0)), (9, .int (nI i)), (10, .int (nI (p0 + 2 + 8 * i)))], [], M1)) rfl rfl rfl (fun c_503 => ?_) (fun c_503 => ?_)
            · have c_503 : (nI (by2 f (p0 + 2 + 8 * i + 4))) = 0 := of_decide_eq_true c_503
              have n_503 : by2 f (p0 + 2 + 8 * i + 4) = 0 := (eq_nI (p := by2 f (p0 + 2 + 8 * i + 4)) (n := 0) (Nat.lt_trans (by2_lt _ _) (by decide)) (by decide)).mp c_503
              refine ps_st (S' := (528, [(9, .int ((nI i) + 1)), (0, .ref m0), (3, .int (nI p0))], [], M1)) rfl rfl rfl ?_
              rw [nI_add1 (p := i) (k := 1) (x := 1) rfl (by omega)]
              show pl _ _ _ (_, [(9, .int (nI (i + 1))), (0, .ref m0), (3, .int (nI p0))], [], M1) _
              refine ps_st (S' := (431, [(0, .ref m0), (3, .int (nI p0)), (9, .int (nI (i + 1)))], [], M1)) rfl rfl rfl ?_
              exact ih (i + 1) M1 I1 R1 hR1 hEI1 hER1 hl51 hl52 hl53 hF1 hY1 hP1 (hfe) (by omega) (hle) (by
                  rw [← hs, inA_st (i := i) (by omega), if_neg (by unfold inR; rw [if_pos (by omega)]; decide)])
            · have c_503 : ¬ ((nI (by2 f (p0 + 2 + 8 * i + 4))) = 0) := of_decide_eq_false c_503
              have n_503 : ¬ (by2 f (p0 + 2 + 8 * i + 4) = 0) := fun h9 => c_503 ((eq_nI (p := by2 f (p0 + 2 + 8 * i + 4)) (n := 0) (Nat.lt_trans (by2_lt _ _) (by decide)) (by decide)).mpr h9)
              refine ps_st (S' := (507, [(0, .ref m0), (3, .int (nI p0)), (9, .int (nI i)), (10, .int (nI (p0 + 2 + 8 * i)))], [.ref m0], M1)) rfl rfl rfl ?_
              refine ps_st (S' := (508, [(0, .ref m0), (3, .int (nI p0)), (9, .int (nI i)), (10, .int (nI (p0 + 2 + 8 * i)))], [.ref m0, .ref m0], M1)) rfl rfl rfl ?_
              refine ps_st (S' := (510, [(0, .ref m0), (3, .int (nI p0)), (9, .int (nI i)), (10, .int (nI (p0 + 2 + 8 * i)))], [.int (nI (p0 + 2 + 8 * i)), .ref m0, .ref m0], M1)) rfl rfl rfl ?_
              refine ps_st (S' := (511, [(0, .ref m0), (3, .int (nI p0)), (9, .int (nI i)), (10, .int (nI (p0 + 2 + 8 * i)))], [.int 4, .int (nI (p0 + 2 + 8 * i)), .ref m0, .ref m0], M1)) rfl rfl rfl ?_
              refine ps_st (S' := (512, [(0, .ref m0), (3, .int (nI p0)), (9, .int (nI i)), (10, .int (nI (p0 + 2 + 8 * i)))], [.int ((nI (p0 + 2 + 8 * i)) + 4), .ref m0, .ref m0], M1)) rfl rfl rfl ?_
              rw [nI_add1 (p := p0 + 2 + 8 * i) (k := 4) (x := 4) rfl (by omega)]
              show pl _ _ _ (_, [(0, .ref m0), (3, .int (nI p0)), (9, .int (nI i)), (10, .int (nI (p0 + 2 + 8 * i)))], [.int (nI (p0 + 2 + 8 * i + 4)), .ref m0, .ref m0], M1) _
              refine pl_call (a := [.ref m0, .int (nI (p0 + 2 + 8 * i + 4))]) (rest := [.ref m0]) rfl rfl rfl (rd_u2 (n := n) (f := f) (p := (p0 + 2 + 8 * i + 4)) hR1 hF1 (by omega)) (fun v31 M32 q33 => ?_)
              obtain ⟨rfl, rfl⟩ := q33
              show pl _ _ _ (515, [(0, .ref m0), (3, .int (nI p0)), (9, .int (nI i)), (10, .int (nI (p0 + 2 + 8 * i)))], [.int (nI (by2 f (p0 + 2 + 8 * i + 4))), .ref m0], M1) _
              have hu_512 := by2_lt f (p0 + 2 + 8 * i + 4)
              refine pl_call (a := [.ref m0, .int (nI (by2 f (p0 + 2 + 8 * i + 4)))]) (rest := []) rfl rfl rfl (rd_tag (n := n) (f := f) (tx := tx) (cN := cN) (A := A) (N := N) (mj := mj) (E := E) (k := (by2 f (p0 + 2 + 8 * i + 4))) hR1 hl51 hl52 hl53 hF1 hY1 hP1 (hEP) (hN) (hmj) (by2_lt _ _)) (fun v34 M35 q36 => ?_)
              obtain ⟨rfl, rfl⟩ := q36
              show pl _ _ _ (518, [(0, .ref m0), (3, .int (nI p0)), (9, .int (nI i)), (10, .int (nI (p0 + 2 + 8 * i)))], [.int (nI (tg f E (by2 f (p0 + 2 + 8 * i + 4))))], M1) _
              have htg_515 := tg_lt f E (by2 f (p0 + 2 + 8 * i + 4))
              refine ps_st (S' := (519, [(0, .ref m0), (3, .int (nI p0)), (9, .int (nI i)), (10, .int (nI (p0 + 2 + 8 * i)))], [.int 1, .int (nI (tg f E (by2 f (p0 + 2 + 8 * i + 4))))], M1)) rfl rfl rfl ?_
              refine ps_if2 (S1 := (525, [(0, .ref m0), (3, .int (nI p0)), (9, .int (nI i))], [], M1)) (S2 := (522, [], [], M1)) rfl rfl rfl (fun c_519 => ?_) (fun c_519 => ?_)
              · have c_519 : (nI (tg f E (by2 f (p0 + 2 + 8 * i + 4)))) = 1 := of_decide_eq_true c_519
                have n_519 : tg f E (by2 f (p0 + 2 + 8 * i + 4)) = 1 := (eq_nI (p := tg f E (by2 f (p0 + 2 + 8 * i + 4))) (n := 1) (Nat.lt_trans (tg_lt _ _ _) (by decide)) (by decide)).mp c_519
                refine ps_st (S' := (528, [(9, .int ((nI i) + 1)), (0, .ref m0), (3, .int (nI p0))], [], M1)) rfl rfl rfl ?_
                rw [nI_add1 (p := i) (k := 1) (x := 1) rfl (by omega)]
                show pl _ _ _ (_, [(9, .int (nI (i + 1))), (0, .ref m0), (3, .int (nI p0))], [], M1) _
                refine ps_st (S' := (431, [(0, .ref m0), (3, .int (nI p0)), (9, .int (nI (i + 1)))], [], M1)) rfl rfl rfl ?_
                exact ih (i + 1) M1 I1 R1 hR1 hEI1 hER1 hl51 hl52 hl53 hF1 hY1 hP1 (hfe) (by omega) (hle) (by
                    rw [← hs, inA_st (i := i) (by omega), if_neg (by unfold inR; rw [if_pos (by omega)]; decide)])
              · have c_519 : ¬ ((nI (tg f E (by2 f (p0 + 2 + 8 * i + 4)))) = 1) := of_decide_eq_false c_519
                have n_519 : ¬ (tg f E (by2 f (p0 + 2 + 8 * i + 4)) = 1) := fun h9 => c_519 ((eq_nI (p := tg f E (by2 f (p0 + 2 + 8 * i + 4))) (n := 1) (Nat.lt_trans (tg_lt _ _ _) (by decide)) (by decide)).mpr h9)
                refine ps_st (S' := (524, [], [.int 33], M1)) rfl rfl rfl ?_
                exact ps_ret rfl rfl (Or.inr (Or.inl ⟨I1, R1, hfe, by rw [← hs, inA_st (i := i) (by omega), if_pos (by unfold inR; rw [if_neg (by omega)])], rfl, hR1, hEI1, hER1⟩))
          · have c_475 : ¬ ((nI (by2 f (p0 + 2 + 8 * i + 2))) = 0) := of_decide_eq_false c_475
            have n_475 : ¬ (by2 f (p0 + 2 + 8 * i + 2) = 0) := fun h9 => c_475 ((eq_nI (p := by2 f (p0 + 2 + 8 * i + 2)) (n := 0) (Nat.lt_trans (by2_lt _ _) (by decide)) (by decide)).mpr h9)
            refine ps_st (S' := (479, [(10, .int (nI (p0 + 2 + 8 * i))), (0, .ref m0), (3, .int (nI p0)), (9, .int (nI i))], [.ref m0], M1)) rfl rfl rfl ?_
            refine ps_st (S' := (480, [(10, .int (nI (p0 + 2 + 8 * i))), (0, .ref m0), (3, .int (nI p0)), (9, .int (nI i))], [.ref m0, .ref m0], M1)) rfl rfl rfl ?_
            refine ps_st (S' := (482, [(10, .int (nI (p0 + 2 + 8 * i))), (0, .ref m0), (3, .int (nI p0)), (9, .int (nI i))], [.int (nI (p0 + 2 + 8 * i)), .ref m0, .ref m0], M1)) rfl rfl rfl ?_
            refine ps_st (S' := (483, [(10, .int (nI (p0 + 2 + 8 * i))), (0, .ref m0), (3, .int (nI p0)), (9, .int (nI i))], [.int 2, .int (nI (p0 + 2 + 8 * i)), .ref m0, .ref m0], M1)) rfl rfl rfl ?_
            refine ps_st (S' := (484, [(10, .int (nI (p0 + 2 + 8 * i))), (0, .ref m0), (3, .int (nI p0)), (9, .int (nI i))], [.int ((nI (p0 + 2 + 8 * i)) + 2), .ref m0, .ref m0], M1)) rfl rfl rfl ?_
            rw [nI_add1 (p := p0 + 2 + 8 * i) (k := 2) (x := 2) rfl (by omega)]
            show pl _ _ _ (_, [(10, .int (nI (p0 + 2 + 8 * i))), (0, .ref m0), (3, .int (nI p0)), (9, .int (nI i))], [.int (nI (p0 + 2 + 8 * i + 2)), .ref m0, .ref m0], M1) _
            refine pl_call (a := [.ref m0, .int (nI (p0 + 2 + 8 * i + 2))]) (rest := [.ref m0]) rfl rfl rfl (rd_u2 (n := n) (f := f) (p := (p0 + 2 + 8 * i + 2)) hR1 hF1 (by omega)) (fun v37 M38 q39 => ?_)
            obtain ⟨rfl, rfl⟩ := q39
            show pl _ _ _ (487, [(10, .int (nI (p0 + 2 + 8 * i))), (0, .ref m0), (3, .int (nI p0)), (9, .int (nI i))], [.int (nI (by2 f (p0 + 2 + 8 * i + 2))), .ref m0], M1) _
            have hu_484 := by2_lt f (p0 + 2 + 8 * i + 2)
            refine pl_call (a := [.ref m0, .int (nI (by2 f (p0 + 2 + 8 * i + 2)))]) (rest := []) rfl rfl rfl (rd_tag (n := n) (f := f) (tx := tx) (cN := cN) (A := A) (N := N) (mj := mj) (E := E) (k := (by2 f (p0 + 2 + 8 * i + 2))) hR1 hl51 hl52 hl53 hF1 hY1 hP1 (hEP) (hN) (hmj) (by2_lt _ _)) (fun v40 M41 q42 => ?_)
            obtain ⟨rfl, rfl⟩ := q42
            show pl _ _ _ (490, [(10, .int (nI (p0 + 2 + 8 * i))), (0, .ref m0), (3, .int (nI p0)), (9, .int (nI i))], [.int (nI (tg f E (by2 f (p0 + 2 + 8 * i + 2))))], M1) _
            have htg_487 := tg_lt f E (by2 f (p0 + 2 + 8 * i + 2))
            refine ps_st (S' := (492, [(10, .int (nI (p0 + 2 + 8 * i))), (0, .ref m0), (3, .int (nI p0)), (9, .int (nI i))], [.int 7, .int (nI (tg f E (by2 f (p0 + 2 + 8 * i + 2))))], M1)) rfl rfl rfl ?_
            refine ps_if2 (S1 := (522, [], [], M1)) (S2 := (495, [(0, .ref m0), (3, .int (nI p0)), (9, .int (nI i)), (10, .int (nI (p0 + 2 + 8 * i)))], [], M1)) rfl rfl rfl (fun c_492 => ?_) (fun c_492 => ?_)
            · have c_492 : ¬ (nI (tg f E (by2 f (p0 + 2 + 8 * i + 2)))) = 7 := of_decide_eq_true c_492
              have n_492 : ¬ (tg f E (by2 f (p0 + 2 + 8 * i + 2)) = 7) := fun h9 => c_492 ((eq_nI (p := tg f E (by2 f (p0 + 2 + 8 * i + 2))) (n := 7) (Nat.lt_trans (tg_lt _ _ _) (by decide)) (by decide)).mpr h9)
              refine ps_st (S' := (524, [], [.int 33], M1)) rfl rfl rfl ?_
              exact ps_ret rfl rfl (Or.inr (Or.inl ⟨I1, R1, hfe, by rw [← hs, inA_st (i := i) (by omega), if_pos (by unfold inR; rw [if_neg (by omega)])], rfl, hR1, hEI1, hER1⟩))
            · have c_492 : ¬ (¬ (nI (tg f E (by2 f (p0 + 2 + 8 * i + 2)))) = 7) := of_decide_eq_false c_492
              have n_492 : tg f E (by2 f (p0 + 2 + 8 * i + 2)) = 7 := (eq_nI (p := tg f E (by2 f (p0 + 2 + 8 * i + 2))) (n := 7) (Nat.lt_trans (tg_lt _ _ _) (by decide)) (by decide)).mp (Decidable.not_not.mp c_492)
              refine ps_st (S' := (496, [(0, .ref m0), (3, .int (nI p0)), (9, .int (nI i)), (10, .int (nI (p0 + 2 + 8 * i)))], [.ref m0], M1)) rfl rfl rfl ?_
              refine ps_st (S' := (498, [(0, .ref m0), (3, .int (nI p0)), (9, .int (nI i)), (10, .int (nI (p0 + 2 + 8 * i)))], [.int (nI (p0 + 2 + 8 * i)), .ref m0], M1)) rfl rfl rfl ?_
              refine ps_st (S' := (499, [(0, .ref m0), (3, .int (nI p0)), (9, .int (nI i)), (10, .int (nI (p0 + 2 + 8 * i)))], [.int 4, .int (nI (p0 + 2 + 8 * i)), .ref m0], M1)) rfl rfl rfl ?_
              refine ps_st (S' := (500, [(0, .ref m0), (3, .int (nI p0)), (9, .int (nI i)), (10, .int (nI (p0 + 2 + 8 * i)))], [.int ((nI (p0 + 2 + 8 * i)) + 4), .ref m0], M1)) rfl rfl rfl ?_
              rw [nI_add1 (p := p0 + 2 + 8 * i) (k := 4) (x := 4) rfl (by omega)]
              show pl _ _ _ (_, [(0, .ref m0), (3, .int (nI p0)), (9, .int (nI i)), (10, .int (nI (p0 + 2 + 8 * i)))], [.int (nI (p0 + 2 + 8 * i + 4)), .ref m0], M1) _
              refine pl_call (a := [.ref m0, .int (nI (p0 + 2 + 8 * i + 4))]) (rest := []) rfl rfl rfl (rd_u2 (n := n) (f := f) (p := (p0 + 2 + 8 * i + 4)) hR1 hF1 (by omega)) (fun v43 M44 q45 => ?_)
              obtain ⟨rfl, rfl⟩ := q45
              show pl _ _ _ (503, [(0, .ref m0), (3, .int (nI p0)), (9, .int (nI i)), (10, .int (nI (p0 + 2 + 8 * i)))], [.int (nI (by2 f (p0 + 2 + 8 * i + 4)))], M1) _
              have hu_500 := by2_lt f (p0 + 2 + 8 * i + 4)
              refine ps_if (S1 := (525, [(0, .ref m0), (3, .int (nI p0)), (9, .int (nI i))], [], M1)) (S2 := (506, [(0, .ref m0), (3, .int (nI p0)), (9, .int (nI i)), (10, .int (nI (p0 + 2 + 8 * i)))], [], M1)) rfl rfl rfl (fun c_503 => ?_) (fun c_503 => ?_)
              · have c_503 : (nI (by2 f (p0 + 2 + 8 * i + 4))) = 0 := of_decide_eq_true c_503
                have n_503 : by2 f (p0 + 2 + 8 * i + 4) = 0 := (eq_nI (p := by2 f (p0 + 2 + 8 * i + 4)) (n := 0) (Nat.lt_trans (by2_lt _ _) (by decide)) (by decide)).mp c_503
                refine ps_st (S' := (528, [(9, .int ((nI i) + 1)), (0, .ref m0), (3, .int (nI p0))], [], M1)) rfl rfl rfl ?_
                rw [nI_add1 (p := i) (k := 1) (x := 1) rfl (by omega)]
                show pl _ _ _ (_, [(9, .int (nI (i + 1))), (0, .ref m0), (3, .int (nI p0))], [], M1) _
                refine ps_st (S' := (431, [(0, .ref m0), (3, .int (nI p0)), (9, .int (nI (i + 1)))], [], M1)) rfl rfl rfl ?_
                exact ih (i + 1) M1 I1 R1 hR1 hEI1 hER1 hl51 hl52 hl53 hF1 hY1 hP1 (hfe) (by omega) (hle) (by
                    rw [← hs, inA_st (i := i) (by omega), if_neg (by unfold inR; rw [if_pos (by omega)]; decide)])
              · have c_503 : ¬ ((nI (by2 f (p0 + 2 + 8 * i + 4))) = 0) := of_decide_eq_false c_503
                have n_503 : ¬ (by2 f (p0 + 2 + 8 * i + 4) = 0) := fun h9 => c_503 ((eq_nI (p := by2 f (p0 + 2 + 8 * i + 4)) (n := 0) (Nat.lt_trans (by2_lt _ _) (by decide)) (by decide)).mpr h9)
                refine ps_st (S' := (507, [(0, .ref m0), (3, .int (nI p0)), (9, .int (nI i)), (10, .int (nI (p0 + 2 + 8 * i)))], [.ref m0], M1)) rfl rfl rfl ?_
                refine ps_st (S' := (508, [(0, .ref m0), (3, .int (nI p0)), (9, .int (nI i)), (10, .int (nI (p0 + 2 + 8 * i)))], [.ref m0, .ref m0], M1)) rfl rfl rfl ?_
                refine ps_st (S' := (510, [(0, .ref m0), (3, .int (nI p0)), (9, .int (nI i)), (10, .int (nI (p0 + 2 + 8 * i)))], [.int (nI (p0 + 2 + 8 * i)), .ref m0, .ref m0], M1)) rfl rfl rfl ?_
                refine ps_st (S' := (511, [(0, .ref m0), (3, .int (nI p0)), (9, .int (nI i)), (10, .int (nI (p0 + 2 + 8 * i)))], [.int 4, .int (nI (p0 + 2 + 8 * i)), .ref m0, .ref m0], M1)) rfl rfl rfl ?_
                refine ps_st (S' := (512, [(0, .ref m0), (3, .int (nI p0)), (9, .int (nI i)), (10, .int (nI (p0 + 2 + 8 * i)))], [.int ((nI (p0 + 2 + 8 * i)) + 4), .ref m0, .ref m0], M1)) rfl rfl rfl ?_
                rw [nI_add1 (p := p0 + 2 + 8 * i) (k := 4) (x := 4) rfl (by omega)]
                show pl _ _ _ (_, [(0, .ref m0), (3, .int (nI p0)), (9, .int (nI i)), (10, .int (nI (p0 + 2 + 8 * i)))], [.int (nI (p0 + 2 + 8 * i + 4)), .ref m0, .ref m0], M1) _
                refine pl_call (a := [.ref m0, .int (nI (p0 + 2 + 8 * i + 4))]) (rest := [.ref m0]) rfl rfl rfl (rd_u2 (n := n) (f := f) (p := (p0 + 2 + 8 * i + 4)) hR1 hF1 (by omega)) (fun v46 M47 q48 => ?_)
                obtain ⟨rfl, rfl⟩ := q48
                show pl _ _ _ (515, [(0, .ref m0), (3, .int (nI p0)), (9, .int (nI i)), (10, .int (nI (p0 + 2 + 8 * i)))], [.int (nI (by2 f (p0 + 2 + 8 * i + 4))), .ref m0], M1) _
                have hu_512 := by2_lt f (p0 + 2 + 8 * i + 4)
                refine pl_call (a := [.ref m0, .int (nI (by2 f (p0 + 2 + 8 * i + 4)))]) (rest := []) rfl rfl rfl (rd_tag (n := n) (f := f) (tx := tx) (cN := cN) (A := A) (N := N) (mj := mj) (E := E) (k := (by2 f (p0 + 2 + 8 * i + 4))) hR1 hl51 hl52 hl53 hF1 hY1 hP1 (hEP) (hN) (hmj) (by2_lt _ _)) (fun v49 M50 q51 => ?_)
                obtain ⟨rfl, rfl⟩ := q51
                show pl _ _ _ (518, [(0, .ref m0), (3, .int (nI p0)), (9, .int (nI i)), (10, .int (nI (p0 + 2 + 8 * i)))], [.int (nI (tg f E (by2 f (p0 + 2 + 8 * i + 4))))], M1) _
                have htg_515 := tg_lt f E (by2 f (p0 + 2 + 8 * i + 4))
                refine ps_st (S' := (519, [(0, .ref m0), (3, .int (nI p0)), (9, .int (nI i)), (10, .int (nI (p0 + 2 + 8 * i)))], [.int 1, .int (nI (tg f E (by2 f (p0 + 2 + 8 * i + 4))))], M1)) rfl rfl rfl ?_
                refine ps_if2 (S1 := (525, [(0, .ref m0), (3, .int (nI p0)), (9, .int (nI i))], [], M1)) (S2 := (522, [], [], M1)) rfl rfl rfl (fun c_519 => ?_) (fun c_519 => ?_)
                · have c_519 : (nI (tg f E (by2 f (p0 + 2 + 8 * i + 4)))) = 1 := of_decide_eq_true c_519
                  have n_519 : tg f E (by2 f (p0 + 2 + 8 * i + 4)) = 1 := (eq_nI (p := tg f E (by2 f (p0 + 2 + 8 * i + 4))) (n := 1) (Nat.lt_trans (tg_lt _ _ _) (by decide)) (by decide)).mp c_519
                  refine ps_st (S' := (528, [(9, .int ((nI i) + 1)), (0, .ref m0), (3, .int (nI p0))], [], M1)) rfl rfl rfl ?_
                  rw [nI_add1 (p := i) (k := 1) (x := 1) rfl (by omega)]
                  show pl _ _ _ (_, [(9, .int (nI (i + 1))), (0, .ref m0), (3, .int (nI p0))], [], M1) _
                  refine ps_st (S' := (431, [(0, .ref m0), (3, .int (nI p0)), (9, .int (nI (i + 1)))], [], M1)) rfl rfl rfl ?_
                  exact ih (i + 1) M1 I1 R1 hR1 hEI1 hER1 hl51 hl52 hl53 hF1 hY1 hP1 (hfe) (by omega) (hle) (by
                      rw [← hs, inA_st (i := i) (by omega), if_neg (by unfold inR; rw [if_pos (by omega)]; decide)])
                · have c_519 : ¬ ((nI (tg f E (by2 f (p0 + 2 + 8 * i + 4)))) = 1) := of_decide_eq_false c_519
                  have n_519 : ¬ (tg f E (by2 f (p0 + 2 + 8 * i + 4)) = 1) := fun h9 => c_519 ((eq_nI (p := tg f E (by2 f (p0 + 2 + 8 * i + 4))) (n := 1) (Nat.lt_trans (tg_lt _ _ _) (by decide)) (by decide)).mpr h9)
                  refine ps_st (S' := (524, [], [.int 33], M1)) rfl rfl rfl ?_
                  exact ps_ret rfl rfl (Or.inr (Or.inl ⟨I1, R1, hfe, by rw [← hs, inA_st (i := i) (by omega), if_pos (by unfold inR; rw [if_neg (by omega)])], rfl, hR1, hEI1, hER1⟩))
  refine ps_st (S' := (1, [(0, .ref m0), (1, .int 4), (2, .int t), (3, .int (nI p0)), (4, .int (nI e)), (5, .int (nI x)), (6, .int (nI s3))], [.int 4], M)) rfl rfl rfl ?_
  refine ps_st (S' := (400, [(0, .ref m0), (1, .int 4), (2, .int t), (3, .int (nI p0)), (4, .int (nI e)), (5, .int (nI x)), (6, .int (nI s3))], [], M)) rfl rfl rfl ?_
  refine ps_st (S' := (402, [(0, .ref m0), (1, .int 4), (2, .int t), (3, .int (nI p0)), (4, .int (nI e)), (5, .int (nI x)), (6, .int (nI s3))], [.int (nI e)], M)) rfl rfl rfl ?_
  refine ps_st (S' := (403, [(0, .ref m0), (1, .int 4), (2, .int t), (3, .int (nI p0)), (4, .int (nI e)), (5, .int (nI x)), (6, .int (nI s3))], [.int (nI p0), .int (nI e)], M)) rfl rfl rfl ?_
  refine ps_st (S' := (404, [(0, .ref m0), (1, .int 4), (2, .int t), (3, .int (nI p0)), (4, .int (nI e)), (5, .int (nI x)), (6, .int (nI s3))], [.int ((nI e) - (nI p0))], M)) rfl rfl rfl ?_
  rw [nI_sub1 (p := e) (k := p0) (x := (nI p0)) rfl (by omega) (by omega)]
  show pl _ _ _ (_, [(0, .ref m0), (1, .int 4), (2, .int t), (3, .int (nI p0)), (4, .int (nI e)), (5, .int (nI x)), (6, .int (nI s3))], [.int (nI (e - p0))], M) _
  refine ps_st (S' := (405, [(0, .ref m0), (1, .int 4), (2, .int t), (3, .int (nI p0)), (4, .int (nI e)), (5, .int (nI x)), (6, .int (nI s3))], [.int 2, .int (nI (e - p0))], M)) rfl rfl rfl ?_
  refine ps_if2 (S1 := (425, [], [], M)) (S2 := (408, [(0, .ref m0), (1, .int 4), (2, .int t), (3, .int (nI p0)), (4, .int (nI e)), (5, .int (nI x)), (6, .int (nI s3))], [], M)) rfl rfl rfl (fun c_405 => ?_) (fun c_405 => ?_)
  · have c_405 : (nI (e - p0)) < 2 := of_decide_eq_true c_405
    have n_405 : e - p0 < 2 := (lt_nI (p := e - p0) (n := 2) (by omega) (by decide)).mp c_405
    refine ps_st (S' := (427, [], [.int 30], M)) rfl rfl rfl ?_
    exact ps_ret rfl rfl (Or.inl ⟨I, R, fe_2 (by omega), rfl, hR, hEI, hER⟩)
  · have c_405 : ¬ ((nI (e - p0)) < 2) := of_decide_eq_false c_405
    have n_405 : ¬ (e - p0 < 2) := fun h9 => c_405 ((lt_nI (p := e - p0) (n := 2) (by omega) (by decide)).mpr h9)
    refine ps_st (S' := (410, [(0, .ref m0), (1, .int 4), (2, .int t), (3, .int (nI p0)), (4, .int (nI e)), (5, .int (nI x)), (6, .int (nI s3))], [.int (nI e)], M)) rfl rfl rfl ?_
    refine ps_st (S' := (411, [(0, .ref m0), (1, .int 4), (2, .int t), (3, .int (nI p0)), (4, .int (nI e)), (5, .int (nI x)), (6, .int (nI s3))], [.int (nI p0), .int (nI e)], M)) rfl rfl rfl ?_
    refine ps_st (S' := (412, [(0, .ref m0), (1, .int 4), (2, .int t), (3, .int (nI p0)), (4, .int (nI e)), (5, .int (nI x)), (6, .int (nI s3))], [.int ((nI e) - (nI p0))], M)) rfl rfl rfl ?_
    rw [nI_sub1 (p := e) (k := p0) (x := (nI p0)) rfl (by omega) (by omega)]
    show pl _ _ _ (_, [(0, .ref m0), (1, .int 4), (2, .int t), (3, .int (nI p0)), (4, .int (nI e)), (5, .int (nI x)), (6, .int (nI s3))], [.int (nI (e - p0))], M) _
    refine ps_st (S' := (413, [(0, .ref m0), (1, .int 4), (2, .int t), (3, .int (nI p0)), (4, .int (nI e)), (5, .int (nI x)), (6, .int (nI s3))], [.int 2, .int (nI (e - p0))], M)) rfl rfl rfl ?_
    refine ps_st (S' := (415, [(0, .ref m0), (1, .int 4), (2, .int t), (3, .int (nI p0)), (4, .int (nI e)), (5, .int (nI x)), (6, .int (nI s3))], [.int 8, .int 2, .int (nI (e - p0))], M)) rfl rfl rfl ?_
    refine ps_st (S' := (416, [(0, .ref m0), (1, .int 4), (2, .int t), (3, .int (nI p0)), (4, .int (nI e)), (5, .int (nI x)), (6, .int (nI s3))], [.ref m0, .int 8, .int 2, .int (nI (e - p0))], M)) rfl rfl rfl ?_
    refine ps_st (S' := (417, [(0, .ref m0), (1, .int 4), (2, .int t), (3, .int (nI p0)), (4, .int (nI e)), (5, .int (nI x)), (6, .int (nI s3))], [.int (nI p0), .ref m0, .int 8, .int 2, .int (nI (e - p0))], M)) rfl rfl rfl ?_
    refine pl_call (a := [.ref m0, .int (nI p0)]) (rest := [.int 8, .int 2, .int (nI (e - p0))]) rfl rfl rfl (rd_u2 (n := n) (f := f) (p := p0) hR hF (by omega)) (fun v52 M53 q54 => ?_)
    obtain ⟨rfl, rfl⟩ := q54
    show pl _ _ _ (420, [(0, .ref m0), (1, .int 4), (2, .int t), (3, .int (nI p0)), (4, .int (nI e)), (5, .int (nI x)), (6, .int (nI s3))], [.int (nI (by2 f p0)), .int 8, .int 2, .int (nI (e - p0))], M) _
    have hu_417 := by2_lt f p0
    refine ps_st (S' := (421, [(0, .ref m0), (1, .int 4), (2, .int t), (3, .int (nI p0)), (4, .int (nI e)), (5, .int (nI x)), (6, .int (nI s3))], [.int (8 * (nI (by2 f p0))), .int 2, .int (nI (e - p0))], M)) rfl rfl rfl ?_
    rw [nI_mul1 (p := 8) (k := by2 f p0) (x := 8) (y := (nI (by2 f p0))) rfl rfl (by omega)]
    show pl _ _ _ (_, [(0, .ref m0), (1, .int 4), (2, .int t), (3, .int (nI p0)), (4, .int (nI e)), (5, .int (nI x)), (6, .int (nI s3))], [.int (nI (8 * (by2 f p0))), .int 2, .int (nI (e - p0))], M) _
    refine ps_st (S' := (422, [(0, .ref m0), (1, .int 4), (2, .int t), (3, .int (nI p0)), (4, .int (nI e)), (5, .int (nI x)), (6, .int (nI s3))], [.int (2 + (nI (8 * (by2 f p0)))), .int (nI (e - p0))], M)) rfl rfl rfl ?_
    rw [nI_add2 (p := 2) (k := 8 * (by2 f p0)) (x := 2) (y := (nI (8 * (by2 f p0)))) rfl rfl (by omega)]
    show pl _ _ _ (_, [(0, .ref m0), (1, .int 4), (2, .int t), (3, .int (nI p0)), (4, .int (nI e)), (5, .int (nI x)), (6, .int (nI s3))], [.int (nI (2 + 8 * (by2 f p0))), .int (nI (e - p0))], M) _
    refine ps_if2 (S1 := (428, [(0, .ref m0), (1, .int 4), (2, .int t), (3, .int (nI p0)), (4, .int (nI e)), (5, .int (nI x)), (6, .int (nI s3))], [], M)) (S2 := (425, [], [], M)) rfl rfl rfl (fun c_422 => ?_) (fun c_422 => ?_)
    · have c_422 : (nI (e - p0)) = (nI (2 + 8 * (by2 f p0))) := of_decide_eq_true c_422
      have n_422 : e - p0 = 2 + 8 * (by2 f p0) := (eq_nI (p := e - p0) (n := 2 + 8 * (by2 f p0)) (by omega) (by omega)).mp c_422
      refine ps_st (S' := (429, [(0, .ref m0), (1, .int 4), (2, .int t), (3, .int (nI p0)), (4, .int (nI e)), (5, .int (nI x)), (6, .int (nI s3))], [.int 0], M)) rfl rfl rfl ?_
      refine ps_st (S' := (431, [(0, .ref m0), (3, .int (nI p0)), (9, .int 0)], [], M)) rfl rfl rfl ?_
      exact (LL kf) (0) M I R hR hEI hER hi51 hi52 hi53 hF hY hP ((fe_5 (by omega)).trans (congrArg some (by omega))) (by omega) (by omega) (rfl)
    · have c_422 : ¬ ((nI (e - p0)) = (nI (2 + 8 * (by2 f p0)))) := of_decide_eq_false c_422
      have n_422 : ¬ (e - p0 = 2 + 8 * (by2 f p0)) := fun h9 => c_422 ((eq_nI (p := e - p0) (n := 2 + 8 * (by2 f p0)) (by omega) (by omega)).mpr h9)
      refine ps_st (S' := (427, [], [.int 30], M)) rfl rfl rfl ?_
      exact ps_ret rfl rfl (Or.inl ⟨I, R, (fun h9 => (by have h8 := Option.some.inj ((fe_5 (by omega)).symm.trans h9); omega)), rfl, hR, hEI, hER⟩)
set_option maxHeartbeats 4000000 in
theorem rd_attr6 {g : xe_G} {m0 : Nat} {q : Nat → Nat} {z : Nat × Nat} {I : rI} {R : rR} {M : mi_H} {n : Nat} {f : Nat → Int32} {tx : List (List Nat)} {cN : Nat} {A : Nat → Nat} {N mj : Nat} {E : List (Nat × Nat)} {p0 e x s3 : Nat} {t : Int32} (hR : RS g m0 q z I R M) (hi51 : I 51 = some 0) (hi52 : I 52 = some (nI N)) (hi53 : I 53 = some (nI mj)) (hF : FK n f I R) (hY : SYT tx cN A I R) (hP : RPV f n E tx N I R) (hEP : EP f n E) (hN : N < 65536) (hmj : mj < 65536) (he : p0 ≤ e ∧ e ≤ n) (hs3 : s3 < 2048) : pt (mT g) 177 [.ref m0, .int 6, .int t, .int (nI p0), .int (nI e), .int (nI x), .int (nI s3)] M (fun v M' => (∃  (I' : rI) (R' : rR), (¬ s_fe f 7 p0 e = some e) ∧ v = some (.int 30) ∧ RS g m0 q z I' R' M' ∧ eqI [67] I I' ∧ eqR [] R R') ∨ (∃  (I' : rI) (R' : rR), (s_fe f 7 p0 e = some e) ∧ (¬ (tg f E (by2 f p0) = 7 ∧ sb s3 7 = 0)) ∧ v = some (.int 34) ∧ RS g m0 q z I' R' M' ∧ eqI [67] I I' ∧ eqR [] R R') ∨ (∃  (I' : rI) (R' : rR), (s_fe f 7 p0 e = some e) ∧ (tg f E (by2 f p0) = 7 ∧ sb s3 7 = 0) ∧ v = some (.int 0) ∧ RS g m0 q z I' R' M' ∧ eqI [67] I I' ∧ eqR [] R R')) := by
  refine pt_in (b := mb_177 g) rfl (fun kf => ?_)
  show pl (mT g) kf (mb_177 g).2 (0, [(0, .ref m0), (1, .int 6), (2, .int t), (3, .int (nI p0)), (4, .int (nI e)), (5, .int (nI x)), (6, .int (nI s3))], [], M) _
  have hEI : eqI [67] I I := eqI.rf
  have hER : eqR [] R R := eqR.rf
  have hn := hF.1
  have hu9 := by2_lt f p0
  have hs7 := sb_lt s3 7
  refine ps_st (S' := (1, [(0, .ref m0), (1, .int 6), (2, .int t), (3, .int (nI p0)), (4, .int (nI e)), (5, .int (nI x)), (6, .int (nI s3))], [.int 6], M)) rfl rfl rfl ?_
  refine ps_st (S' := (550, [(0, .ref m0), (1, .int 6), (2, .int t), (3, .int (nI p0)), (4, .int (nI e)), (5, .int (nI x)), (6, .int (nI s3))], [], M)) rfl rfl rfl ?_
  refine ps_st (S' := (552, [(0, .ref m0), (1, .int 6), (2, .int t), (3, .int (nI p0)), (4, .int (nI e)), (5, .int (nI x)), (6, .int (nI s3))], [.int (nI e)], M)) rfl rfl rfl ?_
  refine ps_st (S' := (553, [(0, .ref m0), (1, .int 6), (2, .int t), (3, .int (nI p0)), (4, .int (nI e)), (5, .int (nI x)), (6, .int (nI s3))], [.int (nI p0), .int (nI e)], M)) rfl rfl rfl ?_
  refine ps_st (S' := (554, [(0, .ref m0), (1, .int 6), (2, .int t), (3, .int (nI p0)), (4, .int (nI e)), (5, .int (nI x)), (6, .int (nI s3))], [.int ((nI e) - (nI p0))], M)) rfl rfl rfl ?_
  rw [nI_sub1 (p := e) (k := p0) (x := (nI p0)) rfl (by omega) (by omega)]
  show pl _ _ _ (_, [(0, .ref m0), (1, .int 6), (2, .int t), (3, .int (nI p0)), (4, .int (nI e)), (5, .int (nI x)), (6, .int (nI s3))], [.int (nI (e - p0))], M) _
  refine ps_st (S' := (555, [(0, .ref m0), (1, .int 6), (2, .int t), (3, .int (nI p0)), (4, .int (nI e)), (5, .int (nI x)), (6, .int (nI s3))], [.int 2, .int (nI (e - p0))], M)) rfl rfl rfl ?_
  refine ps_if2 (S1 := (561, [(0, .ref m0), (1, .int 6), (2, .int t), (3, .int (nI p0)), (4, .int (nI e)), (5, .int (nI x)), (6, .int (nI s3))], [], M)) (S2 := (558, [(0, .ref m0), (1, .int 6), (2, .int t), (3, .int (nI p0)), (4, .int (nI e)), (5, .int (nI x)), (6, .int (nI s3))], [], M)) rfl rfl rfl (fun c_555 => ?_) (fun c_555 => ?_)
  · have c_555 : (nI (e - p0)) = 2 := of_decide_eq_true c_555
    have n_555 : e - p0 = 2 := (eq_nI (p := e - p0) (n := 2) (by omega) (by decide)).mp c_555
    refine ps_st (S' := (562, [(0, .ref m0), (1, .int 6), (2, .int t), (3, .int (nI p0)), (4, .int (nI e)), (5, .int (nI x)), (6, .int (nI s3))], [.ref m0], M)) rfl rfl rfl ?_
    refine ps_st (S' := (563, [(0, .ref m0), (1, .int 6), (2, .int t), (3, .int (nI p0)), (4, .int (nI e)), (5, .int (nI x)), (6, .int (nI s3))], [.ref m0, .ref m0], M)) rfl rfl rfl ?_
    refine ps_st (S' := (564, [(0, .ref m0), (1, .int 6), (2, .int t), (3, .int (nI p0)), (4, .int (nI e)), (5, .int (nI x)), (6, .int (nI s3))], [.int (nI p0), .ref m0, .ref m0], M)) rfl rfl rfl ?_
    refine pl_call (a := [.ref m0, .int (nI p0)]) (rest := [.ref m0]) rfl rfl rfl (rd_u2 (n := n) (f := f) (p := p0) hR hF (by omega)) (fun v1 M2 q3 => ?_)
    obtain ⟨rfl, rfl⟩ := q3
    show pl _ _ _ (567, [(0, .ref m0), (1, .int 6), (2, .int t), (3, .int (nI p0)), (4, .int (nI e)), (5, .int (nI x)), (6, .int (nI s3))], [.int (nI (by2 f p0)), .ref m0], M) _
    have hu_564 := by2_lt f p0
    refine pl_call (a := [.ref m0, .int (nI (by2 f p0))]) (rest := []) rfl rfl rfl (rd_tag (n := n) (f := f) (tx := tx) (cN := cN) (A := A) (N := N) (mj := mj) (E := E) (k := (by2 f p0)) hR hi51 hi52 hi53 hF hY hP (hEP) (hN) (hmj) (by2_lt _ _)) (fun v4 M5 q6 => ?_)
    obtain ⟨rfl, rfl⟩ := q6
    show pl _ _ _ (570, [(0, .ref m0), (1, .int 6), (2, .int t), (3, .int (nI p0)), (4, .int (nI e)), (5, .int (nI x)), (6, .int (nI s3))], [.int (nI (tg f E (by2 f p0)))], M) _
    have htg_567 := tg_lt f E (by2 f p0)
    refine ps_st (S' := (572, [(0, .ref m0), (1, .int 6), (2, .int t), (3, .int (nI p0)), (4, .int (nI e)), (5, .int (nI x)), (6, .int (nI s3))], [.int 7, .int (nI (tg f E (by2 f p0)))], M)) rfl rfl rfl ?_
    refine ps_if2 (S1 := (586, [], [], M)) (S2 := (575, [(0, .ref m0), (1, .int 6), (2, .int t), (3, .int (nI p0)), (4, .int (nI e)), (5, .int (nI x)), (6, .int (nI s3))], [], M)) rfl rfl rfl (fun c_572 => ?_) (fun c_572 => ?_)
    · have c_572 : ¬ (nI (tg f E (by2 f p0))) = 7 := of_decide_eq_true c_572
      have n_572 : ¬ (tg f E (by2 f p0) = 7) := fun h9 => c_572 ((eq_nI (p := tg f E (by2 f p0)) (n := 7) (Nat.lt_trans (tg_lt _ _ _) (by decide)) (by decide)).mpr h9)
      refine ps_st (S' := (588, [], [.int 34], M)) rfl rfl rfl ?_
      exact ps_ret rfl rfl (Or.inr (Or.inl ⟨I, R, (fe_1 (by decide) (by omega)).trans (congrArg some (by omega)), by omega, rfl, hR, hEI, hER⟩))
    · have c_572 : ¬ (¬ (nI (tg f E (by2 f p0))) = 7) := of_decide_eq_false c_572
      have n_572 : tg f E (by2 f p0) = 7 := (eq_nI (p := tg f E (by2 f p0)) (n := 7) (Nat.lt_trans (tg_lt _ _ _) (by decide)) (by decide)).mp (Decidable.not_not.mp c_572)
      refine ps_st (S' := (577, [(0, .ref m0), (1, .int 6), (2, .int t), (3, .int (nI p0)), (4, .int (nI e)), (5, .int (nI x)), (6, .int (nI s3))], [.int (nI s3)], M)) rfl rfl rfl ?_
      refine ps_st (S' := (579, [(0, .ref m0), (1, .int 6), (2, .int t), (3, .int (nI p0)), (4, .int (nI e)), (5, .int (nI x)), (6, .int (nI s3))], [.int 7, .int (nI s3)], M)) rfl rfl rfl ?_
      refine ps_st (S' := (580, [(0, .ref m0), (1, .int 6), (2, .int t), (3, .int (nI p0)), (4, .int (nI e)), (5, .int (nI x)), (6, .int (nI s3))], [.int ((nI s3) >>> (7 &&& 31))], M)) rfl rfl rfl ?_
      refine ps_st (S' := (581, [(0, .ref m0), (1, .int 6), (2, .int t), (3, .int (nI p0)), (4, .int (nI e)), (5, .int (nI x)), (6, .int (nI s3))], [.int 1, .int ((nI s3) >>> (7 &&& 31))], M)) rfl rfl rfl ?_
      refine ps_st (S' := (582, [(0, .ref m0), (1, .int 6), (2, .int t), (3, .int (nI p0)), (4, .int (nI e)), (5, .int (nI x)), (6, .int (nI s3))], [.int (((nI s3) >>> (7 &&& 31)) &&& 1)], M)) rfl rfl rfl ?_
      rw [show (nI s3 >>> (7 &&& 31)) &&& 1 = nI (sb s3 7) from shr_k s3 (by omega) 7 (by decide)]
      show pl _ _ _ (_, [(0, .ref m0), (1, .int 6), (2, .int t), (3, .int (nI p0)), (4, .int (nI e)), (5, .int (nI x)), (6, .int (nI s3))], [.int (nI (sb s3 7))], M) _
      refine ps_st (S' := (583, [(0, .ref m0), (1, .int 6), (2, .int t), (3, .int (nI p0)), (4, .int (nI e)), (5, .int (nI x)), (6, .int (nI s3))], [.int 1, .int (nI (sb s3 7))], M)) rfl rfl rfl ?_
      refine ps_if2 (S1 := (589, [(0, .ref m0), (1, .int 6), (2, .int t), (3, .int (nI p0)), (4, .int (nI e)), (5, .int (nI x)), (6, .int (nI s3))], [], M)) (S2 := (586, [], [], M)) rfl rfl rfl (fun c_583 => ?_) (fun c_583 => ?_)
      · have c_583 : ¬ (nI (sb s3 7)) = 1 := of_decide_eq_true c_583
        have n_583 : ¬ (sb s3 7 = 1) := fun h9 => c_583 ((eq_nI (p := sb s3 7) (n := 1) (Nat.lt_trans (sb_lt _ _) (by decide)) (by decide)).mpr h9)
        refine ps_st (S' := (590, [(0, .ref m0), (1, .int 6), (2, .int t), (3, .int (nI p0)), (4, .int (nI e)), (5, .int (nI x)), (6, .int (nI s3))], [.ref m0], M)) rfl rfl rfl ?_
        refine ps_st (S' := (591, [(0, .ref m0), (1, .int 6), (2, .int t), (3, .int (nI p0)), (4, .int (nI e)), (5, .int (nI x)), (6, .int (nI s3))], [.ref m0, .ref m0], M)) rfl rfl rfl ?_
        refine ps_st (S' := (592, [(0, .ref m0), (1, .int 6), (2, .int t), (3, .int (nI p0)), (4, .int (nI e)), (5, .int (nI x)), (6, .int (nI s3))], [.int (nI p0), .ref m0, .ref m0], M)) rfl rfl rfl ?_
        refine pl_call (a := [.ref m0, .int (nI p0)]) (rest := [.ref m0]) rfl rfl rfl (rd_u2 (n := n) (f := f) (p := p0) hR hF (by omega)) (fun v7 M8 q9 => ?_)
        obtain ⟨rfl, rfl⟩ := q9
        show pl _ _ _ (595, [(0, .ref m0), (1, .int 6), (2, .int t), (3, .int (nI p0)), (4, .int (nI e)), (5, .int (nI x)), (6, .int (nI s3))], [.int (nI (by2 f p0)), .ref m0], M) _
        have hu_592 := by2_lt f p0
        refine pr_put (j := 67) rfl hR rfl (fun M10 I11 hR12 hi13 hI14 => ?_)
        have hi15 := (hI14 51 (by decide)).trans hi51
        have hi16 := (hI14 52 (by decide)).trans hi52
        have hi17 := (hI14 53 (by decide)).trans hi53
        have hF_18 := hF.mono (pIx hI14 (by decide)) (fun _ _ => rfl)
        have hY_19 := hY.mono (pIx hI14 (by decide)) (fun _ _ => rfl)
        have hP_20 := hP.mono (pIx hI14 (by decide)) (fun _ _ => rfl)
        have hEI21 := hEI.put hI14 (by decide)
        show pl _ _ _ (598, [(0, .ref m0), (1, .int 6), (2, .int t), (3, .int (nI p0)), (4, .int (nI e)), (5, .int (nI x)), (6, .int (nI s3))], [], M10) _
        refine ps_st (S' := (599, [(0, .ref m0), (1, .int 6), (2, .int t), (3, .int (nI p0)), (4, .int (nI e)), (5, .int (nI x)), (6, .int (nI s3))], [.int 0], M10)) rfl rfl rfl ?_
        exact ps_ret rfl rfl (Or.inr (Or.inr ⟨I11, R, (fe_1 (by decide) (by omega)).trans (congrArg some (by omega)), by omega, rfl, hR12, hEI21, hER⟩))
      · have c_583 : ¬ (¬ (nI (sb s3 7)) = 1) := of_decide_eq_false c_583
        have n_583 : sb s3 7 = 1 := (eq_nI (p := sb s3 7) (n := 1) (Nat.lt_trans (sb_lt _ _) (by decide)) (by decide)).mp (Decidable.not_not.mp c_583)
        refine ps_st (S' := (588, [], [.int 34], M)) rfl rfl rfl ?_
        exact ps_ret rfl rfl (Or.inr (Or.inl ⟨I, R, (fe_1 (by decide) (by omega)).trans (congrArg some (by omega)), by omega, rfl, hR, hEI, hER⟩))
  · have c_555 : ¬ ((nI (e - p0)) = 2) := of_decide_eq_false c_555
    have n_555 : ¬ (e - p0 = 2) := fun h9 => c_555 ((eq_nI (p := e - p0) (n := 2) (by omega) (by decide)).mpr h9)
    refine ps_st (S' := (560, [(0, .ref m0), (1, .int 6), (2, .int t), (3, .int (nI p0)), (4, .int (nI e)), (5, .int (nI x)), (6, .int (nI s3))], [.int 30], M)) rfl rfl rfl ?_
    exact ps_ret rfl rfl (Or.inl ⟨I, R, (fun h9 => (by have h7 := s_fe_in h9; have h8 := Option.some.inj ((fe_1 (by decide) (by omega)).symm.trans h9); omega)), rfl, hR, hEI, hER⟩)
set_option maxHeartbeats 4000000 in
theorem rd_attr5 {g : xe_G} {m0 : Nat} {q : Nat → Nat} {z : Nat × Nat} {I : rI} {R : rR} {M : mi_H} {n : Nat} {f : Nat → Int32} {tx : List (List Nat)} {cN : Nat} {A : Nat → Nat} {N mj : Nat} {E : List (Nat × Nat)} {p0 e x s3 : Nat} {t : Int32} (hR : RS g m0 q z I R M) (hi51 : I 51 = some 0) (hi52 : I 52 = some (nI N)) (hi53 : I 53 = some (nI mj)) (hF : FK n f I R) (hY : SYT tx cN A I R) (hP : RPV f n E tx N I R) (hEP : EP f n E) (hN : N < 65536) (hmj : mj < 65536) (he : p0 ≤ e ∧ e ≤ n) (hs3 : s3 < 2048) : pt (mT g) 177 [.ref m0, .int 5, .int t, .int (nI p0), .int (nI e), .int (nI x), .int (nI s3)] M (fun v M' => (∃  (I' : rI) (R' : rR), (¬ s_fe f 6 p0 e = some e) ∧ v = some (.int 30) ∧ RS g m0 q z I' R' M' ∧ eqI [70, 71] I I' ∧ eqR [] R R') ∨ (∃  (I' : rI) (R' : rR), (s_fe f 6 p0 e = some e) ∧ (bsA f E (by2 f p0) (p0 + 2) = 0) ∧ v = some (.int 38) ∧ RS g m0 q z I' R' M' ∧ eqI [70, 71] I I' ∧ eqR [] R R') ∨ (∃  (I' : rI) (R' : rR), (s_fe f 6 p0 e = some e) ∧ (¬ bsA f E (by2 f p0) (p0 + 2) = 0) ∧ v = some (.int 0) ∧ RS g m0 q z I' R' M' ∧ eqI [70, 71] I I' ∧ eqR [] R R' ∧ I' 71 = some (nI (by2 f p0)))) := by
  refine pt_in (b := mb_177 g) rfl (fun kf => ?_)
  show pl (mT g) kf (mb_177 g).2 (0, [(0, .ref m0), (1, .int 5), (2, .int t), (3, .int (nI p0)), (4, .int (nI e)), (5, .int (nI x)), (6, .int (nI s3))], [], M) _
  have hEI : eqI [70, 71] I I := eqI.rf
  have hER : eqR [] R R := eqR.rf
  have hn := hF.1
  refine ps_st (S' := (1, [(0, .ref m0), (1, .int 5), (2, .int t), (3, .int (nI p0)), (4, .int (nI e)), (5, .int (nI x)), (6, .int (nI s3))], [.int 5], M)) rfl rfl rfl ?_
  refine ps_st (S' := (542, [(0, .ref m0), (1, .int 5), (2, .int t), (3, .int (nI p0)), (4, .int (nI e)), (5, .int (nI x)), (6, .int (nI s3))], [], M)) rfl rfl rfl ?_
  refine ps_st (S' := (543, [(0, .ref m0), (1, .int 5), (2, .int t), (3, .int (nI p0)), (4, .int (nI e)), (5, .int (nI x)), (6, .int (nI s3))], [.ref m0], M)) rfl rfl rfl ?_
  refine ps_st (S' := (544, [(0, .ref m0), (1, .int 5), (2, .int t), (3, .int (nI p0)), (4, .int (nI e)), (5, .int (nI x)), (6, .int (nI s3))], [.int (nI p0), .ref m0], M)) rfl rfl rfl ?_
  refine ps_st (S' := (546, [(0, .ref m0), (1, .int 5), (2, .int t), (3, .int (nI p0)), (4, .int (nI e)), (5, .int (nI x)), (6, .int (nI s3))], [.int (nI e), .int (nI p0), .ref m0], M)) rfl rfl rfl ?_
  refine pl_call (a := [.ref m0, .int (nI p0), .int (nI e)]) (rest := []) rfl rfl rfl (rd_bootstraps (n := n) (f := f) (tx := tx) (cN := cN) (A := A) (N := N) (mj := mj) (E := E) (p0 := p0) (e := e) hR hi51 hi52 hi53 hF hY hP (hEP) (hN) (hmj) (he)) (fun v1 M2 q3 => ?_)
  rcases q3 with q3 | q3 | q3
  · skip
    obtain ⟨I4, R5, q546_s, rfl, hR6, hI7, hX8⟩ := q3
    have hi9 := (hI7 51 (by decide)).trans hi51
    have hi10 := (hI7 52 (by decide)).trans hi52
    have hi11 := (hI7 53 (by decide)).trans hi53
    have hF_12 := hF.mono (cIx hI7 (by decide)) (cRx hX8 (by decide))
    have hY_13 := hY.mono (cIx hI7 (by decide)) (cRx hX8 (by decide))
    have hP_14 := hP.mono (cIx hI7 (by decide)) (cRx hX8 (by decide))
    have hEI15 := hEI.tr hI7 (by decide)
    have hER16 := hER.tr hX8 (by decide)
    show pl _ _ _ (549, [(0, .ref m0), (1, .int 5), (2, .int t), (3, .int (nI p0)), (4, .int (nI e)), (5, .int (nI x)), (6, .int (nI s3))], [.int 30], M2) _
    exact ps_ret rfl rfl (Or.inl ⟨I4, R5, q546_s, rfl, hR6, hEI15, hER16⟩)
  · skip
    obtain ⟨I17, R18, q546_s, q546_b, rfl, hR19, hI20, hX21⟩ := q3
    have hi22 := (hI20 51 (by decide)).trans hi51
    have hi23 := (hI20 52 (by decide)).trans hi52
    have hi24 := (hI20 53 (by decide)).trans hi53
    have hF_25 := hF.mono (cIx hI20 (by decide)) (cRx hX21 (by decide))
    have hY_26 := hY.mono (cIx hI20 (by decide)) (cRx hX21 (by decide))
    have hP_27 := hP.mono (cIx hI20 (by decide)) (cRx hX21 (by decide))
    have hEI28 := hEI.tr hI20 (by decide)
    have hER29 := hER.tr hX21 (by decide)
    show pl _ _ _ (549, [(0, .ref m0), (1, .int 5), (2, .int t), (3, .int (nI p0)), (4, .int (nI e)), (5, .int (nI x)), (6, .int (nI s3))], [.int 38], M2) _
    exact ps_ret rfl rfl (Or.inr (Or.inl ⟨I17, R18, q546_s, q546_b, rfl, hR19, hEI28, hER29⟩))
  · skip
    obtain ⟨I30, R31, q546_s, q546_b, rfl, hR32, hI33, hX34, hi35⟩ := q3
    have hi36 := (hI33 51 (by decide)).trans hi51
    have hi37 := (hI33 52 (by decide)).trans hi52
    have hi38 := (hI33 53 (by decide)).trans hi53
    have hF_39 := hF.mono (cIx hI33 (by decide)) (cRx hX34 (by decide))
    have hY_40 := hY.mono (cIx hI33 (by decide)) (cRx hX34 (by decide))
    have hP_41 := hP.mono (cIx hI33 (by decide)) (cRx hX34 (by decide))
    have hEI42 := hEI.tr hI33 (by decide)
    have hER43 := hER.tr hX34 (by decide)
    show pl _ _ _ (549, [(0, .ref m0), (1, .int 5), (2, .int t), (3, .int (nI p0)), (4, .int (nI e)), (5, .int (nI x)), (6, .int (nI s3))], [.int 0], M2) _
    exact ps_ret rfl rfl (Or.inr (Or.inr (⟨I30, R31, q546_s, q546_b, rfl, hR32, hEI42, hER43, hi35⟩)))
set_option maxHeartbeats 4000000 in
theorem rd_attr8 {g : xe_G} {m0 : Nat} {q : Nat → Nat} {z : Nat × Nat} {I : rI} {R : rR} {M : mi_H} {n : Nat} {f : Nat → Int32} {tx : List (List Nat)} {cN : Nat} {A : Nat → Nat} {N mj : Nat} {E : List (Nat × Nat)} {p0 e x s3 : Nat} {t0 : Int32} {t : Nat} (hR : RS g m0 q z I R M) (hi51 : I 51 = some 0) (hi52 : I 52 = some (nI N)) (hi53 : I 53 = some (nI mj)) (hF : FK n f I R) (hY : SYT tx cN A I R) (hP : RPV f n E tx N I R) (hEP : EP f n E) (hN : N < 65536) (hmj : mj < 65536) (he : p0 ≤ e ∧ e ≤ n) (hs3 : s3 < 2048) : pt (mT g) 177 [.ref m0, .int 8, .int t0, .int (nI p0), .int (nI e), .int (nI x), .int (nI s3)] M (fun v M' => (∃  (I' : rI) (R' : rR), (¬ s_fe f 9 p0 e = some e) ∧ v = some (.int 30) ∧ RS g m0 q z I' R' M' ∧ eqI [47, 48, 72] I I' ∧ eqR [] R R') ∨ (∃  (I' : rI) (R' : rR), (s_fe f 9 p0 e = some e) ∧ (rcS f n E t (by2 f p0) (p0 + 2) = some (37, t)) ∧ v = some (.int 37) ∧ RS g m0 q z I' R' M' ∧ eqI [47, 48, 72] I I' ∧ eqR [] R R') ∨ (∃ (y : Nat) (I' : rI) (R' : rR), (s_fe f 9 p0 e = some e) ∧ (rcS f n E t (by2 f p0) (p0 + 2) = some (28, y)) ∧ v = some (.int (-1)) ∧ RS g m0 q z I' R' M' ∧ eqI [47, 48, 72] I I' ∧ eqR [] R R' ∧ I' 47 = some 28 ∧ I' 48 = some (nI y)) ∨ (∃  (I' : rI) (R' : rR), (s_fe f 9 p0 e = some e) ∧ (rcS f n E t (by2 f p0) (p0 + 2) = none) ∧ v = some (.int 0) ∧ RS g m0 q z I' R' M' ∧ eqI [47, 48, 72] I I' ∧ eqR [] R R')) := by
  refine pt_in (b := mb_177 g) rfl (fun kf => ?_)
  show pl (mT g) kf (mb_177 g).2 (0, [(0, .ref m0), (1, .int 8), (2, .int t0), (3, .int (nI p0)), (4, .int (nI e)), (5, .int (nI x)), (6, .int (nI s3))], [], M) _
  have hEI : eqI [47, 48, 72] I I := eqI.rf
  have hER : eqR [] R R := eqR.rf
  have hn := hF.1
  refine ps_st (S' := (1, [(0, .ref m0), (1, .int 8), (2, .int t0), (3, .int (nI p0)), (4, .int (nI e)), (5, .int (nI x)), (6, .int (nI s3))], [.int 8], M)) rfl rfl rfl ?_
  refine ps_st (S' := (600, [(0, .ref m0), (1, .int 8), (2, .int t0), (3, .int (nI p0)), (4, .int (nI e)), (5, .int (nI x)), (6, .int (nI s3))], [], M)) rfl rfl rfl ?_
  refine ps_st (S' := (601, [(0, .ref m0), (1, .int 8), (2, .int t0), (3, .int (nI p0)), (4, .int (nI e)), (5, .int (nI x)), (6, .int (nI s3))], [.ref m0], M)) rfl rfl rfl ?_
  refine ps_st (S' := (602, [(0, .ref m0), (1, .int 8), (2, .int t0), (3, .int (nI p0)), (4, .int (nI e)), (5, .int (nI x)), (6, .int (nI s3))], [.int (nI p0), .ref m0], M)) rfl rfl rfl ?_
  refine ps_st (S' := (604, [(0, .ref m0), (1, .int 8), (2, .int t0), (3, .int (nI p0)), (4, .int (nI e)), (5, .int (nI x)), (6, .int (nI s3))], [.int (nI e), .int (nI p0), .ref m0], M)) rfl rfl rfl ?_
  refine pl_call (a := [.ref m0, .int (nI p0), .int (nI e)]) (rest := []) rfl rfl rfl (rd_components (n := n) (f := f) (tx := tx) (cN := cN) (A := A) (N := N) (mj := mj) (E := E) (p0 := p0) (e := e) (t := t) hR hi51 hi52 hi53 hF hY hP (hEP) (hN) (hmj) (he)) (fun v1 M2 q3 => ?_)
  rcases q3 with q3 | q3 | q3 | q3
  · skip
    obtain ⟨I4, R5, q604_s, rfl, hR6, hI7, hX8⟩ := q3
    have hi9 := (hI7 51 (by decide)).trans hi51
    have hi10 := (hI7 52 (by decide)).trans hi52
    have hi11 := (hI7 53 (by decide)).trans hi53
    have hF_12 := hF.mono (cIx hI7 (by decide)) (cRx hX8 (by decide))
    have hY_13 := hY.mono (cIx hI7 (by decide)) (cRx hX8 (by decide))
    have hP_14 := hP.mono (cIx hI7 (by decide)) (cRx hX8 (by decide))
    have hEI15 := hEI.tr hI7 (by decide)
    have hER16 := hER.tr hX8 (by decide)
    show pl _ _ _ (607, [(0, .ref m0), (1, .int 8), (2, .int t0), (3, .int (nI p0)), (4, .int (nI e)), (5, .int (nI x)), (6, .int (nI s3))], [.int 30], M2) _
    exact ps_ret rfl rfl (Or.inl ⟨I4, R5, q604_s, rfl, hR6, hEI15, hER16⟩)
  · skip
    obtain ⟨I17, R18, q604_s, q604_b, rfl, hR19, hI20, hX21⟩ := q3
    have hi22 := (hI20 51 (by decide)).trans hi51
    have hi23 := (hI20 52 (by decide)).trans hi52
    have hi24 := (hI20 53 (by decide)).trans hi53
    have hF_25 := hF.mono (cIx hI20 (by decide)) (cRx hX21 (by decide))
    have hY_26 := hY.mono (cIx hI20 (by decide)) (cRx hX21 (by decide))
    have hP_27 := hP.mono (cIx hI20 (by decide)) (cRx hX21 (by decide))
    have hEI28 := hEI.tr hI20 (by decide)
    have hER29 := hER.tr hX21 (by decide)
    show pl _ _ _ (607, [(0, .ref m0), (1, .int 8), (2, .int t0), (3, .int (nI p0)), (4, .int (nI e)), (5, .int (nI x)), (6, .int (nI s3))], [.int 37], M2) _
    exact ps_ret rfl rfl (Or.inr (Or.inl ⟨I17, R18, q604_s, q604_b, rfl, hR19, hEI28, hER29⟩))
  · skip
    obtain ⟨y30, I31, R32, q604_s, q604_b, rfl, hR33, hI34, hX35, hi36, hi37⟩ := q3
    have hi38 := (hI34 51 (by decide)).trans hi51
    have hi39 := (hI34 52 (by decide)).trans hi52
    have hi40 := (hI34 53 (by decide)).trans hi53
    have hF_41 := hF.mono (cIx hI34 (by decide)) (cRx hX35 (by decide))
    have hY_42 := hY.mono (cIx hI34 (by decide)) (cRx hX35 (by decide))
    have hP_43 := hP.mono (cIx hI34 (by decide)) (cRx hX35 (by decide))
    have hEI44 := hEI.tr hI34 (by decide)
    have hER45 := hER.tr hX35 (by decide)
    show pl _ _ _ (607, [(0, .ref m0), (1, .int 8), (2, .int t0), (3, .int (nI p0)), (4, .int (nI e)), (5, .int (nI x)), (6, .int (nI s3))], [.int (-1)], M2) _
    exact ps_ret rfl rfl (Or.inr (Or.inr (Or.inl ⟨y30, I31, R32, q604_s, q604_b, rfl, hR33, hEI44, hER45, hi36, hi37⟩)))
  · skip
    obtain ⟨I46, R47, q604_s, q604_b, rfl, hR48, hI49, hX50⟩ := q3
    have hi51 := (hI49 51 (by decide)).trans hi51
    have hi52 := (hI49 52 (by decide)).trans hi52
    have hi53 := (hI49 53 (by decide)).trans hi53
    have hF_54 := hF.mono (cIx hI49 (by decide)) (cRx hX50 (by decide))
    have hY_55 := hY.mono (cIx hI49 (by decide)) (cRx hX50 (by decide))
    have hP_56 := hP.mono (cIx hI49 (by decide)) (cRx hX50 (by decide))
    have hEI57 := hEI.tr hI49 (by decide)
    have hER58 := hER.tr hX50 (by decide)
    show pl _ _ _ (607, [(0, .ref m0), (1, .int 8), (2, .int t0), (3, .int (nI p0)), (4, .int (nI e)), (5, .int (nI x)), (6, .int (nI s3))], [.int 0], M2) _
    exact ps_ret rfl rfl (Or.inr (Or.inr (Or.inr (⟨I46, R47, q604_s, q604_b, rfl, hR48, hEI57, hER58⟩))))
set_option maxHeartbeats 4000000 in
theorem rd_attr1 {g : xe_G} {m0 : Nat} {q : Nat → Nat} {z : Nat × Nat} {I : rI} {R : rR} {M : mi_H} {n : Nat} {f : Nat → Int32} {tx : List (List Nat)} {cN : Nat} {A : Nat → Nat} {N mj : Nat} {E : List (Nat × Nat)} {p e x w fl ds : Nat} {l : List Nat} {t : Int32} {s3 : Nat} (hR : RS g m0 q z I R M) (hi51 : I 51 = some 0) (hi52 : I 52 = some (nI N)) (hi53 : I 53 = some (nI mj)) (hF : FK n f I R) (hY : SYT tx cN A I R) (hP : RPV f n E tx N I R) (hK : KX I R) (hEP : EP f n E) (hN : N < 65536) (hmj : mj < 65536) (he : p + 6 ≤ e ∧ e ≤ n) (hx : x < 8300) (hfl : R 34 x = some (nI fl)) (hds : R 36 x = some (nI ds)) (hdt : ds < tx.length ∧ tx.getD ds [] = l) (hmt : ¬ mthN l = 0) (hf6 : fl < 65536) (hw : w = argN l + (if aN fl 8 = 0 then 1 else 0)) : pt (mT g) 177 [.ref m0, .int 1, .int t, .int (nI (p + 6)), .int (nI e), .int (nI x), .int (nI s3)] M (fun v M' => (∃  (I' : rI) (R' : rR), (¬ s_fe f 2 (p + 6) e = some e) ∧ v = some (.int 30) ∧ RS g m0 q z I' R' M' ∧ eqI [47, 48] I I' ∧ eqR [37, 38, 39, 40, 41, 42] R R') ∨ (∃ (r : Nat) (I' : rI) (R' : rR), (s_fe f 2 (p + 6) e = some e) ∧ (cdS f n E mj w p 0 = .inl (r, p)) ∧ (41 ≤ r ∧ r ≤ 43) ∧ v = some (.int (nI r)) ∧ RS g m0 q z I' R' M' ∧ eqI [47, 48] I I' ∧ eqR [37, 38, 39, 40, 41, 42] R R') ∨ (∃ (e9 : Nat × Nat) (I' : rI) (R' : rR), (s_fe f 2 (p + 6) e = some e) ∧ (cdS f n E mj w p 0 = .inl e9) ∧ v = some (.int (-1)) ∧ RS g m0 q z I' R' M' ∧ eqI [47, 48] I I' ∧ eqR [37, 38, 39, 40, 41, 42] R R' ∧ I' 47 = some (nI e9.1) ∧ I' 48 = some (nI e9.2)) ∨ (∃ (s' : Nat) (I' : rI) (R' : rR), (s_fe f 2 (p + 6) e = some e) ∧ (cdS f n E mj w p 0 = .inr s') ∧ (R' 37 x = some (nI (p + 14))) ∧ v = some (.int 0) ∧ RS g m0 q z I' R' M' ∧ eqI [47, 48] I I' ∧ eqR [37, 38, 39, 40, 41, 42] R R')) := by
  refine pt_in (b := mb_177 g) rfl (fun kf => ?_)
  show pl (mT g) kf (mb_177 g).2 (0, [(0, .ref m0), (1, .int 1), (2, .int t), (3, .int (nI (p + 6))), (4, .int (nI e)), (5, .int (nI x)), (6, .int (nI s3))], [], M) _
  have hEI : eqI [47, 48] I I := eqI.rf
  have hER : eqR [37, 38, 39, 40, 41, 42] R R := eqR.rf
  have hn := hF.1
  refine ps_st (S' := (1, [(0, .ref m0), (1, .int 1), (2, .int t), (3, .int (nI (p + 6))), (4, .int (nI e)), (5, .int (nI x)), (6, .int (nI s3))], [.int 1], M)) rfl rfl rfl ?_
  refine ps_st (S' := (208, [(0, .ref m0), (1, .int 1), (2, .int t), (3, .int (nI (p + 6))), (4, .int (nI e)), (5, .int (nI x)), (6, .int (nI s3))], [], M)) rfl rfl rfl ?_
  refine ps_st (S' := (209, [(0, .ref m0), (1, .int 1), (2, .int t), (3, .int (nI (p + 6))), (4, .int (nI e)), (5, .int (nI x)), (6, .int (nI s3))], [.ref m0], M)) rfl rfl rfl ?_
  refine ps_st (S' := (210, [(0, .ref m0), (1, .int 1), (2, .int t), (3, .int (nI (p + 6))), (4, .int (nI e)), (5, .int (nI x)), (6, .int (nI s3))], [.int t, .ref m0], M)) rfl rfl rfl ?_
  refine ps_st (S' := (211, [(0, .ref m0), (1, .int 1), (2, .int t), (3, .int (nI (p + 6))), (4, .int (nI e)), (5, .int (nI x)), (6, .int (nI s3))], [.int (nI (p + 6)), .int t, .ref m0], M)) rfl rfl rfl ?_
  refine ps_st (S' := (213, [(0, .ref m0), (1, .int 1), (2, .int t), (3, .int (nI (p + 6))), (4, .int (nI e)), (5, .int (nI x)), (6, .int (nI s3))], [.int (nI e), .int (nI (p + 6)), .int t, .ref m0], M)) rfl rfl rfl ?_
  refine ps_st (S' := (215, [(0, .ref m0), (1, .int 1), (2, .int t), (3, .int (nI (p + 6))), (4, .int (nI e)), (5, .int (nI x)), (6, .int (nI s3))], [.int (nI x), .int (nI e), .int (nI (p + 6)), .int t, .ref m0], M)) rfl rfl rfl ?_
  refine pl_call (a := [.ref m0, .int t, .int (nI (p + 6)), .int (nI e), .int (nI x)]) (rest := []) rfl rfl rfl (rd_code (n := n) (f := f) (tx := tx) (cN := cN) (A := A) (N := N) (mj := mj) (E := E) (p := p) (e := e) (x := x) (w := w) (fl := fl) (ds := ds) (l := l) (t := t) hR hi51 hi52 hi53 hF hY hP hK (hEP) (hN) (hmj) (he) (hx) (hfl) (hds) (hdt) (hmt) (hf6) (hw)) (fun v1 M2 q3 => ?_)
  rcases q3 with q3 | q3 | q3 | q3
  · skip
    obtain ⟨I4, R5, q215_s, rfl, hR6, hI7, hX8⟩ := q3
    have hi9 := (hI7 51 (by decide)).trans hi51
    have hi10 := (hI7 52 (by decide)).trans hi52
    have hi11 := (hI7 53 (by decide)).trans hi53
    have hF_12 := hF.mono (cIx hI7 (by decide)) (cRx hX8 (by decide))
    have hY_13 := hY.mono (cIx hI7 (by decide)) (cRx hX8 (by decide))
    have hP_14 := hP.mono (cIx hI7 (by decide)) (cRx hX8 (by decide))
    have hK_15 := hK.mono (cIx hI7 (by decide)) (cRx hX8 (by decide))
    have hEI16 := hEI.tr hI7 (by decide)
    have hER17 := hER.tr hX8 (by decide)
    show pl _ _ _ (218, [(0, .ref m0), (1, .int 1), (2, .int t), (3, .int (nI (p + 6))), (4, .int (nI e)), (5, .int (nI x)), (6, .int (nI s3))], [.int 30], M2) _
    exact ps_ret rfl rfl (Or.inl ⟨I4, R5, (by rw [fe_cd]; exact q215_s), rfl, hR6, hEI16, hER17⟩)
  · skip
    obtain ⟨r18, I19, R20, q215_s, q215_b, q215_l, rfl, hR21, hI22, hX23⟩ := q3
    have hi24 := (hI22 51 (by decide)).trans hi51
    have hi25 := (hI22 52 (by decide)).trans hi52
    have hi26 := (hI22 53 (by decide)).trans hi53
    have hF_27 := hF.mono (cIx hI22 (by decide)) (cRx hX23 (by decide))
    have hY_28 := hY.mono (cIx hI22 (by decide)) (cRx hX23 (by decide))
    have hP_29 := hP.mono (cIx hI22 (by decide)) (cRx hX23 (by decide))
    have hK_30 := hK.mono (cIx hI22 (by decide)) (cRx hX23 (by decide))
    have hEI31 := hEI.tr hI22 (by decide)
    have hER32 := hER.tr hX23 (by decide)
    show pl _ _ _ (218, [(0, .ref m0), (1, .int 1), (2, .int t), (3, .int (nI (p + 6))), (4, .int (nI e)), (5, .int (nI x)), (6, .int (nI s3))], [.int (nI r18)], M2) _
    exact ps_reti rfl (Or.inr (Or.inl ⟨r18, I19, R20, (by rw [fe_cd]; exact q215_s), q215_b, q215_l, rfl, hR21, hEI31, hER32⟩))
  · skip
    obtain ⟨e933, I34, R35, q215_s, q215_b, rfl, hR36, hI37, hX38, hi39, hi40⟩ := q3
    have hi41 := (hI37 51 (by decide)).trans hi51
    have hi42 := (hI37 52 (by decide)).trans hi52
    have hi43 := (hI37 53 (by decide)).trans hi53
    have hF_44 := hF.mono (cIx hI37 (by decide)) (cRx hX38 (by decide))
    have hY_45 := hY.mono (cIx hI37 (by decide)) (cRx hX38 (by decide))
    have hP_46 := hP.mono (cIx hI37 (by decide)) (cRx hX38 (by decide))
    have hK_47 := hK.mono (cIx hI37 (by decide)) (cRx hX38 (by decide))
    have hEI48 := hEI.tr hI37 (by decide)
    have hER49 := hER.tr hX38 (by decide)
    show pl _ _ _ (218, [(0, .ref m0), (1, .int 1), (2, .int t), (3, .int (nI (p + 6))), (4, .int (nI e)), (5, .int (nI x)), (6, .int (nI s3))], [.int (-1)], M2) _
    exact ps_ret rfl rfl (Or.inr (Or.inr (Or.inl ⟨e933, I34, R35, (by rw [fe_cd]; exact q215_s), q215_b, rfl, hR36, hEI48, hER49, hi39, hi40⟩)))
  · skip
    obtain ⟨s'50, I51, R52, q215_s, q215_b, q215_c, rfl, hR53, hI54, hX55⟩ := q3
    have hi56 := (hI54 51 (by decide)).trans hi51
    have hi57 := (hI54 52 (by decide)).trans hi52
    have hi58 := (hI54 53 (by decide)).trans hi53
    have hF_59 := hF.mono (cIx hI54 (by decide)) (cRx hX55 (by decide))
    have hY_60 := hY.mono (cIx hI54 (by decide)) (cRx hX55 (by decide))
    have hP_61 := hP.mono (cIx hI54 (by decide)) (cRx hX55 (by decide))
    have hK_62 := hK.mono (cIx hI54 (by decide)) (cRx hX55 (by decide))
    have hEI63 := hEI.tr hI54 (by decide)
    have hER64 := hER.tr hX55 (by decide)
    show pl _ _ _ (218, [(0, .ref m0), (1, .int 1), (2, .int t), (3, .int (nI (p + 6))), (4, .int (nI e)), (5, .int (nI x)), (6, .int (nI s3))], [.int 0], M2) _
    exact ps_ret rfl rfl (Or.inr (Or.inr (Or.inr (⟨s'50, I51, R52, (by rw [fe_cd]; exact q215_s), q215_b, q215_c, rfl, hR53, hEI63, hER64⟩))))
set_option maxHeartbeats 4000000 in
theorem rd_attr0 {g : xe_G} {m0 : Nat} {q : Nat → Nat} {z : Nat × Nat} {I : rI} {R : rR} {M : mi_H} {n : Nat} {f : Nat → Int32} {tx : List (List Nat)} {cN : Nat} {A : Nat → Nat} {N mj : Nat} {E : List (Nat × Nat)} {p0 e x s3 : Nat} {t : Int32} {fl ds : Nat} {l : List Nat} (hR : RS g m0 q z I R M) (hi51 : I 51 = some 0) (hi52 : I 52 = some (nI N)) (hi53 : I 53 = some (nI mj)) (hF : FK n f I R) (hY : SYT tx cN A I R) (hP : RPV f n E tx N I R) (hEP : EP f n E) (hN : N < 65536) (hmj : mj < 65536) (he : p0 ≤ e ∧ e ≤ n) (hs3 : s3 < 2048) (hx : x < 8300) (hfl : R 27 x = some (nI fl)) (hds : R 29 x = some (nI ds)) (hdt : ds < tx.length ∧ tx.getD ds [] = l) (hfd : ¬ fldN l = 0) (hf6 : fl < 65536) : pt (mT g) 177 [.ref m0, .int 0, .int t, .int (nI p0), .int (nI e), .int (nI x), .int (nI s3)] M (fun v M' => (∃  (I' : rI) (R' : rR), (¬ s_fe f 1 p0 e = some e) ∧ v = some (.int 30) ∧ RS g m0 q z I' R' M' ∧ eqI [] I I' ∧ eqR [30] R R') ∨ (∃  (I' : rI) (R' : rR), (s_fe f 1 p0 e = some e) ∧ (¬ aN fl 8 = 0 ∧ ¬ ctS l = some (tg f E (by2 f p0))) ∧ v = some (.int 31) ∧ RS g m0 q z I' R' M' ∧ eqI [] I I' ∧ eqR [30] R R') ∨ (∃  (I' : rI) (R' : rR), (s_fe f 1 p0 e = some e) ∧ (aN fl 8 = 0 ∨ ctS l = some (tg f E (by2 f p0))) ∧ v = some (.int 0) ∧ RS g m0 q z I' R' M' ∧ eqI [] I I' ∧ eqR [30] R R')) := by
  refine pt_in (b := mb_177 g) rfl (fun kf => ?_)
  show pl (mT g) kf (mb_177 g).2 (0, [(0, .ref m0), (1, .int 0), (2, .int t), (3, .int (nI p0)), (4, .int (nI e)), (5, .int (nI x)), (6, .int (nI s3))], [], M) _
  have hEI : eqI [] I I := eqI.rf
  have hER : eqR [30] R R := eqR.rf
  have hn := hF.1
  have hu9 := by2_lt f p0
  have hct := ct_in hfd
  refine ps_st (S' := (1, [(0, .ref m0), (1, .int 0), (2, .int t), (3, .int (nI p0)), (4, .int (nI e)), (5, .int (nI x)), (6, .int (nI s3))], [.int 0], M)) rfl rfl rfl ?_
  refine ps_st (S' := (56, [(0, .ref m0), (1, .int 0), (2, .int t), (3, .int (nI p0)), (4, .int (nI e)), (5, .int (nI x)), (6, .int (nI s3))], [], M)) rfl rfl rfl ?_
  refine ps_st (S' := (58, [(0, .ref m0), (1, .int 0), (2, .int t), (3, .int (nI p0)), (4, .int (nI e)), (5, .int (nI x)), (6, .int (nI s3))], [.int (nI e)], M)) rfl rfl rfl ?_
  refine ps_st (S' := (59, [(0, .ref m0), (1, .int 0), (2, .int t), (3, .int (nI p0)), (4, .int (nI e)), (5, .int (nI x)), (6, .int (nI s3))], [.int (nI p0), .int (nI e)], M)) rfl rfl rfl ?_
  refine ps_st (S' := (60, [(0, .ref m0), (1, .int 0), (2, .int t), (3, .int (nI p0)), (4, .int (nI e)), (5, .int (nI x)), (6, .int (nI s3))], [.int ((nI e) - (nI p0))], M)) rfl rfl rfl ?_
  rw [nI_sub1 (p := e) (k := p0) (x := (nI p0)) rfl (by omega) (by omega)]
  show pl _ _ _ (_, [(0, .ref m0), (1, .int 0), (2, .int t), (3, .int (nI p0)), (4, .int (nI e)), (5, .int (nI x)), (6, .int (nI s3))], [.int (nI (e - p0))], M) _
  refine ps_st (S' := (61, [(0, .ref m0), (1, .int 0), (2, .int t), (3, .int (nI p0)), (4, .int (nI e)), (5, .int (nI x)), (6, .int (nI s3))], [.int 2, .int (nI (e - p0))], M)) rfl rfl rfl ?_
  refine ps_if2 (S1 := (67, [(0, .ref m0), (1, .int 0), (2, .int t), (3, .int (nI p0)), (4, .int (nI e)), (5, .int (nI x)), (6, .int (nI s3))], [], M)) (S2 := (64, [(0, .ref m0), (1, .int 0), (2, .int t), (3, .int (nI p0)), (4, .int (nI e)), (5, .int (nI x)), (6, .int (nI s3))], [], M)) rfl rfl rfl (fun c_61 => ?_) (fun c_61 => ?_)
  · have c_61 : (nI (e - p0)) = 2 := of_decide_eq_true c_61
    have n_61 : e - p0 = 2 := (eq_nI (p := e - p0) (n := 2) (by omega) (by decide)).mp c_61
    refine ps_st (S' := (68, [(0, .ref m0), (1, .int 0), (2, .int t), (3, .int (nI p0)), (4, .int (nI e)), (5, .int (nI x)), (6, .int (nI s3))], [.ref m0], M)) rfl rfl rfl ?_
    refine pr_ref (j := 27) (S' := (71, [(0, .ref m0), (1, .int 0), (2, .int t), (3, .int (nI p0)), (4, .int (nI e)), (5, .int (nI x)), (6, .int (nI s3))], [.ref (q 27)], M)) rfl hR rfl rfl ?_
    refine ps_st (S' := (73, [(0, .ref m0), (1, .int 0), (2, .int t), (3, .int (nI p0)), (4, .int (nI e)), (5, .int (nI x)), (6, .int (nI s3))], [.int (nI x), .ref (q 27)], M)) rfl rfl rfl ?_
    refine pr_ld (a := 27) (j := x) (y := (nI fl)) (S' := (74, [(0, .ref m0), (1, .int 0), (2, .int t), (3, .int (nI p0)), (4, .int (nI e)), (5, .int (nI x)), (6, .int (nI s3))], [.int (nI fl)], M)) rfl hR rfl (by omega) (fun _ => hfl) rfl (fun i1_73 => ?_)
    refine ps_st (S' := (76, [(0, .ref m0), (1, .int 0), (2, .int t), (3, .int (nI p0)), (4, .int (nI e)), (5, .int (nI x)), (6, .int (nI s3))], [.int 8, .int (nI fl)], M)) rfl rfl rfl ?_
    refine ps_st (S' := (77, [(0, .ref m0), (1, .int 0), (2, .int t), (3, .int (nI p0)), (4, .int (nI e)), (5, .int (nI x)), (6, .int (nI s3))], [.int ((nI fl) &&& 8)], M)) rfl rfl rfl ?_
    rw [nI_an (p := fl) (k := 8) (x := 8) rfl]
    show pl _ _ _ (_, [(0, .ref m0), (1, .int 0), (2, .int t), (3, .int (nI p0)), (4, .int (nI e)), (5, .int (nI x)), (6, .int (nI s3))], [.int (nI (aN fl 8))], M) _
    refine ps_if (S1 := (82, [(0, .ref m0), (1, .int 0), (2, .int t), (3, .int (nI p0)), (4, .int (nI e)), (5, .int (nI x)), (6, .int (nI s3))], [], M)) (S2 := (80, [(0, .ref m0), (1, .int 0), (2, .int t), (3, .int (nI p0)), (4, .int (nI e)), (5, .int (nI x)), (6, .int (nI s3))], [], M)) rfl rfl rfl (fun c_77 => ?_) (fun c_77 => ?_)
    · have c_77 : ¬ (nI (aN fl 8)) = 0 := of_decide_eq_true c_77
      have n_77 : ¬ (aN fl 8 = 0) := fun h9 => c_77 ((eq_nI (p := aN fl 8) (n := 0) (Nat.lt_of_le_of_lt (an_le _ _) (by decide)) (by decide)).mpr h9)
      refine ps_st (S' := (83, [(0, .ref m0), (1, .int 0), (2, .int t), (3, .int (nI p0)), (4, .int (nI e)), (5, .int (nI x)), (6, .int (nI s3))], [.ref m0], M)) rfl rfl rfl ?_
      refine ps_st (S' := (84, [(0, .ref m0), (1, .int 0), (2, .int t), (3, .int (nI p0)), (4, .int (nI e)), (5, .int (nI x)), (6, .int (nI s3))], [.ref m0, .ref m0], M)) rfl rfl rfl ?_
      refine pr_ref (j := 29) (S' := (87, [(0, .ref m0), (1, .int 0), (2, .int t), (3, .int (nI p0)), (4, .int (nI e)), (5, .int (nI x)), (6, .int (nI s3))], [.ref (q 29), .ref m0], M)) rfl hR rfl rfl ?_
      refine ps_st (S' := (89, [(0, .ref m0), (1, .int 0), (2, .int t), (3, .int (nI p0)), (4, .int (nI e)), (5, .int (nI x)), (6, .int (nI s3))], [.int (nI x), .ref (q 29), .ref m0], M)) rfl rfl rfl ?_
      refine pr_ld (a := 29) (j := x) (y := (nI ds)) (S' := (90, [(0, .ref m0), (1, .int 0), (2, .int t), (3, .int (nI p0)), (4, .int (nI e)), (5, .int (nI x)), (6, .int (nI s3))], [.int (nI ds), .ref m0], M)) rfl hR rfl (by omega) (fun _ => hds) rfl (fun i1_89 => ?_)
      refine ps_st (S' := (91, [(0, .ref m0), (1, .int 0), (2, .int t), (3, .int (nI p0)), (4, .int (nI e)), (5, .int (nI x)), (6, .int (nI s3))], [.int 0, .int (nI ds), .ref m0], M)) rfl rfl rfl ?_
      refine pl_call (a := [.ref m0, .int (nI ds), .int 0]) (rest := []) rfl rfl rfl (rd_at (tx := tx) (cN := cN) (A := A) (s := ds) (l := l) (k := 0) hR hY (hdt) (by omega)) (fun v1 M2 q3 => ?_)
      obtain ⟨rfl, rfl⟩ := q3
      show pl _ _ _ (94, [(0, .ref m0), (1, .int 0), (2, .int t), (3, .int (nI p0)), (4, .int (nI e)), (5, .int (nI x)), (6, .int (nI s3))], [.int (nI (l.getD 0 0))], M) _
      have hc_91 := hY.ch hdt (k := 0) (by omega)
      refine ps_st (S' := (96, [(7, .int (nI (l.getD 0 0))), (0, .ref m0), (1, .int 0), (2, .int t), (3, .int (nI p0)), (4, .int (nI e)), (5, .int (nI x)), (6, .int (nI s3))], [], M)) rfl rfl rfl ?_
      refine ps_st (S' := (98, [(7, .int (nI (l.getD 0 0))), (0, .ref m0), (1, .int 0), (2, .int t), (3, .int (nI p0)), (4, .int (nI e)), (5, .int (nI x)), (6, .int (nI s3))], [.int (nI (l.getD 0 0))], M)) rfl rfl rfl ?_
      refine ps_st (S' := (100, [(7, .int (nI (l.getD 0 0))), (0, .ref m0), (1, .int 0), (2, .int t), (3, .int (nI p0)), (4, .int (nI e)), (5, .int (nI x)), (6, .int (nI s3))], [.int 74, .int (nI (l.getD 0 0))], M)) rfl rfl rfl ?_
      refine ps_if2 (S1 := (107, [(7, .int (nI (l.getD 0 0))), (0, .ref m0), (1, .int 0), (2, .int t), (3, .int (nI p0)), (4, .int (nI e)), (5, .int (nI x)), (6, .int (nI s3))], [], M)) (S2 := (103, [(7, .int (nI (l.getD 0 0))), (0, .ref m0), (1, .int 0), (2, .int t), (3, .int (nI p0)), (4, .int (nI e)), (5, .int (nI x)), (6, .int (nI s3))], [], M)) rfl rfl rfl (fun c_100 => ?_) (fun c_100 => ?_)
      · have c_100 : ¬ (nI (l.getD 0 0)) = 74 := of_decide_eq_true c_100
        have n_100 : ¬ (l.getD 0 0 = 74) := fun h9 => c_100 ((eq_nI (p := l.getD 0 0) (n := 74) (by omega) (by decide)).mpr h9)
        refine ps_st (S' := (109, [(7, .int (nI (l.getD 0 0))), (0, .ref m0), (1, .int 0), (2, .int t), (3, .int (nI p0)), (4, .int (nI e)), (5, .int (nI x)), (6, .int (nI s3))], [.int (nI (l.getD 0 0))], M)) rfl rfl rfl ?_
        refine ps_st (S' := (111, [(7, .int (nI (l.getD 0 0))), (0, .ref m0), (1, .int 0), (2, .int t), (3, .int (nI p0)), (4, .int (nI e)), (5, .int (nI x)), (6, .int (nI s3))], [.int 70, .int (nI (l.getD 0 0))], M)) rfl rfl rfl ?_
        refine ps_if2 (S1 := (118, [(7, .int (nI (l.getD 0 0))), (0, .ref m0), (1, .int 0), (2, .int t), (3, .int (nI p0)), (4, .int (nI e)), (5, .int (nI x)), (6, .int (nI s3))], [], M)) (S2 := (114, [(7, .int (nI (l.getD 0 0))), (0, .ref m0), (1, .int 0), (2, .int t), (3, .int (nI p0)), (4, .int (nI e)), (5, .int (nI x)), (6, .int (nI s3))], [], M)) rfl rfl rfl (fun c_111 => ?_) (fun c_111 => ?_)
        · have c_111 : ¬ (nI (l.getD 0 0)) = 70 := of_decide_eq_true c_111
          have n_111 : ¬ (l.getD 0 0 = 70) := fun h9 => c_111 ((eq_nI (p := l.getD 0 0) (n := 70) (by omega) (by decide)).mpr h9)
          refine ps_st (S' := (120, [(7, .int (nI (l.getD 0 0))), (0, .ref m0), (1, .int 0), (2, .int t), (3, .int (nI p0)), (4, .int (nI e)), (5, .int (nI x)), (6, .int (nI s3))], [.int (nI (l.getD 0 0))], M)) rfl rfl rfl ?_
          refine ps_st (S' := (122, [(7, .int (nI (l.getD 0 0))), (0, .ref m0), (1, .int 0), (2, .int t), (3, .int (nI p0)), (4, .int (nI e)), (5, .int (nI x)), (6, .int (nI s3))], [.int 68, .int (nI (l.getD 0 0))], M)) rfl rfl rfl ?_
          refine ps_if2 (S1 := (130, [(7, .int (nI (l.getD 0 0))), (0, .ref m0), (1, .int 0), (2, .int t), (3, .int (nI p0)), (4, .int (nI e)), (5, .int (nI x)), (6, .int (nI s3))], [], M)) (S2 := (125, [(7, .int (nI (l.getD 0 0))), (0, .ref m0), (1, .int 0), (2, .int t), (3, .int (nI p0)), (4, .int (nI e)), (5, .int (nI x)), (6, .int (nI s3))], [], M)) rfl rfl rfl (fun c_122 => ?_) (fun c_122 => ?_)
          · have c_122 : ¬ (nI (l.getD 0 0)) = 68 := of_decide_eq_true c_122
            have n_122 : ¬ (l.getD 0 0 = 68) := fun h9 => c_122 ((eq_nI (p := l.getD 0 0) (n := 68) (by omega) (by decide)).mpr h9)
            refine ps_st (S' := (132, [(7, .int (nI (l.getD 0 0))), (0, .ref m0), (1, .int 0), (2, .int t), (3, .int (nI p0)), (4, .int (nI e)), (5, .int (nI x)), (6, .int (nI s3))], [.int (nI (l.getD 0 0))], M)) rfl rfl rfl ?_
            refine ps_st (S' := (134, [(7, .int (nI (l.getD 0 0))), (0, .ref m0), (1, .int 0), (2, .int t), (3, .int (nI p0)), (4, .int (nI e)), (5, .int (nI x)), (6, .int (nI s3))], [.int 76, .int (nI (l.getD 0 0))], M)) rfl rfl rfl ?_
            refine ps_if2 (S1 := (163, [(7, .int (nI (l.getD 0 0))), (0, .ref m0), (1, .int 0), (2, .int t), (3, .int (nI p0)), (4, .int (nI e)), (5, .int (nI x)), (6, .int (nI s3))], [], M)) (S2 := (137, [(7, .int (nI (l.getD 0 0))), (0, .ref m0), (1, .int 0), (2, .int t), (3, .int (nI p0)), (4, .int (nI e)), (5, .int (nI x)), (6, .int (nI s3))], [], M)) rfl rfl rfl (fun c_134 => ?_) (fun c_134 => ?_)
            · have c_134 : ¬ (nI (l.getD 0 0)) = 76 := of_decide_eq_true c_134
              have n_134 : ¬ (l.getD 0 0 = 76) := fun h9 => c_134 ((eq_nI (p := l.getD 0 0) (n := 76) (by omega) (by decide)).mpr h9)
              refine ps_st (S' := (165, [(7, .int (nI (l.getD 0 0))), (0, .ref m0), (1, .int 0), (2, .int t), (3, .int (nI p0)), (4, .int (nI e)), (5, .int (nI x)), (6, .int (nI s3))], [.int (nI (l.getD 0 0))], M)) rfl rfl rfl ?_
              refine ps_st (S' := (167, [(7, .int (nI (l.getD 0 0))), (0, .ref m0), (1, .int 0), (2, .int t), (3, .int (nI p0)), (4, .int (nI e)), (5, .int (nI x)), (6, .int (nI s3))], [.int 91, .int (nI (l.getD 0 0))], M)) rfl rfl rfl ?_
              refine ps_if2 (S1 := (174, [(7, .int (nI (l.getD 0 0))), (0, .ref m0), (1, .int 0), (2, .int t), (3, .int (nI p0)), (4, .int (nI e)), (5, .int (nI x)), (6, .int (nI s3))], [], M)) (S2 := (170, [(7, .int (nI (l.getD 0 0))), (0, .ref m0), (1, .int 0), (2, .int t), (3, .int (nI p0)), (4, .int (nI e)), (5, .int (nI x)), (6, .int (nI s3))], [], M)) rfl rfl rfl (fun c_167 => ?_) (fun c_167 => ?_)
              · have c_167 : ¬ (nI (l.getD 0 0)) = 91 := of_decide_eq_true c_167
                have n_167 : ¬ (l.getD 0 0 = 91) := fun h9 => c_167 ((eq_nI (p := l.getD 0 0) (n := 91) (by omega) (by decide)).mpr h9)
                refine ps_st (S' := (175, [(0, .ref m0), (3, .int (nI p0)), (5, .int (nI x))], [.int 3], M)) rfl rfl rfl ?_
                refine ps_st (S' := (177, [(8, .int 3), (0, .ref m0), (3, .int (nI p0)), (5, .int (nI x))], [], M)) rfl rfl rfl ?_
                refine ps_st (S' := (178, [(8, .int 3), (0, .ref m0), (3, .int (nI p0)), (5, .int (nI x))], [.ref m0], M)) rfl rfl rfl ?_
                refine ps_st (S' := (179, [(8, .int 3), (0, .ref m0), (3, .int (nI p0)), (5, .int (nI x))], [.ref m0, .ref m0], M)) rfl rfl rfl ?_
                refine ps_st (S' := (180, [(8, .int 3), (0, .ref m0), (3, .int (nI p0)), (5, .int (nI x))], [.int (nI p0), .ref m0, .ref m0], M)) rfl rfl rfl ?_
                refine pl_call (a := [.ref m0, .int (nI p0)]) (rest := [.ref m0]) rfl rfl rfl (rd_u2 (n := n) (f := f) (p := p0) hR hF (by omega)) (fun v4 M5 q6 => ?_)
                obtain ⟨rfl, rfl⟩ := q6
                show pl _ _ _ (183, [(8, .int 3), (0, .ref m0), (3, .int (nI p0)), (5, .int (nI x))], [.int (nI (by2 f p0)), .ref m0], M) _
                have hu_180 := by2_lt f p0
                refine pl_call (a := [.ref m0, .int (nI (by2 f p0))]) (rest := []) rfl rfl rfl (rd_tag (n := n) (f := f) (tx := tx) (cN := cN) (A := A) (N := N) (mj := mj) (E := E) (k := (by2 f p0)) hR hi51 hi52 hi53 hF hY hP (hEP) (hN) (hmj) (by2_lt _ _)) (fun v7 M8 q9 => ?_)
                obtain ⟨rfl, rfl⟩ := q9
                show pl _ _ _ (186, [(8, .int 3), (0, .ref m0), (3, .int (nI p0)), (5, .int (nI x))], [.int (nI (tg f E (by2 f p0)))], M) _
                have htg_183 := tg_lt f E (by2 f p0)
                refine ps_st (S' := (188, [(8, .int 3), (0, .ref m0), (3, .int (nI p0)), (5, .int (nI x))], [.int 3, .int (nI (tg f E (by2 f p0)))], M)) rfl rfl rfl ?_
                refine ps_if2 (S1 := (194, [(8, .int 3), (0, .ref m0), (3, .int (nI p0)), (5, .int (nI x))], [], M)) (S2 := (191, [(8, .int 3), (0, .ref m0), (3, .int (nI p0)), (5, .int (nI x))], [], M)) rfl rfl rfl (fun c_188 => ?_) (fun c_188 => ?_)
                · have c_188 : (nI (tg f E (by2 f p0))) = 3 := of_decide_eq_true c_188
                  have n_188 : tg f E (by2 f p0) = 3 := (eq_nI (p := tg f E (by2 f p0)) (n := 3) (Nat.lt_trans (tg_lt _ _ _) (by decide)) (by decide)).mp c_188
                  refine ps_st (S' := (195, [(8, .int 3), (0, .ref m0), (3, .int (nI p0)), (5, .int (nI x))], [.ref m0], M)) rfl rfl rfl ?_
                  refine pr_ref (j := 30) (S' := (198, [(8, .int 3), (0, .ref m0), (3, .int (nI p0)), (5, .int (nI x))], [.ref (q 30)], M)) rfl hR rfl rfl ?_
                  refine ps_st (S' := (200, [(8, .int 3), (0, .ref m0), (3, .int (nI p0)), (5, .int (nI x))], [.int (nI x), .ref (q 30)], M)) rfl rfl rfl ?_
                  refine ps_st (S' := (201, [(8, .int 3), (0, .ref m0), (3, .int (nI p0)), (5, .int (nI x))], [.ref m0, .int (nI x), .ref (q 30)], M)) rfl rfl rfl ?_
                  refine ps_st (S' := (202, [(8, .int 3), (0, .ref m0), (3, .int (nI p0)), (5, .int (nI x))], [.int (nI p0), .ref m0, .int (nI x), .ref (q 30)], M)) rfl rfl rfl ?_
                  refine pl_call (a := [.ref m0, .int (nI p0)]) (rest := [.int (nI x), .ref (q 30)]) rfl rfl rfl (rd_u2 (n := n) (f := f) (p := p0) hR hF (by omega)) (fun v10 M11 q12 => ?_)
                  obtain ⟨rfl, rfl⟩ := q12
                  show pl _ _ _ (205, [(8, .int 3), (0, .ref m0), (3, .int (nI p0)), (5, .int (nI x))], [.int (nI (by2 f p0)), .int (nI x), .ref (q 30)], M) _
                  have hu_202 := by2_lt f p0
                  refine pr_st (a := 30) (j := x) rfl hR rfl (by omega) (fun M13 R14 i1_205 hR15 hS16 => ?_)
                  have hF_17 := hF.mono (fun _ _ => rfl) (rRx hS16 (by decide))
                  have hY_18 := hY.mono (fun _ _ => rfl) (rRx hS16 (by decide))
                  have hP_19 := hP.mono (fun _ _ => rfl) (rRx hS16 (by decide))
                  have hER20 := hER.st hS16 (by decide)
                  show pl _ _ _ (206, [(8, .int 3), (0, .ref m0), (3, .int (nI p0)), (5, .int (nI x))], [], M13) _
                  refine ps_st (S' := (207, [(8, .int 3), (0, .ref m0), (3, .int (nI p0)), (5, .int (nI x))], [.int 0], M13)) rfl rfl rfl ?_
                  exact ps_ret rfl rfl (Or.inr (Or.inr ⟨I, R14, (fe_1 (by decide) (by omega)).trans (congrArg some (by omega)), Or.inr (((ct_ne hfd (by omega) (by omega)).trans (congrArg some (by rw [if_neg (by omega), if_neg (by omega), if_neg (by omega)]))).trans (congrArg some (by omega))), rfl, hR15, hEI, hER20⟩))
                · have c_188 : ¬ ((nI (tg f E (by2 f p0))) = 3) := of_decide_eq_false c_188
                  have n_188 : ¬ (tg f E (by2 f p0) = 3) := fun h9 => c_188 ((eq_nI (p := tg f E (by2 f p0)) (n := 3) (Nat.lt_trans (tg_lt _ _ _) (by decide)) (by decide)).mpr h9)
                  refine ps_st (S' := (193, [(8, .int 3), (0, .ref m0), (3, .int (nI p0)), (5, .int (nI x))], [.int 31], M)) rfl rfl rfl ?_
                  exact ps_ret rfl rfl (Or.inr (Or.inl ⟨I, R, (fe_1 (by decide) (by omega)).trans (congrArg some (by omega)), ⟨by omega, fun h9 => (by have h8 := ((ct_ne hfd (by omega) (by omega)).trans (congrArg some (by rw [if_neg (by omega), if_neg (by omega), if_neg (by omega)]))).symm.trans h9; have h7 := Option.some.inj h8; omega)⟩, rfl, hR, hEI, hER⟩))
              · have c_167 : ¬ (¬ (nI (l.getD 0 0)) = 91) := of_decide_eq_false c_167
                have n_167 : l.getD 0 0 = 91 := (eq_nI (p := l.getD 0 0) (n := 91) (by omega) (by decide)).mp (Decidable.not_not.mp c_167)
                refine ps_st (S' := (171, [(7, .int (nI (l.getD 0 0))), (0, .ref m0), (1, .int 0), (2, .int t), (3, .int (nI p0)), (4, .int (nI e)), (5, .int (nI x)), (6, .int (nI s3))], [.int (-1)], M)) rfl rfl rfl ?_
                refine ps_st (S' := (175, [(0, .ref m0), (3, .int (nI p0)), (5, .int (nI x))], [.int (-1)], M)) rfl rfl rfl ?_
                refine ps_st (S' := (177, [(8, .int (-1)), (0, .ref m0), (3, .int (nI p0)), (5, .int (nI x))], [], M)) rfl rfl rfl ?_
                refine ps_st (S' := (178, [(8, .int (-1)), (0, .ref m0), (3, .int (nI p0)), (5, .int (nI x))], [.ref m0], M)) rfl rfl rfl ?_
                refine ps_st (S' := (179, [(8, .int (-1)), (0, .ref m0), (3, .int (nI p0)), (5, .int (nI x))], [.ref m0, .ref m0], M)) rfl rfl rfl ?_
                refine ps_st (S' := (180, [(8, .int (-1)), (0, .ref m0), (3, .int (nI p0)), (5, .int (nI x))], [.int (nI p0), .ref m0, .ref m0], M)) rfl rfl rfl ?_
                refine pl_call (a := [.ref m0, .int (nI p0)]) (rest := [.ref m0]) rfl rfl rfl (rd_u2 (n := n) (f := f) (p := p0) hR hF (by omega)) (fun v21 M22 q23 => ?_)
                obtain ⟨rfl, rfl⟩ := q23
                show pl _ _ _ (183, [(8, .int (-1)), (0, .ref m0), (3, .int (nI p0)), (5, .int (nI x))], [.int (nI (by2 f p0)), .ref m0], M) _
                have hu_180 := by2_lt f p0
                refine pl_call (a := [.ref m0, .int (nI (by2 f p0))]) (rest := []) rfl rfl rfl (rd_tag (n := n) (f := f) (tx := tx) (cN := cN) (A := A) (N := N) (mj := mj) (E := E) (k := (by2 f p0)) hR hi51 hi52 hi53 hF hY hP (hEP) (hN) (hmj) (by2_lt _ _)) (fun v24 M25 q26 => ?_)
                obtain ⟨rfl, rfl⟩ := q26
                show pl _ _ _ (186, [(8, .int (-1)), (0, .ref m0), (3, .int (nI p0)), (5, .int (nI x))], [.int (nI (tg f E (by2 f p0)))], M) _
                have htg_183 := tg_lt f E (by2 f p0)
                refine ps_st (S' := (188, [(8, .int (-1)), (0, .ref m0), (3, .int (nI p0)), (5, .int (nI x))], [.int (-1), .int (nI (tg f E (by2 f p0)))], M)) rfl rfl rfl ?_
                refine ps_if2 (S1 := (194, [(8, .int (-1)), (0, .ref m0), (3, .int (nI p0)), (5, .int (nI x))], [], M)) (S2 := (191, [(8, .int (-1)), (0, .ref m0), (3, .int (nI p0)), (5, .int (nI x))], [], M)) rfl rfl rfl (fun c_188 => ?_) (fun c_188 => ?_)
                · exact absurd (of_decide_eq_true c_188) (fun h9 => m1_ne (Nat.lt_trans (tg_lt _ _ _) (by decide)) h9.symm)
                refine ps_st (S' := (193, [(8, .int (-1)), (0, .ref m0), (3, .int (nI p0)), (5, .int (nI x))], [.int 31], M)) rfl rfl rfl ?_
                exact ps_ret rfl rfl (Or.inr (Or.inl ⟨I, R, (fe_1 (by decide) (by omega)).trans (congrArg some (by omega)), ⟨by omega, fun h9 => (by have h8 := (ct_91 hfd (by omega)).symm.trans h9; cases h8)⟩, rfl, hR, hEI, hER⟩))
            · have c_134 : ¬ (¬ (nI (l.getD 0 0)) = 76) := of_decide_eq_false c_134
              have n_134 : l.getD 0 0 = 76 := (eq_nI (p := l.getD 0 0) (n := 76) (by omega) (by decide)).mp (Decidable.not_not.mp c_134)
              refine ps_st (S' := (138, [(7, .int (nI (l.getD 0 0))), (0, .ref m0), (1, .int 0), (2, .int t), (3, .int (nI p0)), (4, .int (nI e)), (5, .int (nI x)), (6, .int (nI s3))], [.ref m0], M)) rfl rfl rfl ?_
              refine ps_st (S' := (139, [(7, .int (nI (l.getD 0 0))), (0, .ref m0), (1, .int 0), (2, .int t), (3, .int (nI p0)), (4, .int (nI e)), (5, .int (nI x)), (6, .int (nI s3))], [.ref m0, .ref m0], M)) rfl rfl rfl ?_
              refine pr_ref (j := 29) (S' := (142, [(7, .int (nI (l.getD 0 0))), (0, .ref m0), (1, .int 0), (2, .int t), (3, .int (nI p0)), (4, .int (nI e)), (5, .int (nI x)), (6, .int (nI s3))], [.ref (q 29), .ref m0], M)) rfl hR rfl rfl ?_
              refine ps_st (S' := (144, [(7, .int (nI (l.getD 0 0))), (0, .ref m0), (1, .int 0), (2, .int t), (3, .int (nI p0)), (4, .int (nI e)), (5, .int (nI x)), (6, .int (nI s3))], [.int (nI x), .ref (q 29), .ref m0], M)) rfl rfl rfl ?_
              refine pr_ld (a := 29) (j := x) (y := (nI ds)) (S' := (145, [(7, .int (nI (l.getD 0 0))), (0, .ref m0), (1, .int 0), (2, .int t), (3, .int (nI p0)), (4, .int (nI e)), (5, .int (nI x)), (6, .int (nI s3))], [.int (nI ds), .ref m0], M)) rfl hR rfl (by omega) (fun _ => hds) rfl (fun i1_144 => ?_)
              refine ps_st (S' := (148, [(7, .int (nI (l.getD 0 0))), (0, .ref m0), (1, .int 0), (2, .int t), (3, .int (nI p0)), (4, .int (nI e)), (5, .int (nI x)), (6, .int (nI s3))], [.ref (g.2.1 28), .int (nI ds), .ref m0], M)) rfl rfl rfl ?_
              refine pl_call (a := [.ref m0, .int (nI ds), .ref (g.2.1 28)]) (rest := []) rfl rfl rfl (rd_is (tx := tx) (cN := cN) (A := A) (s := ds) (l := l) (lk := 28) hR hY (hdt) (⟨by decide, by decide⟩)) (fun v27 M28 q29 => ?_)
              obtain ⟨rfl, rfl⟩ := q29
              show pl _ _ _ (151, [(7, .int (nI (l.getD 0 0))), (0, .ref m0), (1, .int 0), (2, .int t), (3, .int (nI p0)), (4, .int (nI e)), (5, .int (nI x)), (6, .int (nI s3))], [.int (nI (eqN l (ltx 28)))], M) _
              refine ps_if (S1 := (159, [(7, .int (nI (l.getD 0 0))), (0, .ref m0), (1, .int 0), (2, .int t), (3, .int (nI p0)), (4, .int (nI e)), (5, .int (nI x)), (6, .int (nI s3))], [], M)) (S2 := (154, [(7, .int (nI (l.getD 0 0))), (0, .ref m0), (1, .int 0), (2, .int t), (3, .int (nI p0)), (4, .int (nI e)), (5, .int (nI x)), (6, .int (nI s3))], [], M)) rfl rfl rfl (fun c_151 => ?_) (fun c_151 => ?_)
              · have c_151 : (nI (eqN l (ltx 28))) = 0 := of_decide_eq_true c_151
                have n_151 : eqN l (ltx 28) = 0 := (eq_nI (p := eqN l (ltx 28)) (n := 0) (Nat.lt_trans (le1_eq _ _) (by decide)) (by decide)).mp c_151
                refine ps_st (S' := (160, [(7, .int (nI (l.getD 0 0))), (0, .ref m0), (1, .int 0), (2, .int t), (3, .int (nI p0)), (4, .int (nI e)), (5, .int (nI x)), (6, .int (nI s3))], [.int (-1)], M)) rfl rfl rfl ?_
                refine ps_st (S' := (175, [(0, .ref m0), (3, .int (nI p0)), (5, .int (nI x))], [.int (-1)], M)) rfl rfl rfl ?_
                refine ps_st (S' := (177, [(8, .int (-1)), (0, .ref m0), (3, .int (nI p0)), (5, .int (nI x))], [], M)) rfl rfl rfl ?_
                refine ps_st (S' := (178, [(8, .int (-1)), (0, .ref m0), (3, .int (nI p0)), (5, .int (nI x))], [.ref m0], M)) rfl rfl rfl ?_
                refine ps_st (S' := (179, [(8, .int (-1)), (0, .ref m0), (3, .int (nI p0)), (5, .int (nI x))], [.ref m0, .ref m0], M)) rfl rfl rfl ?_
                refine ps_st (S' := (180, [(8, .int (-1)), (0, .ref m0), (3, .int (nI p0)), (5, .int (nI x))], [.int (nI p0), .ref m0, .ref m0], M)) rfl rfl rfl ?_
                refine pl_call (a := [.ref m0, .int (nI p0)]) (rest := [.ref m0]) rfl rfl rfl (rd_u2 (n := n) (f := f) (p := p0) hR hF (by omega)) (fun v30 M31 q32 => ?_)
                obtain ⟨rfl, rfl⟩ := q32
                show pl _ _ _ (183, [(8, .int (-1)), (0, .ref m0), (3, .int (nI p0)), (5, .int (nI x))], [.int (nI (by2 f p0)), .ref m0], M) _
                have hu_180 := by2_lt f p0
                refine pl_call (a := [.ref m0, .int (nI (by2 f p0))]) (rest := []) rfl rfl rfl (rd_tag (n := n) (f := f) (tx := tx) (cN := cN) (A := A) (N := N) (mj := mj) (E := E) (k := (by2 f p0)) hR hi51 hi52 hi53 hF hY hP (hEP) (hN) (hmj) (by2_lt _ _)) (fun v33 M34 q35 => ?_)
                obtain ⟨rfl, rfl⟩ := q35
                show pl _ _ _ (186, [(8, .int (-1)), (0, .ref m0), (3, .int (nI p0)), (5, .int (nI x))], [.int (nI (tg f E (by2 f p0)))], M) _
                have htg_183 := tg_lt f E (by2 f p0)
                refine ps_st (S' := (188, [(8, .int (-1)), (0, .ref m0), (3, .int (nI p0)), (5, .int (nI x))], [.int (-1), .int (nI (tg f E (by2 f p0)))], M)) rfl rfl rfl ?_
                refine ps_if2 (S1 := (194, [(8, .int (-1)), (0, .ref m0), (3, .int (nI p0)), (5, .int (nI x))], [], M)) (S2 := (191, [(8, .int (-1)), (0, .ref m0), (3, .int (nI p0)), (5, .int (nI x))], [], M)) rfl rfl rfl (fun c_188 => ?_) (fun c_188 => ?_)
                · exact absurd (of_decide_eq_true c_188) (fun h9 => m1_ne (Nat.lt_trans (tg_lt _ _ _) (by decide)) h9.symm)
                refine ps_st (S' := (193, [(8, .int (-1)), (0, .ref m0), (3, .int (nI p0)), (5, .int (nI x))], [.int 31], M)) rfl rfl rfl ?_
                exact ps_ret rfl rfl (Or.inr (Or.inl ⟨I, R, (fe_1 (by decide) (by omega)).trans (congrArg some (by omega)), ⟨by omega, fun h9 => (by have h8 := ((ct_76 hfd (by omega)).trans (by rw [← lt_28, if_pos n_151])).symm.trans h9; cases h8)⟩, rfl, hR, hEI, hER⟩))
              · have c_151 : ¬ ((nI (eqN l (ltx 28))) = 0) := of_decide_eq_false c_151
                have n_151 : ¬ (eqN l (ltx 28) = 0) := fun h9 => c_151 ((eq_nI (p := eqN l (ltx 28)) (n := 0) (Nat.lt_trans (le1_eq _ _) (by decide)) (by decide)).mpr h9)
                refine ps_st (S' := (156, [(7, .int (nI (l.getD 0 0))), (0, .ref m0), (1, .int 0), (2, .int t), (3, .int (nI p0)), (4, .int (nI e)), (5, .int (nI x)), (6, .int (nI s3))], [.int 8], M)) rfl rfl rfl ?_
                refine ps_st (S' := (175, [(0, .ref m0), (3, .int (nI p0)), (5, .int (nI x))], [.int 8], M)) rfl rfl rfl ?_
                refine ps_st (S' := (177, [(8, .int 8), (0, .ref m0), (3, .int (nI p0)), (5, .int (nI x))], [], M)) rfl rfl rfl ?_
                refine ps_st (S' := (178, [(8, .int 8), (0, .ref m0), (3, .int (nI p0)), (5, .int (nI x))], [.ref m0], M)) rfl rfl rfl ?_
                refine ps_st (S' := (179, [(8, .int 8), (0, .ref m0), (3, .int (nI p0)), (5, .int (nI x))], [.ref m0, .ref m0], M)) rfl rfl rfl ?_
                refine ps_st (S' := (180, [(8, .int 8), (0, .ref m0), (3, .int (nI p0)), (5, .int (nI x))], [.int (nI p0), .ref m0, .ref m0], M)) rfl rfl rfl ?_
                refine pl_call (a := [.ref m0, .int (nI p0)]) (rest := [.ref m0]) rfl rfl rfl (rd_u2 (n := n) (f := f) (p := p0) hR hF (by omega)) (fun v36 M37 q38 => ?_)
                obtain ⟨rfl, rfl⟩ := q38
                show pl _ _ _ (183, [(8, .int 8), (0, .ref m0), (3, .int (nI p0)), (5, .int (nI x))], [.int (nI (by2 f p0)), .ref m0], M) _
                have hu_180 := by2_lt f p0
                refine pl_call (a := [.ref m0, .int (nI (by2 f p0))]) (rest := []) rfl rfl rfl (rd_tag (n := n) (f := f) (tx := tx) (cN := cN) (A := A) (N := N) (mj := mj) (E := E) (k := (by2 f p0)) hR hi51 hi52 hi53 hF hY hP (hEP) (hN) (hmj) (by2_lt _ _)) (fun v39 M40 q41 => ?_)
                obtain ⟨rfl, rfl⟩ := q41
                show pl _ _ _ (186, [(8, .int 8), (0, .ref m0), (3, .int (nI p0)), (5, .int (nI x))], [.int (nI (tg f E (by2 f p0)))], M) _
                have htg_183 := tg_lt f E (by2 f p0)
                refine ps_st (S' := (188, [(8, .int 8), (0, .ref m0), (3, .int (nI p0)), (5, .int (nI x))], [.int 8, .int (nI (tg f E (by2 f p0)))], M)) rfl rfl rfl ?_
                refine ps_if2 (S1 := (194, [(8, .int 8), (0, .ref m0), (3, .int (nI p0)), (5, .int (nI x))], [], M)) (S2 := (191, [(8, .int 8), (0, .ref m0), (3, .int (nI p0)), (5, .int (nI x))], [], M)) rfl rfl rfl (fun c_188 => ?_) (fun c_188 => ?_)
                · have c_188 : (nI (tg f E (by2 f p0))) = 8 := of_decide_eq_true c_188
                  have n_188 : tg f E (by2 f p0) = 8 := (eq_nI (p := tg f E (by2 f p0)) (n := 8) (Nat.lt_trans (tg_lt _ _ _) (by decide)) (by decide)).mp c_188
                  refine ps_st (S' := (195, [(8, .int 8), (0, .ref m0), (3, .int (nI p0)), (5, .int (nI x))], [.ref m0], M)) rfl rfl rfl ?_
                  refine pr_ref (j := 30) (S' := (198, [(8, .int 8), (0, .ref m0), (3, .int (nI p0)), (5, .int (nI x))], [.ref (q 30)], M)) rfl hR rfl rfl ?_
                  refine ps_st (S' := (200, [(8, .int 8), (0, .ref m0), (3, .int (nI p0)), (5, .int (nI x))], [.int (nI x), .ref (q 30)], M)) rfl rfl rfl ?_
                  refine ps_st (S' := (201, [(8, .int 8), (0, .ref m0), (3, .int (nI p0)), (5, .int (nI x))], [.ref m0, .int (nI x), .ref (q 30)], M)) rfl rfl rfl ?_
                  refine ps_st (S' := (202, [(8, .int 8), (0, .ref m0), (3, .int (nI p0)), (5, .int (nI x))], [.int (nI p0), .ref m0, .int (nI x), .ref (q 30)], M)) rfl rfl rfl ?_
                  refine pl_call (a := [.ref m0, .int (nI p0)]) (rest := [.int (nI x), .ref (q 30)]) rfl rfl rfl (rd_u2 (n := n) (f := f) (p := p0) hR hF (by omega)) (fun v42 M43 q44 => ?_)
                  obtain ⟨rfl, rfl⟩ := q44
                  show pl _ _ _ (205, [(8, .int 8), (0, .ref m0), (3, .int (nI p0)), (5, .int (nI x))], [.int (nI (by2 f p0)), .int (nI x), .ref (q 30)], M) _
                  have hu_202 := by2_lt f p0
                  refine pr_st (a := 30) (j := x) rfl hR rfl (by omega) (fun M45 R46 i1_205 hR47 hS48 => ?_)
                  have hF_49 := hF.mono (fun _ _ => rfl) (rRx hS48 (by decide))
                  have hY_50 := hY.mono (fun _ _ => rfl) (rRx hS48 (by decide))
                  have hP_51 := hP.mono (fun _ _ => rfl) (rRx hS48 (by decide))
                  have hER52 := hER.st hS48 (by decide)
                  show pl _ _ _ (206, [(8, .int 8), (0, .ref m0), (3, .int (nI p0)), (5, .int (nI x))], [], M45) _
                  refine ps_st (S' := (207, [(8, .int 8), (0, .ref m0), (3, .int (nI p0)), (5, .int (nI x))], [.int 0], M45)) rfl rfl rfl ?_
                  exact ps_ret rfl rfl (Or.inr (Or.inr ⟨I, R46, (fe_1 (by decide) (by omega)).trans (congrArg some (by omega)), Or.inr (((ct_76 hfd (by omega)).trans (by rw [← lt_28, if_neg n_151])).trans (congrArg some (by omega))), rfl, hR47, hEI, hER52⟩))
                · have c_188 : ¬ ((nI (tg f E (by2 f p0))) = 8) := of_decide_eq_false c_188
                  have n_188 : ¬ (tg f E (by2 f p0) = 8) := fun h9 => c_188 ((eq_nI (p := tg f E (by2 f p0)) (n := 8) (Nat.lt_trans (tg_lt _ _ _) (by decide)) (by decide)).mpr h9)
                  refine ps_st (S' := (193, [(8, .int 8), (0, .ref m0), (3, .int (nI p0)), (5, .int (nI x))], [.int 31], M)) rfl rfl rfl ?_
                  exact ps_ret rfl rfl (Or.inr (Or.inl ⟨I, R, (fe_1 (by decide) (by omega)).trans (congrArg some (by omega)), ⟨by omega, fun h9 => (by have h8 := ((ct_76 hfd (by omega)).trans (by rw [← lt_28, if_neg n_151])).symm.trans h9; have h7 := Option.some.inj h8; omega)⟩, rfl, hR, hEI, hER⟩))
          · have c_122 : ¬ (¬ (nI (l.getD 0 0)) = 68) := of_decide_eq_false c_122
            have n_122 : l.getD 0 0 = 68 := (eq_nI (p := l.getD 0 0) (n := 68) (by omega) (by decide)).mp (Decidable.not_not.mp c_122)
            refine ps_st (S' := (127, [(7, .int (nI (l.getD 0 0))), (0, .ref m0), (1, .int 0), (2, .int t), (3, .int (nI p0)), (4, .int (nI e)), (5, .int (nI x)), (6, .int (nI s3))], [.int 6], M)) rfl rfl rfl ?_
            refine ps_st (S' := (175, [(0, .ref m0), (3, .int (nI p0)), (5, .int (nI x))], [.int 6], M)) rfl rfl rfl ?_
            refine ps_st (S' := (177, [(8, .int 6), (0, .ref m0), (3, .int (nI p0)), (5, .int (nI x))], [], M)) rfl rfl rfl ?_
            refine ps_st (S' := (178, [(8, .int 6), (0, .ref m0), (3, .int (nI p0)), (5, .int (nI x))], [.ref m0], M)) rfl rfl rfl ?_
            refine ps_st (S' := (179, [(8, .int 6), (0, .ref m0), (3, .int (nI p0)), (5, .int (nI x))], [.ref m0, .ref m0], M)) rfl rfl rfl ?_
            refine ps_st (S' := (180, [(8, .int 6), (0, .ref m0), (3, .int (nI p0)), (5, .int (nI x))], [.int (nI p0), .ref m0, .ref m0], M)) rfl rfl rfl ?_
            refine pl_call (a := [.ref m0, .int (nI p0)]) (rest := [.ref m0]) rfl rfl rfl (rd_u2 (n := n) (f := f) (p := p0) hR hF (by omega)) (fun v53 M54 q55 => ?_)
            obtain ⟨rfl, rfl⟩ := q55
            show pl _ _ _ (183, [(8, .int 6), (0, .ref m0), (3, .int (nI p0)), (5, .int (nI x))], [.int (nI (by2 f p0)), .ref m0], M) _
            have hu_180 := by2_lt f p0
            refine pl_call (a := [.ref m0, .int (nI (by2 f p0))]) (rest := []) rfl rfl rfl (rd_tag (n := n) (f := f) (tx := tx) (cN := cN) (A := A) (N := N) (mj := mj) (E := E) (k := (by2 f p0)) hR hi51 hi52 hi53 hF hY hP (hEP) (hN) (hmj) (by2_lt _ _)) (fun v56 M57 q58 => ?_)
            obtain ⟨rfl, rfl⟩ := q58
            show pl _ _ _ (186, [(8, .int 6), (0, .ref m0), (3, .int (nI p0)), (5, .int (nI x))], [.int (nI (tg f E (by2 f p0)))], M) _
            have htg_183 := tg_lt f E (by2 f p0)
            refine ps_st (S' := (188, [(8, .int 6), (0, .ref m0), (3, .int (nI p0)), (5, .int (nI x))], [.int 6, .int (nI (tg f E (by2 f p0)))], M)) rfl rfl rfl ?_
            refine ps_if2 (S1 := (194, [(8, .int 6), (0, .ref m0), (3, .int (nI p0)), (5, .int (nI x))], [], M)) (S2 := (191, [(8, .int 6), (0, .ref m0), (3, .int (nI p0)), (5, .int (nI x))], [], M)) rfl rfl rfl (fun c_188 => ?_) (fun c_188 => ?_)
            · have c_188 : (nI (tg f E (by2 f p0))) = 6 := of_decide_eq_true c_188
              have n_188 : tg f E (by2 f p0) = 6 := (eq_nI (p := tg f E (by2 f p0)) (n := 6) (Nat.lt_trans (tg_lt _ _ _) (by decide)) (by decide)).mp c_188
              refine ps_st (S' := (195, [(8, .int 6), (0, .ref m0), (3, .int (nI p0)), (5, .int (nI x))], [.ref m0], M)) rfl rfl rfl ?_
              refine pr_ref (j := 30) (S' := (198, [(8, .int 6), (0, .ref m0), (3, .int (nI p0)), (5, .int (nI x))], [.ref (q 30)], M)) rfl hR rfl rfl ?_
              refine ps_st (S' := (200, [(8, .int 6), (0, .ref m0), (3, .int (nI p0)), (5, .int (nI x))], [.int (nI x), .ref (q 30)], M)) rfl rfl rfl ?_
              refine ps_st (S' := (201, [(8, .int 6), (0, .ref m0), (3, .int (nI p0)), (5, .int (nI x))], [.ref m0, .int (nI x), .ref (q 30)], M)) rfl rfl rfl ?_
              refine ps_st (S' := (202, [(8, .int 6), (0, .ref m0), (3, .int (nI p0)), (5, .int (nI x))], [.int (nI p0), .ref m0, .int (nI x), .ref (q 30)], M)) rfl rfl rfl ?_
              refine pl_call (a := [.ref m0, .int (nI p0)]) (rest := [.int (nI x), .ref (q 30)]) rfl rfl rfl (rd_u2 (n := n) (f := f) (p := p0) hR hF (by omega)) (fun v59 M60 q61 => ?_)
              obtain ⟨rfl, rfl⟩ := q61
              show pl _ _ _ (205, [(8, .int 6), (0, .ref m0), (3, .int (nI p0)), (5, .int (nI x))], [.int (nI (by2 f p0)), .int (nI x), .ref (q 30)], M) _
              have hu_202 := by2_lt f p0
              refine pr_st (a := 30) (j := x) rfl hR rfl (by omega) (fun M62 R63 i1_205 hR64 hS65 => ?_)
              have hF_66 := hF.mono (fun _ _ => rfl) (rRx hS65 (by decide))
              have hY_67 := hY.mono (fun _ _ => rfl) (rRx hS65 (by decide))
              have hP_68 := hP.mono (fun _ _ => rfl) (rRx hS65 (by decide))
              have hER69 := hER.st hS65 (by decide)
              show pl _ _ _ (206, [(8, .int 6), (0, .ref m0), (3, .int (nI p0)), (5, .int (nI x))], [], M62) _
              refine ps_st (S' := (207, [(8, .int 6), (0, .ref m0), (3, .int (nI p0)), (5, .int (nI x))], [.int 0], M62)) rfl rfl rfl ?_
              exact ps_ret rfl rfl (Or.inr (Or.inr ⟨I, R63, (fe_1 (by decide) (by omega)).trans (congrArg some (by omega)), Or.inr (((ct_ne hfd (by omega) (by omega)).trans (congrArg some (by rw [if_neg (by omega), if_neg (by omega), if_pos (by omega)]))).trans (congrArg some (by omega))), rfl, hR64, hEI, hER69⟩))
            · have c_188 : ¬ ((nI (tg f E (by2 f p0))) = 6) := of_decide_eq_false c_188
              have n_188 : ¬ (tg f E (by2 f p0) = 6) := fun h9 => c_188 ((eq_nI (p := tg f E (by2 f p0)) (n := 6) (Nat.lt_trans (tg_lt _ _ _) (by decide)) (by decide)).mpr h9)
              refine ps_st (S' := (193, [(8, .int 6), (0, .ref m0), (3, .int (nI p0)), (5, .int (nI x))], [.int 31], M)) rfl rfl rfl ?_
              exact ps_ret rfl rfl (Or.inr (Or.inl ⟨I, R, (fe_1 (by decide) (by omega)).trans (congrArg some (by omega)), ⟨by omega, fun h9 => (by have h8 := ((ct_ne hfd (by omega) (by omega)).trans (congrArg some (by rw [if_neg (by omega), if_neg (by omega), if_pos (by omega)]))).symm.trans h9; have h7 := Option.some.inj h8; omega)⟩, rfl, hR, hEI, hER⟩))
        · have c_111 : ¬ (¬ (nI (l.getD 0 0)) = 70) := of_decide_eq_false c_111
          have n_111 : l.getD 0 0 = 70 := (eq_nI (p := l.getD 0 0) (n := 70) (by omega) (by decide)).mp (Decidable.not_not.mp c_111)
          refine ps_st (S' := (115, [(7, .int (nI (l.getD 0 0))), (0, .ref m0), (1, .int 0), (2, .int t), (3, .int (nI p0)), (4, .int (nI e)), (5, .int (nI x)), (6, .int (nI s3))], [.int 4], M)) rfl rfl rfl ?_
          refine ps_st (S' := (175, [(0, .ref m0), (3, .int (nI p0)), (5, .int (nI x))], [.int 4], M)) rfl rfl rfl ?_
          refine ps_st (S' := (177, [(8, .int 4), (0, .ref m0), (3, .int (nI p0)), (5, .int (nI x))], [], M)) rfl rfl rfl ?_
          refine ps_st (S' := (178, [(8, .int 4), (0, .ref m0), (3, .int (nI p0)), (5, .int (nI x))], [.ref m0], M)) rfl rfl rfl ?_
          refine ps_st (S' := (179, [(8, .int 4), (0, .ref m0), (3, .int (nI p0)), (5, .int (nI x))], [.ref m0, .ref m0], M)) rfl rfl rfl ?_
          refine ps_st (S' := (180, [(8, .int 4), (0, .ref m0), (3, .int (nI p0)), (5, .int (nI x))], [.int (nI p0), .ref m0, .ref m0], M)) rfl rfl rfl ?_
          refine pl_call (a := [.ref m0, .int (nI p0)]) (rest := [.ref m0]) rfl rfl rfl (rd_u2 (n := n) (f := f) (p := p0) hR hF (by omega)) (fun v70 M71 q72 => ?_)
          obtain ⟨rfl, rfl⟩ := q72
          show pl _ _ _ (183, [(8, .int 4), (0, .ref m0), (3, .int (nI p0)), (5, .int (nI x))], [.int (nI (by2 f p0)), .ref m0], M) _
          have hu_180 := by2_lt f p0
          refine pl_call (a := [.ref m0, .int (nI (by2 f p0))]) (rest := []) rfl rfl rfl (rd_tag (n := n) (f := f) (tx := tx) (cN := cN) (A := A) (N := N) (mj := mj) (E := E) (k := (by2 f p0)) hR hi51 hi52 hi53 hF hY hP (hEP) (hN) (hmj) (by2_lt _ _)) (fun v73 M74 q75 => ?_)
          obtain ⟨rfl, rfl⟩ := q75
          show pl _ _ _ (186, [(8, .int 4), (0, .ref m0), (3, .int (nI p0)), (5, .int (nI x))], [.int (nI (tg f E (by2 f p0)))], M) _
          have htg_183 := tg_lt f E (by2 f p0)
          refine ps_st (S' := (188, [(8, .int 4), (0, .ref m0), (3, .int (nI p0)), (5, .int (nI x))], [.int 4, .int (nI (tg f E (by2 f p0)))], M)) rfl rfl rfl ?_
          refine ps_if2 (S1 := (194, [(8, .int 4), (0, .ref m0), (3, .int (nI p0)), (5, .int (nI x))], [], M)) (S2 := (191, [(8, .int 4), (0, .ref m0), (3, .int (nI p0)), (5, .int (nI x))], [], M)) rfl rfl rfl (fun c_188 => ?_) (fun c_188 => ?_)
          · have c_188 : (nI (tg f E (by2 f p0))) = 4 := of_decide_eq_true c_188
            have n_188 : tg f E (by2 f p0) = 4 := (eq_nI (p := tg f E (by2 f p0)) (n := 4) (Nat.lt_trans (tg_lt _ _ _) (by decide)) (by decide)).mp c_188
            refine ps_st (S' := (195, [(8, .int 4), (0, .ref m0), (3, .int (nI p0)), (5, .int (nI x))], [.ref m0], M)) rfl rfl rfl ?_
            refine pr_ref (j := 30) (S' := (198, [(8, .int 4), (0, .ref m0), (3, .int (nI p0)), (5, .int (nI x))], [.ref (q 30)], M)) rfl hR rfl rfl ?_
            refine ps_st (S' := (200, [(8, .int 4), (0, .ref m0), (3, .int (nI p0)), (5, .int (nI x))], [.int (nI x), .ref (q 30)], M)) rfl rfl rfl ?_
            refine ps_st (S' := (201, [(8, .int 4), (0, .ref m0), (3, .int (nI p0)), (5, .int (nI x))], [.ref m0, .int (nI x), .ref (q 30)], M)) rfl rfl rfl ?_
            refine ps_st (S' := (202, [(8, .int 4), (0, .ref m0), (3, .int (nI p0)), (5, .int (nI x))], [.int (nI p0), .ref m0, .int (nI x), .ref (q 30)], M)) rfl rfl rfl ?_
            refine pl_call (a := [.ref m0, .int (nI p0)]) (rest := [.int (nI x), .ref (q 30)]) rfl rfl rfl (rd_u2 (n := n) (f := f) (p := p0) hR hF (by omega)) (fun v76 M77 q78 => ?_)
            obtain ⟨rfl, rfl⟩ := q78
            show pl _ _ _ (205, [(8, .int 4), (0, .ref m0), (3, .int (nI p0)), (5, .int (nI x))], [.int (nI (by2 f p0)), .int (nI x), .ref (q 30)], M) _
            have hu_202 := by2_lt f p0
            refine pr_st (a := 30) (j := x) rfl hR rfl (by omega) (fun M79 R80 i1_205 hR81 hS82 => ?_)
            have hF_83 := hF.mono (fun _ _ => rfl) (rRx hS82 (by decide))
            have hY_84 := hY.mono (fun _ _ => rfl) (rRx hS82 (by decide))
            have hP_85 := hP.mono (fun _ _ => rfl) (rRx hS82 (by decide))
            have hER86 := hER.st hS82 (by decide)
            show pl _ _ _ (206, [(8, .int 4), (0, .ref m0), (3, .int (nI p0)), (5, .int (nI x))], [], M79) _
            refine ps_st (S' := (207, [(8, .int 4), (0, .ref m0), (3, .int (nI p0)), (5, .int (nI x))], [.int 0], M79)) rfl rfl rfl ?_
            exact ps_ret rfl rfl (Or.inr (Or.inr ⟨I, R80, (fe_1 (by decide) (by omega)).trans (congrArg some (by omega)), Or.inr (((ct_ne hfd (by omega) (by omega)).trans (congrArg some (by rw [if_pos (by omega)]))).trans (congrArg some (by omega))), rfl, hR81, hEI, hER86⟩))
          · have c_188 : ¬ ((nI (tg f E (by2 f p0))) = 4) := of_decide_eq_false c_188
            have n_188 : ¬ (tg f E (by2 f p0) = 4) := fun h9 => c_188 ((eq_nI (p := tg f E (by2 f p0)) (n := 4) (Nat.lt_trans (tg_lt _ _ _) (by decide)) (by decide)).mpr h9)
            refine ps_st (S' := (193, [(8, .int 4), (0, .ref m0), (3, .int (nI p0)), (5, .int (nI x))], [.int 31], M)) rfl rfl rfl ?_
            exact ps_ret rfl rfl (Or.inr (Or.inl ⟨I, R, (fe_1 (by decide) (by omega)).trans (congrArg some (by omega)), ⟨by omega, fun h9 => (by have h8 := ((ct_ne hfd (by omega) (by omega)).trans (congrArg some (by rw [if_pos (by omega)]))).symm.trans h9; have h7 := Option.some.inj h8; omega)⟩, rfl, hR, hEI, hER⟩))
      · have c_100 : ¬ (¬ (nI (l.getD 0 0)) = 74) := of_decide_eq_false c_100
        have n_100 : l.getD 0 0 = 74 := (eq_nI (p := l.getD 0 0) (n := 74) (by omega) (by decide)).mp (Decidable.not_not.mp c_100)
        refine ps_st (S' := (104, [(7, .int (nI (l.getD 0 0))), (0, .ref m0), (1, .int 0), (2, .int t), (3, .int (nI p0)), (4, .int (nI e)), (5, .int (nI x)), (6, .int (nI s3))], [.int 5], M)) rfl rfl rfl ?_
        refine ps_st (S' := (175, [(0, .ref m0), (3, .int (nI p0)), (5, .int (nI x))], [.int 5], M)) rfl rfl rfl ?_
        refine ps_st (S' := (177, [(8, .int 5), (0, .ref m0), (3, .int (nI p0)), (5, .int (nI x))], [], M)) rfl rfl rfl ?_
        refine ps_st (S' := (178, [(8, .int 5), (0, .ref m0), (3, .int (nI p0)), (5, .int (nI x))], [.ref m0], M)) rfl rfl rfl ?_
        refine ps_st (S' := (179, [(8, .int 5), (0, .ref m0), (3, .int (nI p0)), (5, .int (nI x))], [.ref m0, .ref m0], M)) rfl rfl rfl ?_
        refine ps_st (S' := (180, [(8, .int 5), (0, .ref m0), (3, .int (nI p0)), (5, .int (nI x))], [.int (nI p0), .ref m0, .ref m0], M)) rfl rfl rfl ?_
        refine pl_call (a := [.ref m0, .int (nI p0)]) (rest := [.ref m0]) rfl rfl rfl (rd_u2 (n := n) (f := f) (p := p0) hR hF (by omega)) (fun v87 M88 q89 => ?_)
        obtain ⟨rfl, rfl⟩ := q89
        show pl _ _ _ (183, [(8, .int 5), (0, .ref m0), (3, .int (nI p0)), (5, .int (nI x))], [.int (nI (by2 f p0)), .ref m0], M) _
        have hu_180 := by2_lt f p0
        refine pl_call (a := [.ref m0, .int (nI (by2 f p0))]) (rest := []) rfl rfl rfl (rd_tag (n := n) (f := f) (tx := tx) (cN := cN) (A := A) (N := N) (mj := mj) (E := E) (k := (by2 f p0)) hR hi51 hi52 hi53 hF hY hP (hEP) (hN) (hmj) (by2_lt _ _)) (fun v90 M91 q92 => ?_)
        obtain ⟨rfl, rfl⟩ := q92
        show pl _ _ _ (186, [(8, .int 5), (0, .ref m0), (3, .int (nI p0)), (5, .int (nI x))], [.int (nI (tg f E (by2 f p0)))], M) _
        have htg_183 := tg_lt f E (by2 f p0)
        refine ps_st (S' := (188, [(8, .int 5), (0, .ref m0), (3, .int (nI p0)), (5, .int (nI x))], [.int 5, .int (nI (tg f E (by2 f p0)))], M)) rfl rfl rfl ?_
        refine ps_if2 (S1 := (194, [(8, .int 5), (0, .ref m0), (3, .int (nI p0)), (5, .int (nI x))], [], M)) (S2 := (191, [(8, .int 5), (0, .ref m0), (3, .int (nI p0)), (5, .int (nI x))], [], M)) rfl rfl rfl (fun c_188 => ?_) (fun c_188 => ?_)
        · have c_188 : (nI (tg f E (by2 f p0))) = 5 := of_decide_eq_true c_188
          have n_188 : tg f E (by2 f p0) = 5 := (eq_nI (p := tg f E (by2 f p0)) (n := 5) (Nat.lt_trans (tg_lt _ _ _) (by decide)) (by decide)).mp c_188
          refine ps_st (S' := (195, [(8, .int 5), (0, .ref m0), (3, .int (nI p0)), (5, .int (nI x))], [.ref m0], M)) rfl rfl rfl ?_
          refine pr_ref (j := 30) (S' := (198, [(8, .int 5), (0, .ref m0), (3, .int (nI p0)), (5, .int (nI x))], [.ref (q 30)], M)) rfl hR rfl rfl ?_
          refine ps_st (S' := (200, [(8, .int 5), (0, .ref m0), (3, .int (nI p0)), (5, .int (nI x))], [.int (nI x), .ref (q 30)], M)) rfl rfl rfl ?_
          refine ps_st (S' := (201, [(8, .int 5), (0, .ref m0), (3, .int (nI p0)), (5, .int (nI x))], [.ref m0, .int (nI x), .ref (q 30)], M)) rfl rfl rfl ?_
          refine ps_st (S' := (202, [(8, .int 5), (0, .ref m0), (3, .int (nI p0)), (5, .int (nI x))], [.int (nI p0), .ref m0, .int (nI x), .ref (q 30)], M)) rfl rfl rfl ?_
          refine pl_call (a := [.ref m0, .int (nI p0)]) (rest := [.int (nI x), .ref (q 30)]) rfl rfl rfl (rd_u2 (n := n) (f := f) (p := p0) hR hF (by omega)) (fun v93 M94 q95 => ?_)
          obtain ⟨rfl, rfl⟩ := q95
          show pl _ _ _ (205, [(8, .int 5), (0, .ref m0), (3, .int (nI p0)), (5, .int (nI x))], [.int (nI (by2 f p0)), .int (nI x), .ref (q 30)], M) _
          have hu_202 := by2_lt f p0
          refine pr_st (a := 30) (j := x) rfl hR rfl (by omega) (fun M96 R97 i1_205 hR98 hS99 => ?_)
          have hF_100 := hF.mono (fun _ _ => rfl) (rRx hS99 (by decide))
          have hY_101 := hY.mono (fun _ _ => rfl) (rRx hS99 (by decide))
          have hP_102 := hP.mono (fun _ _ => rfl) (rRx hS99 (by decide))
          have hER103 := hER.st hS99 (by decide)
          show pl _ _ _ (206, [(8, .int 5), (0, .ref m0), (3, .int (nI p0)), (5, .int (nI x))], [], M96) _
          refine ps_st (S' := (207, [(8, .int 5), (0, .ref m0), (3, .int (nI p0)), (5, .int (nI x))], [.int 0], M96)) rfl rfl rfl ?_
          exact ps_ret rfl rfl (Or.inr (Or.inr ⟨I, R97, (fe_1 (by decide) (by omega)).trans (congrArg some (by omega)), Or.inr (((ct_ne hfd (by omega) (by omega)).trans (congrArg some (by rw [if_neg (by omega), if_pos (by omega)]))).trans (congrArg some (by omega))), rfl, hR98, hEI, hER103⟩))
        · have c_188 : ¬ ((nI (tg f E (by2 f p0))) = 5) := of_decide_eq_false c_188
          have n_188 : ¬ (tg f E (by2 f p0) = 5) := fun h9 => c_188 ((eq_nI (p := tg f E (by2 f p0)) (n := 5) (Nat.lt_trans (tg_lt _ _ _) (by decide)) (by decide)).mpr h9)
          refine ps_st (S' := (193, [(8, .int 5), (0, .ref m0), (3, .int (nI p0)), (5, .int (nI x))], [.int 31], M)) rfl rfl rfl ?_
          exact ps_ret rfl rfl (Or.inr (Or.inl ⟨I, R, (fe_1 (by decide) (by omega)).trans (congrArg some (by omega)), ⟨by omega, fun h9 => (by have h8 := ((ct_ne hfd (by omega) (by omega)).trans (congrArg some (by rw [if_neg (by omega), if_pos (by omega)]))).symm.trans h9; have h7 := Option.some.inj h8; omega)⟩, rfl, hR, hEI, hER⟩))
    · have c_77 : ¬ (¬ (nI (aN fl 8)) = 0) := of_decide_eq_false c_77
      have n_77 : aN fl 8 = 0 := (eq_nI (p := aN fl 8) (n := 0) (Nat.lt_of_le_of_lt (an_le _ _) (by decide)) (by decide)).mp (Decidable.not_not.mp c_77)
      refine ps_st (S' := (81, [(0, .ref m0), (1, .int 0), (2, .int t), (3, .int (nI p0)), (4, .int (nI e)), (5, .int (nI x)), (6, .int (nI s3))], [.int 0], M)) rfl rfl rfl ?_
      exact ps_ret rfl rfl (Or.inr (Or.inr ⟨I, R, (fe_1 (by decide) (by omega)).trans (congrArg some (by omega)), Or.inl (by omega), rfl, hR, hEI, hER⟩))
  · have c_61 : ¬ ((nI (e - p0)) = 2) := of_decide_eq_false c_61
    have n_61 : ¬ (e - p0 = 2) := fun h9 => c_61 ((eq_nI (p := e - p0) (n := 2) (by omega) (by decide)).mpr h9)
    refine ps_st (S' := (66, [(0, .ref m0), (1, .int 0), (2, .int t), (3, .int (nI p0)), (4, .int (nI e)), (5, .int (nI x)), (6, .int (nI s3))], [.int 30], M)) rfl rfl rfl ?_
    exact ps_ret rfl rfl (Or.inl ⟨I, R, (fun h9 => (by have h7 := s_fe_in h9; have h8 := Option.some.inj ((fe_1 (by decide) (by omega)).symm.trans h9); omega)), rfl, hR, hEI, hER⟩)
end
section
/-! a field's attributes, as the reference checks them (laid by wip/p4/e14.py) -/

theorem lt_15 : ltx 15 = ltx 0 := by decide +kernel
theorem kb_1 {mj : Nat} {l : List Nat} : kb mj 1 l 10 = if ¬ eqN l (ltx 15) = 0 then some 0 else none := by
  simp only [kb, kiN, kfN]
  simp
theorem has_9 {x w : Nat} : hasN x w = 0 ↔ aN x w = 0 := by
  unfold hasN
  split <;> omega
def FX (fl ds x : Nat) (I : rI) (R : rR) : Prop := R 27 x = some (nI fl) ∧ R 29 x = some (nI ds)
theorem FX.mono {fl ds x : Nat} {I I' : rI} {R R' : rR} (h : FX fl ds x I R) (hI : ∀ k, k ∈ ([] : List Nat) → I' k = I k) (hR : ∀ k, k ∈ [27, 29] → R' k = R k) : FX fl ds x I' R' := by
  unfold FX
  rw [hR 27 (by decide), hR 29 (by decide)]
  exact h
def MX (fl ds x : Nat) (I : rI) (R : rR) : Prop := R 34 x = some (nI fl) ∧ R 36 x = some (nI ds)
theorem MX.mono {fl ds x : Nat} {I I' : rI} {R R' : rR} (h : MX fl ds x I R) (hI : ∀ k, k ∈ ([] : List Nat) → I' k = I k) (hR : ∀ k, k ∈ [34, 36] → R' k = R k) : MX fl ds x I' R' := by
  unfold MX
  rw [hR 34 (by decide), hR 36 (by decide)]
  exact h
section FAS
variable {f : Nat → Int32} {n : Nat} {E : List (Nat × Nat)} {x c i p s : Nat} {d : List Nat}
theorem faS_28 (h : i < c) (ht : ¬ tg f E (by2 f p) = 1) : faS f n E x d (c - i) p s = some (28, p) := by
  rw [faS_st h, show nwS f E s (fkN f n E (by2 f p)) p = .inl (28, p) by unfold nwS; rw [if_pos ht]]
theorem faS_29 (h : i < c) (ht : tg f E (by2 f p) = 1) (hk : fkN f n E (by2 f p) = 1) (hs : ¬ sb s 1 = 0) : faS f n E x d (c - i) p s = some (29, p) := by
  rw [faS_st h, hk, show nwS f E s 1 p = .inl (29, p) by unfold nwS; rw [if_neg (fun h9 => h9 ht), if_neg (by decide), if_pos hs]]
theorem faS_u (h : i < c) (ht : tg f E (by2 f p) = 1) (hk : fkN f n E (by2 f p) = 0) : faS f n E x d (c - i) p s = faS f n E x d (c - (i + 1)) (p + 6 + by4 f (p + 2)) s := by
  rw [faS_st h, show nwS f E s (fkN f n E (by2 f p)) p = .inr s by unfold nwS; rw [if_neg (fun h9 => h9 ht), if_pos hk]]
  dsimp only
  rw [if_neg (fun h9 => h9.1 hk), if_neg (fun h9 => h9.1 hk)]
theorem faS_k (h : i < c) (ht : tg f E (by2 f p) = 1) (hk : fkN f n E (by2 f p) = 1) (hs : sb s 1 = 0) : faS f n E x d (c - i) p s = if ¬ s_fe f 1 (p + 6) (p + 6 + by4 f (p + 2)) = some (p + 6 + by4 f (p + 2)) then some (30, p) else if ¬ hasN x 8 = 0 ∧ ¬ ctS d = some (tg f E (by2 f (p + 6))) then some (31, p) else faS f n E x d (c - (i + 1)) (p + 6 + by4 f (p + 2)) (so s 1) := by
  rw [faS_st h, hk, show nwS f E s 1 p = .inr (so s 1) by unfold nwS; rw [if_neg (fun h9 => h9 ht), if_neg (by decide), if_neg (fun h9 => h9 hs)]]
  simp only [Nat.one_ne_zero, not_false_eq_true, true_and]
end FAS
set_option maxHeartbeats 4000000 in
theorem rd_checkAttributes1 {g : xe_G} {m0 : Nat} {q : Nat → Nat} {z : Nat × Nat} {I : rI} {R : rR} {M : mi_H} {n : Nat} {f : Nat → Int32} {tx : List (List Nat)} {cN : Nat} {A : Nat → Nat} {N mj : Nat} {E : List (Nat × Nat)} {p1 e x fl ds : Nat} {l : List Nat} (hR : RS g m0 q z I R M) (hi51 : I 51 = some 0) (hi52 : I 52 = some (nI N)) (hi53 : I 53 = some (nI mj)) (hF : FK n f I R) (hY : SYT tx cN A I R) (hP : RPV f n E tx N I R) (hK : KX I R) (hX : FX fl ds x I R) (hEP : EP f n E) (hN : N < 65536) (hmj : mj < 65536) (hin : p1 + 2 ≤ e ∧ e ≤ n) (hat : s_atE f e (by2 f p1) (p1 + 2) = some e) (hx : x < 8300) (hdt : ds < tx.length ∧ tx.getD ds [] = l) (hfd : ¬ fldN l = 0) (hf6 : fl < 65536) : pt (mT g) 187 [.ref m0, .int (nI p1), .int 1, .int (nI x)] M (fun v M' => (∃ (e9 : Nat × Nat) (I' : rI) (R' : rR), (faS f n E fl l (by2 f p1) (p1 + 2) 0 = some e9) ∧ v = some (.int (-1)) ∧ RS g m0 q z I' R' M' ∧ eqI [47, 48] I I' ∧ eqR [30, 31] R R' ∧ I' 47 = some (nI e9.1) ∧ I' 48 = some (nI e9.2)) ∨ (∃  (I' : rI) (R' : rR), (faS f n E fl l (by2 f p1) (p1 + 2) 0 = none) ∧ v = some (.int (nI e)) ∧ RS g m0 q z I' R' M' ∧ eqI [47, 48] I I' ∧ eqR [30, 31] R R')) := by
  refine pt_in (b := mb_187 g) rfl (fun kf => ?_)
  show pl (mT g) kf (mb_187 g).2 (0, [(0, .ref m0), (1, .int (nI p1)), (2, .int 1), (3, .int (nI x))], [], M) _
  have hEI : eqI [47, 48] I I := eqI.rf
  have hER : eqR [30, 31] R R := eqR.rf
  have hn := hF.1
  have LL : ∀ (kf : Nat), (∀ (i p s2 s3 : Nat) (M1 : mi_H) (I1 : rI) (R1 : rR), (RS g m0 q z I1 R1 M1) → (eqI [47, 48] I I1) → (eqR [30, 31] R R1) → (I1 51 = some 0) → (I1 52 = some (nI N)) → (I1 53 = some (nI mj)) → (FK n f I1 R1) → (SYT tx cN A I1 R1) → (RPV f n E tx N I1 R1) → (KX I1 R1) → (FX fl ds x I1 R1) → (i ≤ by2 f p1) → (s3 < 2048) → (sb s3 0 = sb s2 1) → (s_atE f e (by2 f p1 - i) p = some e) → (faS f n E fl l (by2 f p1 - i) p s2 = faS f n E fl l (by2 f p1) (p1 + 2) 0) →  pl (mT g) kf (mb_187 g).2 (18, [(0, .ref m0), (2, .int 1), (3, .int (nI x)), (4, .int (nI (by2 f p1))), (5, .int (nI p)), (6, .int (nI s3)), (7, .int (nI i))], [], M1) (fun v M' => (∃ (e9 : Nat × Nat) (I' : rI) (R' : rR), (faS f n E fl l (by2 f p1) (p1 + 2) 0 = some e9) ∧ v = some (.int (-1)) ∧ RS g m0 q z I' R' M' ∧ eqI [47, 48] I I' ∧ eqR [30, 31] R R' ∧ I' 47 = some (nI e9.1) ∧ I' 48 = some (nI e9.2)) ∨ (∃  (I' : rI) (R' : rR), (faS f n E fl l (by2 f p1) (p1 + 2) 0 = none) ∧ v = some (.int (nI e)) ∧ RS g m0 q z I' R' M' ∧ eqI [47, 48] I I' ∧ eqR [30, 31] R R'))) ∧ (∀ (i p s2 s3 k t : Nat) (M1 : mi_H) (I1 : rI) (R1 : rR), (RS g m0 q z I1 R1 M1) → (eqI [47, 48] I I1) → (eqR [30, 31] R R1) → (I1 51 = some 0) → (I1 52 = some (nI N)) → (I1 53 = some (nI mj)) → (FK n f I1 R1) → (SYT tx cN A I1 R1) → (RPV f n E tx N I1 R1) → (KX I1 R1) → (FX fl ds x I1 R1) → (i < by2 f p1) → (s3 < 2048) → (sb s3 0 = sb s2 1) → (s_atE f e (by2 f p1 - i) p = some e) → (faS f n E fl l (by2 f p1 - i) p s2 = faS f n E fl l (by2 f p1) (p1 + 2) 0) → (k ≤ 10) → (tg f E (by2 f p) = 1) → (t < tx.length ∧ tx.getD t [] = tX f n E (by2 f p)) →  pl (mT g) kf (mb_187 g).2 (79, [(0, .ref m0), (2, .int 1), (3, .int (nI x)), (4, .int (nI (by2 f p1))), (5, .int (nI p)), (6, .int (nI s3)), (7, .int (nI i)), (8, .int (nI (by4 f (p + 2)))), (9, .int (nI t)), (10, .int (gI (kb mj 1 (tX f n E (by2 f p)) k))), (11, .int (nI k))], [], M1) (fun v M' => (∃ (e9 : Nat × Nat) (I' : rI) (R' : rR), (faS f n E fl l (by2 f p1) (p1 + 2) 0 = some e9) ∧ v = some (.int (-1)) ∧ RS g m0 q z I' R' M' ∧ eqI [47, 48] I I' ∧ eqR [30, 31] R R' ∧ I' 47 = some (nI e9.1) ∧ I' 48 = some (nI e9.2)) ∨ (∃  (I' : rI) (R' : rR), (faS f n E fl l (by2 f p1) (p1 + 2) 0 = none) ∧ v = some (.int (nI e)) ∧ RS g m0 q z I' R' M' ∧ eqI [47, 48] I I' ∧ eqR [30, 31] R R'))) := by
    intro kf
    induction kf with
    | zero => exact ⟨by intros; exact pl_0, by intros; exact pl_0⟩
    | succ kf ih =>
      refine ⟨?_, ?_⟩
      · skip
        intro i p s2 s3 M1 I1 R1 hR1 hEI1 hER1 hl51 hl52 hl53 hF1 hY1 hP1 hK1 hX1 hi hl hb ha hs9
        have hn := hF1.1
        have hu9 := by2_lt f p1
        have htl := hY1.1.2.2.1
        refine ps_st1 (S' := (20, [(0, .ref m0), (2, .int 1), (3, .int (nI x)), (4, .int (nI (by2 f p1))), (5, .int (nI p)), (6, .int (nI s3)), (7, .int (nI i))], [.int (nI i)], M1)) rfl rfl rfl ?_
        refine ps_st (S' := (22, [(0, .ref m0), (2, .int 1), (3, .int (nI x)), (4, .int (nI (by2 f p1))), (5, .int (nI p)), (6, .int (nI s3)), (7, .int (nI i))], [.int (nI (by2 f p1)), .int (nI i)], M1)) rfl rfl rfl ?_
        refine ps_if2 (S1 := (284, [(0, .ref m0), (2, .int 1), (3, .int (nI x)), (4, .int (nI (by2 f p1))), (5, .int (nI p)), (6, .int (nI s3)), (7, .int (nI i))], [], M1)) (S2 := (25, [(0, .ref m0), (2, .int 1), (3, .int (nI x)), (4, .int (nI (by2 f p1))), (5, .int (nI p)), (6, .int (nI s3)), (7, .int (nI i))], [], M1)) rfl rfl rfl (fun c_22 => ?_) (fun c_22 => ?_)
        · have c_22 : (nI (by2 f p1)) ≤ (nI i) := of_decide_eq_true c_22
          have n_22 : by2 f p1 ≤ i := (le_nI (p := by2 f p1) (n := i) (Nat.lt_trans (by2_lt _ _) (by decide)) (by omega)).mp c_22
          refine ps_st (S' := (286, [(0, .ref m0), (2, .int 1), (3, .int (nI x)), (4, .int (nI (by2 f p1))), (5, .int (nI p)), (6, .int (nI s3)), (7, .int (nI i))], [.int (nI p)], M1)) rfl rfl rfl ?_
          exact ps_reti rfl (Or.inr ⟨I1, R1, by rw [← hs9, show by2 f p1 - i = 0 by omega]; rfl, by rw [show e = p by (rw [show by2 f p1 - i = 0 by omega] at ha; exact (Option.some.inj ha).symm)], hR1, hEI1, hER1⟩)
        · have c_22 : ¬ ((nI (by2 f p1)) ≤ (nI i)) := of_decide_eq_false c_22
          have n_22 : ¬ (by2 f p1 ≤ i) := fun h9 => c_22 ((le_nI (p := by2 f p1) (n := i) (Nat.lt_trans (by2_lt _ _) (by decide)) (by omega)).mpr h9)
          obtain ⟨hq5, hq6, hq7⟩ := s_atE_in (i := i) (p := p) ha (by omega)
          refine ps_st (S' := (26, [(0, .ref m0), (2, .int 1), (3, .int (nI x)), (4, .int (nI (by2 f p1))), (5, .int (nI p)), (6, .int (nI s3)), (7, .int (nI i))], [.ref m0], M1)) rfl rfl rfl ?_
          refine ps_st (S' := (28, [(0, .ref m0), (2, .int 1), (3, .int (nI x)), (4, .int (nI (by2 f p1))), (5, .int (nI p)), (6, .int (nI s3)), (7, .int (nI i))], [.int (nI p), .ref m0], M1)) rfl rfl rfl ?_
          refine ps_st (S' := (29, [(0, .ref m0), (2, .int 1), (3, .int (nI x)), (4, .int (nI (by2 f p1))), (5, .int (nI p)), (6, .int (nI s3)), (7, .int (nI i))], [.int 2, .int (nI p), .ref m0], M1)) rfl rfl rfl ?_
          refine ps_st (S' := (30, [(0, .ref m0), (2, .int 1), (3, .int (nI x)), (4, .int (nI (by2 f p1))), (5, .int (nI p)), (6, .int (nI s3)), (7, .int (nI i))], [.int ((nI p) + 2), .ref m0], M1)) rfl rfl rfl ?_
          rw [nI_add1 (p := p) (k := 2) (x := 2) rfl (by omega)]
          show pl _ _ _ (_, [(0, .ref m0), (2, .int 1), (3, .int (nI x)), (4, .int (nI (by2 f p1))), (5, .int (nI p)), (6, .int (nI s3)), (7, .int (nI i))], [.int (nI (p + 2)), .ref m0], M1) _
          refine pl_call (a := [.ref m0, .int (nI (p + 2))]) (rest := []) rfl rfl rfl (rd_u4 (n := n) (f := f) (p := (p + 2)) hR1 hF1 (by omega)) (fun v1 M2 q3 => ?_)
          obtain ⟨rfl, rfl⟩ := q3
          show pl _ _ _ (33, [(0, .ref m0), (2, .int 1), (3, .int (nI x)), (4, .int (nI (by2 f p1))), (5, .int (nI p)), (6, .int (nI s3)), (7, .int (nI i))], [.long (nL (by4 f (p + 2)))], M1) _
          have hu_30 := by4_lt f (p + 2)
          refine ps_st (S' := (34, [(0, .ref m0), (2, .int 1), (3, .int (nI x)), (4, .int (nI (by2 f p1))), (5, .int (nI p)), (6, .int (nI s3)), (7, .int (nI i))], [.int (Int64.toInt32 (nL (by4 f (p + 2))))], M1)) rfl rfl rfl ?_
          rw [l2i_nL (p := by4 f (p + 2)) (by omega)]
          show pl _ _ _ (_, [(0, .ref m0), (2, .int 1), (3, .int (nI x)), (4, .int (nI (by2 f p1))), (5, .int (nI p)), (6, .int (nI s3)), (7, .int (nI i))], [.int (nI (by4 f (p + 2)))], M1) _
          refine ps_st (S' := (36, [(8, .int (nI (by4 f (p + 2)))), (0, .ref m0), (2, .int 1), (3, .int (nI x)), (4, .int (nI (by2 f p1))), (5, .int (nI p)), (6, .int (nI s3)), (7, .int (nI i))], [], M1)) rfl rfl rfl ?_
          refine ps_st (S' := (37, [(8, .int (nI (by4 f (p + 2)))), (0, .ref m0), (2, .int 1), (3, .int (nI x)), (4, .int (nI (by2 f p1))), (5, .int (nI p)), (6, .int (nI s3)), (7, .int (nI i))], [.ref m0], M1)) rfl rfl rfl ?_
          refine ps_st (S' := (38, [(8, .int (nI (by4 f (p + 2)))), (0, .ref m0), (2, .int 1), (3, .int (nI x)), (4, .int (nI (by2 f p1))), (5, .int (nI p)), (6, .int (nI s3)), (7, .int (nI i))], [.ref m0, .ref m0], M1)) rfl rfl rfl ?_
          refine ps_st (S' := (40, [(8, .int (nI (by4 f (p + 2)))), (0, .ref m0), (2, .int 1), (3, .int (nI x)), (4, .int (nI (by2 f p1))), (5, .int (nI p)), (6, .int (nI s3)), (7, .int (nI i))], [.int (nI p), .ref m0, .ref m0], M1)) rfl rfl rfl ?_
          refine pl_call (a := [.ref m0, .int (nI p)]) (rest := [.ref m0]) rfl rfl rfl (rd_u2 (n := n) (f := f) (p := p) hR1 hF1 (by omega)) (fun v4 M5 q6 => ?_)
          obtain ⟨rfl, rfl⟩ := q6
          show pl _ _ _ (43, [(8, .int (nI (by4 f (p + 2)))), (0, .ref m0), (2, .int 1), (3, .int (nI x)), (4, .int (nI (by2 f p1))), (5, .int (nI p)), (6, .int (nI s3)), (7, .int (nI i))], [.int (nI (by2 f p)), .ref m0], M1) _
          have hu_40 := by2_lt f p
          refine pl_call (a := [.ref m0, .int (nI (by2 f p))]) (rest := []) rfl rfl rfl (rd_tag (n := n) (f := f) (tx := tx) (cN := cN) (A := A) (N := N) (mj := mj) (E := E) (k := (by2 f p)) hR1 hl51 hl52 hl53 hF1 hY1 hP1 (hEP) (hN) (hmj) (by2_lt _ _)) (fun v7 M8 q9 => ?_)
          obtain ⟨rfl, rfl⟩ := q9
          show pl _ _ _ (46, [(8, .int (nI (by4 f (p + 2)))), (0, .ref m0), (2, .int 1), (3, .int (nI x)), (4, .int (nI (by2 f p1))), (5, .int (nI p)), (6, .int (nI s3)), (7, .int (nI i))], [.int (nI (tg f E (by2 f p)))], M1) _
          have htg_43 := tg_lt f E (by2 f p)
          refine ps_st (S' := (47, [(8, .int (nI (by4 f (p + 2)))), (0, .ref m0), (2, .int 1), (3, .int (nI x)), (4, .int (nI (by2 f p1))), (5, .int (nI p)), (6, .int (nI s3)), (7, .int (nI i))], [.int 1, .int (nI (tg f E (by2 f p)))], M1)) rfl rfl rfl ?_
          refine ps_if2 (S1 := (61, [(8, .int (nI (by4 f (p + 2)))), (0, .ref m0), (2, .int 1), (3, .int (nI x)), (4, .int (nI (by2 f p1))), (5, .int (nI p)), (6, .int (nI s3)), (7, .int (nI i))], [], M1)) (S2 := (50, [(8, .int (nI (by4 f (p + 2)))), (0, .ref m0), (2, .int 1), (3, .int (nI x)), (4, .int (nI (by2 f p1))), (5, .int (nI p)), (6, .int (nI s3)), (7, .int (nI i))], [], M1)) rfl rfl rfl (fun c_47 => ?_) (fun c_47 => ?_)
          · have c_47 : (nI (tg f E (by2 f p))) = 1 := of_decide_eq_true c_47
            have n_47 : tg f E (by2 f p) = 1 := (eq_nI (p := tg f E (by2 f p)) (n := 1) (Nat.lt_trans (tg_lt _ _ _) (by decide)) (by decide)).mp c_47
            refine ps_st (S' := (62, [(8, .int (nI (by4 f (p + 2)))), (0, .ref m0), (2, .int 1), (3, .int (nI x)), (4, .int (nI (by2 f p1))), (5, .int (nI p)), (6, .int (nI s3)), (7, .int (nI i))], [.ref m0], M1)) rfl rfl rfl ?_
            refine ps_st (S' := (63, [(8, .int (nI (by4 f (p + 2)))), (0, .ref m0), (2, .int 1), (3, .int (nI x)), (4, .int (nI (by2 f p1))), (5, .int (nI p)), (6, .int (nI s3)), (7, .int (nI i))], [.ref m0, .ref m0], M1)) rfl rfl rfl ?_
            refine ps_st (S' := (65, [(8, .int (nI (by4 f (p + 2)))), (0, .ref m0), (2, .int 1), (3, .int (nI x)), (4, .int (nI (by2 f p1))), (5, .int (nI p)), (6, .int (nI s3)), (7, .int (nI i))], [.int (nI p), .ref m0, .ref m0], M1)) rfl rfl rfl ?_
            refine pl_call (a := [.ref m0, .int (nI p)]) (rest := [.ref m0]) rfl rfl rfl (rd_u2 (n := n) (f := f) (p := p) hR1 hF1 (by omega)) (fun v10 M11 q12 => ?_)
            obtain ⟨rfl, rfl⟩ := q12
            show pl _ _ _ (68, [(8, .int (nI (by4 f (p + 2)))), (0, .ref m0), (2, .int 1), (3, .int (nI x)), (4, .int (nI (by2 f p1))), (5, .int (nI p)), (6, .int (nI s3)), (7, .int (nI i))], [.int (nI (by2 f p)), .ref m0], M1) _
            have hu_65 := by2_lt f p
            refine pl_call (a := [.ref m0, .int (nI (by2 f p))]) (rest := []) rfl rfl rfl (rd_symOf (n := n) (f := f) (tx := tx) (cN := cN) (A := A) (N := N) (mj := mj) (E := E) (k := (by2 f p)) hR1 hl51 hl52 hl53 hF1 hY1 hP1 (hEP) (hN) (hmj) (by omega)) (fun v13 M14 q15 => ?_)
            obtain ⟨s16, q68_s, rfl, rfl⟩ := q15
            show pl _ _ _ (71, [(8, .int (nI (by4 f (p + 2)))), (0, .ref m0), (2, .int 1), (3, .int (nI x)), (4, .int (nI (by2 f p1))), (5, .int (nI p)), (6, .int (nI s3)), (7, .int (nI i))], [.int (nI s16)], M1) _
            have hsl_68 := q68_s.1
            have htl_68 := hY1.1.2.2.1
            refine ps_st (S' := (73, [(9, .int (nI s16)), (8, .int (nI (by4 f (p + 2)))), (0, .ref m0), (2, .int 1), (3, .int (nI x)), (4, .int (nI (by2 f p1))), (5, .int (nI p)), (6, .int (nI s3)), (7, .int (nI i))], [], M1)) rfl rfl rfl ?_
            refine ps_st (S' := (74, [(9, .int (nI s16)), (8, .int (nI (by4 f (p + 2)))), (0, .ref m0), (2, .int 1), (3, .int (nI x)), (4, .int (nI (by2 f p1))), (5, .int (nI p)), (6, .int (nI s3)), (7, .int (nI i))], [.int (-1)], M1)) rfl rfl rfl ?_
            refine ps_st (S' := (76, [(10, .int (-1)), (9, .int (nI s16)), (8, .int (nI (by4 f (p + 2)))), (0, .ref m0), (2, .int 1), (3, .int (nI x)), (4, .int (nI (by2 f p1))), (5, .int (nI p)), (6, .int (nI s3)), (7, .int (nI i))], [], M1)) rfl rfl rfl ?_
            refine ps_st (S' := (77, [(10, .int (-1)), (9, .int (nI s16)), (8, .int (nI (by4 f (p + 2)))), (0, .ref m0), (2, .int 1), (3, .int (nI x)), (4, .int (nI (by2 f p1))), (5, .int (nI p)), (6, .int (nI s3)), (7, .int (nI i))], [.int 0], M1)) rfl rfl rfl ?_
            refine ps_st (S' := (79, [(0, .ref m0), (2, .int 1), (3, .int (nI x)), (4, .int (nI (by2 f p1))), (5, .int (nI p)), (6, .int (nI s3)), (7, .int (nI i)), (8, .int (nI (by4 f (p + 2)))), (9, .int (nI s16)), (10, .int (-1)), (11, .int 0)], [], M1)) rfl rfl rfl ?_
            exact ih.2 (i) (p) (s2) (s3) (0) (s16) M1 I1 R1 hR1 hEI1 hER1 hl51 hl52 hl53 hF1 hY1 hP1 hK1 hX1 (by omega) (hl) (hb) (ha) (hs9) (by omega) (by omega) (q68_s)
          · have c_47 : ¬ ((nI (tg f E (by2 f p))) = 1) := of_decide_eq_false c_47
            have n_47 : ¬ (tg f E (by2 f p) = 1) := fun h9 => c_47 ((eq_nI (p := tg f E (by2 f p)) (n := 1) (Nat.lt_trans (tg_lt _ _ _) (by decide)) (by decide)).mpr h9)
            refine ps_st (S' := (51, [(8, .int (nI (by4 f (p + 2)))), (0, .ref m0), (2, .int 1), (3, .int (nI x)), (4, .int (nI (by2 f p1))), (5, .int (nI p)), (6, .int (nI s3)), (7, .int (nI i))], [.ref m0], M1)) rfl rfl rfl ?_
            refine ps_st (S' := (53, [(8, .int (nI (by4 f (p + 2)))), (0, .ref m0), (2, .int 1), (3, .int (nI x)), (4, .int (nI (by2 f p1))), (5, .int (nI p)), (6, .int (nI s3)), (7, .int (nI i))], [.int 28, .ref m0], M1)) rfl rfl rfl ?_
            refine ps_st (S' := (55, [(8, .int (nI (by4 f (p + 2)))), (0, .ref m0), (2, .int 1), (3, .int (nI x)), (4, .int (nI (by2 f p1))), (5, .int (nI p)), (6, .int (nI s3)), (7, .int (nI i))], [.int (nI p), .int 28, .ref m0], M1)) rfl rfl rfl ?_
            refine pl_call (a := [.ref m0, .int 28, .int (nI p)]) (rest := []) rfl rfl rfl (rd_wrong (x1 := 28) (x2 := (nI p)) hR1) (fun v17 M18 q19 => ?_)
            obtain ⟨I20, R21, rfl, hR22, hI23, hX24, hi25, hi26⟩ := q19
            have hi27 := (hI23 51 (by decide)).trans hl51
            have hi28 := (hI23 52 (by decide)).trans hl52
            have hi29 := (hI23 53 (by decide)).trans hl53
            have hF_30 := hF1.mono (cIx hI23 (by decide)) (cRx hX24 (by decide))
            have hY_31 := hY1.mono (cIx hI23 (by decide)) (cRx hX24 (by decide))
            have hP_32 := hP1.mono (cIx hI23 (by decide)) (cRx hX24 (by decide))
            have hK_33 := hK1.mono (cIx hI23 (by decide)) (cRx hX24 (by decide))
            have hX_34 := hX1.mono (cIx hI23 (by decide)) (cRx hX24 (by decide))
            have hEI35 := hEI1.tr hI23 (by decide)
            have hER36 := hER1.tr hX24 (by decide)
            show pl _ _ _ (58, [(8, .int (nI (by4 f (p + 2)))), (0, .ref m0), (2, .int 1), (3, .int (nI x)), (4, .int (nI (by2 f p1))), (5, .int (nI p)), (6, .int (nI s3)), (7, .int (nI i))], [.int 0], M18) _
            refine ps_st (S' := (59, [(8, .int (nI (by4 f (p + 2)))), (0, .ref m0), (2, .int 1), (3, .int (nI x)), (4, .int (nI (by2 f p1))), (5, .int (nI p)), (6, .int (nI s3)), (7, .int (nI i))], [], M18)) rfl rfl rfl ?_
            refine ps_st (S' := (60, [(8, .int (nI (by4 f (p + 2)))), (0, .ref m0), (2, .int 1), (3, .int (nI x)), (4, .int (nI (by2 f p1))), (5, .int (nI p)), (6, .int (nI s3)), (7, .int (nI i))], [.int (-1)], M18)) rfl rfl rfl ?_
            exact ps_ret rfl rfl (Or.inl ⟨(28, p), I20, R21, by
                rw [← hs9, faS_28 (i := i) (p := p) (s := s2) (by omega) (by omega)], rfl, hR22, hEI35, hER36, hi25, hi26⟩)
      · skip
        intro i p s2 s3 k t M1 I1 R1 hR1 hEI1 hER1 hl51 hl52 hl53 hF1 hY1 hP1 hK1 hX1 hi0 hl hb ha hs9 hk h1 hsy
        have hn := hF1.1
        have hu9 := by2_lt f p1
        have htl := hY1.1.2.2.1
        obtain ⟨hq5, hq6, hq7⟩ := s_atE_in (i := i) (p := p) ha hi0
        refine ps_st1 (S' := (81, [(0, .ref m0), (2, .int 1), (3, .int (nI x)), (4, .int (nI (by2 f p1))), (5, .int (nI p)), (6, .int (nI s3)), (7, .int (nI i)), (8, .int (nI (by4 f (p + 2)))), (9, .int (nI t)), (10, .int (gI (kb mj 1 (tX f n E (by2 f p)) k))), (11, .int (nI k))], [.int (nI k)], M1)) rfl rfl rfl ?_
        refine ps_st (S' := (82, [(0, .ref m0), (2, .int 1), (3, .int (nI x)), (4, .int (nI (by2 f p1))), (5, .int (nI p)), (6, .int (nI s3)), (7, .int (nI i)), (8, .int (nI (by4 f (p + 2)))), (9, .int (nI t)), (10, .int (gI (kb mj 1 (tX f n E (by2 f p)) k))), (11, .int (nI k))], [.ref m0, .int (nI k)], M1)) rfl rfl rfl ?_
        refine pr_ref (j := 62) (S' := (85, [(0, .ref m0), (2, .int 1), (3, .int (nI x)), (4, .int (nI (by2 f p1))), (5, .int (nI p)), (6, .int (nI s3)), (7, .int (nI i)), (8, .int (nI (by4 f (p + 2)))), (9, .int (nI t)), (10, .int (gI (kb mj 1 (tX f n E (by2 f p)) k))), (11, .int (nI k))], [.ref (q 62), .int (nI k)], M1)) rfl hR1 rfl rfl ?_
        refine pr_knl (S' := (86, [(0, .ref m0), (2, .int 1), (3, .int (nI x)), (4, .int (nI (by2 f p1))), (5, .int (nI p)), (6, .int (nI s3)), (7, .int (nI i)), (8, .int (nI (by4 f (p + 2)))), (9, .int (nI t)), (10, .int (gI (kb mj 1 (tX f n E (by2 f p)) k))), (11, .int (nI k))], [.int (nI 10), .int (nI k)], M1)) rfl hR1 rfl ?_
        refine ps_if2 (S1 := (140, [(0, .ref m0), (2, .int 1), (3, .int (nI x)), (4, .int (nI (by2 f p1))), (5, .int (nI p)), (6, .int (nI s3)), (7, .int (nI i)), (8, .int (nI (by4 f (p + 2)))), (9, .int (nI t)), (10, .int (gI (kb mj 1 (tX f n E (by2 f p)) k))), (11, .int (nI k))], [], M1)) (S2 := (89, [(0, .ref m0), (2, .int 1), (3, .int (nI x)), (4, .int (nI (by2 f p1))), (5, .int (nI p)), (6, .int (nI s3)), (7, .int (nI i)), (8, .int (nI (by4 f (p + 2)))), (9, .int (nI t)), (10, .int (gI (kb mj 1 (tX f n E (by2 f p)) k))), (11, .int (nI k))], [], M1)) rfl rfl rfl (fun c_86 => ?_) (fun c_86 => ?_)
        · have c_86 : (nI 10) ≤ (nI k) := of_decide_eq_true c_86
          have n_86 : 10 ≤ k := (le_nI (p := 10) (n := k) (by decide) (by omega)).mp c_86
          have ek : k = 10 := by omega
          have hkk := kb_1 (mj := mj) (l := tX f n E (by2 f p))
          refine ps_st (S' := (142, [(0, .ref m0), (2, .int 1), (3, .int (nI x)), (4, .int (nI (by2 f p1))), (5, .int (nI p)), (6, .int (nI s3)), (7, .int (nI i)), (8, .int (nI (by4 f (p + 2)))), (9, .int (nI t)), (10, .int (gI (kb mj 1 (tX f n E (by2 f p)) k))), (11, .int (nI k))], [.int (gI (kb mj 1 (tX f n E (by2 f p)) k))], M1)) rfl rfl rfl ?_
          refine ps_if (S1 := (268, [(0, .ref m0), (2, .int 1), (3, .int (nI x)), (4, .int (nI (by2 f p1))), (5, .int (nI p)), (6, .int (nI s3)), (7, .int (nI i)), (8, .int (nI (by4 f (p + 2))))], [], M1)) (S2 := (145, [(0, .ref m0), (2, .int 1), (3, .int (nI x)), (4, .int (nI (by2 f p1))), (5, .int (nI p)), (6, .int (nI s3)), (7, .int (nI i)), (8, .int (nI (by4 f (p + 2)))), (9, .int (nI t)), (10, .int (gI (kb mj 1 (tX f n E (by2 f p)) k))), (11, .int (nI k))], [], M1)) rfl rfl rfl (fun c_142 => ?_) (fun c_142 => ?_)
          · have c_142 : (gI (kb mj 1 (tX f n E (by2 f p)) k)) < 0 := of_decide_eq_true c_142
            have hc3 : ¬ (¬ eqN (tX f n E (by2 f p)) (ltx 15) = 0) := fun h9 => by
              rw [ek, hkk, if_pos h9] at c_142
              exact absurd c_142 (by decide)
            have hsm : fkN f n E (by2 f p) = 0 := by
              unfold fkN
              rw [← lt_15, if_pos (by omega)]
            refine ps_st (S' := (270, [(0, .ref m0), (2, .int 1), (3, .int (nI x)), (4, .int (nI (by2 f p1))), (5, .int (nI p)), (6, .int (nI s3)), (7, .int (nI i)), (8, .int (nI (by4 f (p + 2))))], [.int (nI p)], M1)) rfl rfl rfl ?_
            refine ps_st (S' := (272, [(0, .ref m0), (2, .int 1), (3, .int (nI x)), (4, .int (nI (by2 f p1))), (5, .int (nI p)), (6, .int (nI s3)), (7, .int (nI i)), (8, .int (nI (by4 f (p + 2))))], [.int 6, .int (nI p)], M1)) rfl rfl rfl ?_
            refine ps_st (S' := (274, [(0, .ref m0), (2, .int 1), (3, .int (nI x)), (4, .int (nI (by2 f p1))), (5, .int (nI p)), (6, .int (nI s3)), (7, .int (nI i)), (8, .int (nI (by4 f (p + 2))))], [.int (nI (by4 f (p + 2))), .int 6, .int (nI p)], M1)) rfl rfl rfl ?_
            refine ps_st (S' := (275, [(0, .ref m0), (2, .int 1), (3, .int (nI x)), (4, .int (nI (by2 f p1))), (5, .int (nI p)), (6, .int (nI s3)), (7, .int (nI i)), (8, .int (nI (by4 f (p + 2))))], [.int (6 + (nI (by4 f (p + 2)))), .int (nI p)], M1)) rfl rfl rfl ?_
            rw [nI_add2 (p := 6) (k := by4 f (p + 2)) (x := 6) (y := (nI (by4 f (p + 2)))) rfl rfl (by omega)]
            show pl _ _ _ (_, [(0, .ref m0), (2, .int 1), (3, .int (nI x)), (4, .int (nI (by2 f p1))), (5, .int (nI p)), (6, .int (nI s3)), (7, .int (nI i)), (8, .int (nI (by4 f (p + 2))))], [.int (nI (6 + by4 f (p + 2))), .int (nI p)], M1) _
            refine ps_st (S' := (276, [(0, .ref m0), (2, .int 1), (3, .int (nI x)), (4, .int (nI (by2 f p1))), (5, .int (nI p)), (6, .int (nI s3)), (7, .int (nI i)), (8, .int (nI (by4 f (p + 2))))], [.int ((nI p) + (nI (6 + by4 f (p + 2))))], M1)) rfl rfl rfl ?_
            rw [nI_add1 (p := p) (k := 6 + by4 f (p + 2)) (x := (nI (6 + by4 f (p + 2)))) rfl (by omega)]
            rw [show nI (p + (6 + by4 f (p + 2))) = nI (p + 6 + by4 f (p + 2)) from congrArg nI (by omega)]
            show pl _ _ _ (_, [(0, .ref m0), (2, .int 1), (3, .int (nI x)), (4, .int (nI (by2 f p1))), (5, .int (nI p)), (6, .int (nI s3)), (7, .int (nI i)), (8, .int (nI (by4 f (p + 2))))], [.int (nI (p + 6 + by4 f (p + 2)))], M1) _
            refine ps_st (S' := (278, [(5, .int (nI (p + 6 + by4 f (p + 2)))), (0, .ref m0), (2, .int 1), (3, .int (nI x)), (4, .int (nI (by2 f p1))), (6, .int (nI s3)), (7, .int (nI i)), (8, .int (nI (by4 f (p + 2))))], [], M1)) rfl rfl rfl ?_
            refine ps_st (S' := (281, [(7, .int ((nI i) + 1)), (5, .int (nI (p + 6 + by4 f (p + 2)))), (0, .ref m0), (2, .int 1), (3, .int (nI x)), (4, .int (nI (by2 f p1))), (6, .int (nI s3)), (8, .int (nI (by4 f (p + 2))))], [], M1)) rfl rfl rfl ?_
            rw [nI_add1 (p := i) (k := 1) (x := 1) rfl (by omega)]
            show pl _ _ _ (_, [(7, .int (nI (i + 1))), (5, .int (nI (p + 6 + by4 f (p + 2)))), (0, .ref m0), (2, .int 1), (3, .int (nI x)), (4, .int (nI (by2 f p1))), (6, .int (nI s3)), (8, .int (nI (by4 f (p + 2))))], [], M1) _
            refine ps_st (S' := (18, [(0, .ref m0), (2, .int 1), (3, .int (nI x)), (4, .int (nI (by2 f p1))), (5, .int (nI (p + 6 + by4 f (p + 2)))), (6, .int (nI s3)), (7, .int (nI (i + 1)))], [], M1)) rfl rfl rfl ?_
            exact ih.1 (i + 1) (p + 6 + by4 f (p + 2)) (s2) (s3) M1 I1 R1 hR1 hEI1 hER1 hl51 hl52 hl53 hF1 hY1 hP1 hK1 hX1 (by omega) (hl) (hb) (hq7) (by
                rw [← hs9, faS_u (i := i) (p := p) (s := s2) hi0 h1 hsm])
          · have c_142 : ¬ ((gI (kb mj 1 (tX f n E (by2 f p)) k)) < 0) := of_decide_eq_false c_142
            have hc3 : ¬ eqN (tX f n E (by2 f p)) (ltx 15) = 0 := by
              by_cases h9 : ¬ eqN (tX f n E (by2 f p)) (ltx 15) = 0
              · exact h9
              · rw [ek, hkk, if_neg h9] at c_142; exact absurd (by decide) c_142
            have hsm : fkN f n E (by2 f p) = 1 := by
              unfold fkN
              rw [← lt_15, if_neg hc3]
            rw [show gI (kb mj 1 (tX f n E (by2 f p)) k) = nI 0 by rw [ek, hkk, if_pos hc3]; rfl]
            have hs30 := sb_lt s3 0
            show pl _ _ _ (145, [(0, .ref m0), (2, .int 1), (3, .int (nI x)), (4, .int (nI (by2 f p1))), (5, .int (nI p)), (6, .int (nI s3)), (7, .int (nI i)), (8, .int (nI (by4 f (p + 2)))), (9, .int (nI t)), (10, .int (nI 0)), (11, .int (nI k))], [], M1) _
            refine ps_st (S' := (146, [(0, .ref m0), (2, .int 1), (3, .int (nI x)), (4, .int (nI (by2 f p1))), (5, .int (nI p)), (6, .int (nI s3)), (7, .int (nI i)), (8, .int (nI (by4 f (p + 2)))), (9, .int (nI t)), (10, .int (nI 0)), (11, .int (nI k))], [.int 1], M1)) rfl rfl rfl ?_
            refine ps_st (S' := (147, [(0, .ref m0), (2, .int 1), (3, .int (nI x)), (4, .int (nI (by2 f p1))), (5, .int (nI p)), (6, .int (nI s3)), (7, .int (nI i)), (8, .int (nI (by4 f (p + 2)))), (9, .int (nI t)), (10, .int (nI 0)), (11, .int (nI k))], [.int 1, .int 1], M1)) rfl rfl rfl ?_
            refine ps_if2 (S1 := (160, [(0, .ref m0), (2, .int 1), (3, .int (nI x)), (4, .int (nI (by2 f p1))), (5, .int (nI p)), (6, .int (nI s3)), (7, .int (nI i)), (8, .int (nI (by4 f (p + 2)))), (10, .int (nI 0))], [], M1)) (S2 := (150, [(0, .ref m0), (2, .int 1), (3, .int (nI x)), (4, .int (nI (by2 f p1))), (5, .int (nI p)), (6, .int (nI s3)), (7, .int (nI i)), (8, .int (nI (by4 f (p + 2)))), (9, .int (nI t)), (10, .int (nI 0)), (11, .int (nI k))], [], M1)) rfl rfl rfl (fun c_147 => ?_) (fun c_147 => ?_)
            · exact absurd (of_decide_eq_true c_147) (by decide)
            refine ps_st (S' := (151, [(0, .ref m0), (2, .int 1), (3, .int (nI x)), (4, .int (nI (by2 f p1))), (5, .int (nI p)), (6, .int (nI s3)), (7, .int (nI i)), (8, .int (nI (by4 f (p + 2)))), (9, .int (nI t)), (10, .int (nI 0)), (11, .int (nI k))], [.ref m0], M1)) rfl rfl rfl ?_
            refine pr_ref (j := 31) (S' := (154, [(0, .ref m0), (2, .int 1), (3, .int (nI x)), (4, .int (nI (by2 f p1))), (5, .int (nI p)), (6, .int (nI s3)), (7, .int (nI i)), (8, .int (nI (by4 f (p + 2)))), (9, .int (nI t)), (10, .int (nI 0)), (11, .int (nI k))], [.ref (q 31)], M1)) rfl hR1 rfl rfl ?_
            refine ps_st (S' := (155, [(0, .ref m0), (2, .int 1), (3, .int (nI x)), (4, .int (nI (by2 f p1))), (5, .int (nI p)), (6, .int (nI s3)), (7, .int (nI i)), (8, .int (nI (by4 f (p + 2)))), (9, .int (nI t)), (10, .int (nI 0)), (11, .int (nI k))], [.int (nI x), .ref (q 31)], M1)) rfl rfl rfl ?_
            refine ps_st (S' := (156, [(0, .ref m0), (2, .int 1), (3, .int (nI x)), (4, .int (nI (by2 f p1))), (5, .int (nI p)), (6, .int (nI s3)), (7, .int (nI i)), (8, .int (nI (by4 f (p + 2)))), (9, .int (nI t)), (10, .int (nI 0)), (11, .int (nI k))], [.int (nI x), .ref (q 31), .int (nI x), .ref (q 31)], M1)) rfl rfl rfl ?_
            refine pr_ldu (a := 31) rfl hR1 rfl (fun y_156 i0_156 i1_156 hy_156 => ?_)
            show pl _ _ _ (157, [(0, .ref m0), (2, .int 1), (3, .int (nI x)), (4, .int (nI (by2 f p1))), (5, .int (nI p)), (6, .int (nI s3)), (7, .int (nI i)), (8, .int (nI (by4 f (p + 2)))), (9, .int (nI t)), (10, .int (nI 0)), (11, .int (nI k))], [.int y_156, .int (nI x), .ref (q 31)], M1) _
            rw [nI_toNat (by omega)] at i1_156 hy_156
            refine ps_st (S' := (158, [(0, .ref m0), (2, .int 1), (3, .int (nI x)), (4, .int (nI (by2 f p1))), (5, .int (nI p)), (6, .int (nI s3)), (7, .int (nI i)), (8, .int (nI (by4 f (p + 2)))), (9, .int (nI t)), (10, .int (nI 0)), (11, .int (nI k))], [.int 1, .int y_156, .int (nI x), .ref (q 31)], M1)) rfl rfl rfl ?_
            refine ps_st (S' := (159, [(0, .ref m0), (2, .int 1), (3, .int (nI x)), (4, .int (nI (by2 f p1))), (5, .int (nI p)), (6, .int (nI s3)), (7, .int (nI i)), (8, .int (nI (by4 f (p + 2)))), (9, .int (nI t)), (10, .int (nI 0)), (11, .int (nI k))], [.int (y_156 + 1), .int (nI x), .ref (q 31)], M1)) rfl rfl rfl ?_
            refine pr_st (a := 31) (j := x) rfl hR1 rfl (by omega) (fun M37 R38 i1_159 hR39 hS40 => ?_)
            have hF_41 := hF1.mono (fun _ _ => rfl) (rRx hS40 (by decide))
            have hY_42 := hY1.mono (fun _ _ => rfl) (rRx hS40 (by decide))
            have hP_43 := hP1.mono (fun _ _ => rfl) (rRx hS40 (by decide))
            have hK_44 := hK1.mono (fun _ _ => rfl) (rRx hS40 (by decide))
            have hX_45 := hX1.mono (fun _ _ => rfl) (rRx hS40 (by decide))
            have hER46 := hER1.st hS40 (by decide)
            show pl _ _ _ (160, [(0, .ref m0), (2, .int 1), (3, .int (nI x)), (4, .int (nI (by2 f p1))), (5, .int (nI p)), (6, .int (nI s3)), (7, .int (nI i)), (8, .int (nI (by4 f (p + 2)))), (10, .int (nI 0))], [], M37) _
            refine ps_st (S' := (161, [(0, .ref m0), (2, .int 1), (3, .int (nI x)), (4, .int (nI (by2 f p1))), (5, .int (nI p)), (6, .int (nI s3)), (7, .int (nI i)), (8, .int (nI (by4 f (p + 2)))), (10, .int (nI 0))], [.int 1], M37)) rfl rfl rfl ?_
            refine ps_st (S' := (162, [(0, .ref m0), (2, .int 1), (3, .int (nI x)), (4, .int (nI (by2 f p1))), (5, .int (nI p)), (6, .int (nI s3)), (7, .int (nI i)), (8, .int (nI (by4 f (p + 2)))), (10, .int (nI 0))], [.int 2, .int 1], M37)) rfl rfl rfl ?_
            refine ps_if2 (S1 := (175, [(0, .ref m0), (2, .int 1), (3, .int (nI x)), (4, .int (nI (by2 f p1))), (5, .int (nI p)), (6, .int (nI s3)), (7, .int (nI i)), (8, .int (nI (by4 f (p + 2)))), (10, .int (nI 0))], [], M37)) (S2 := (165, [(0, .ref m0), (2, .int 1), (3, .int (nI x)), (4, .int (nI (by2 f p1))), (5, .int (nI p)), (6, .int (nI s3)), (7, .int (nI i)), (8, .int (nI (by4 f (p + 2)))), (10, .int (nI 0))], [], M37)) rfl rfl rfl (fun c_162 => ?_) (fun c_162 => ?_)
            rotate_left
            · exact absurd (by decide) (of_decide_eq_false c_162)
            refine ps_st (S' := (176, [(0, .ref m0), (2, .int 1), (3, .int (nI x)), (4, .int (nI (by2 f p1))), (5, .int (nI p)), (6, .int (nI s3)), (7, .int (nI i)), (8, .int (nI (by4 f (p + 2)))), (10, .int (nI 0))], [.int 1], M37)) rfl rfl rfl ?_
            refine ps_st (S' := (177, [(0, .ref m0), (2, .int 1), (3, .int (nI x)), (4, .int (nI (by2 f p1))), (5, .int (nI p)), (6, .int (nI s3)), (7, .int (nI i)), (8, .int (nI (by4 f (p + 2)))), (10, .int (nI 0))], [.int 4, .int 1], M37)) rfl rfl rfl ?_
            refine ps_if2 (S1 := (190, [(0, .ref m0), (2, .int 1), (3, .int (nI x)), (4, .int (nI (by2 f p1))), (5, .int (nI p)), (6, .int (nI s3)), (7, .int (nI i)), (8, .int (nI (by4 f (p + 2)))), (10, .int (nI 0))], [], M37)) (S2 := (180, [(0, .ref m0), (2, .int 1), (3, .int (nI x)), (4, .int (nI (by2 f p1))), (5, .int (nI p)), (6, .int (nI s3)), (7, .int (nI i)), (8, .int (nI (by4 f (p + 2)))), (10, .int (nI 0))], [], M37)) rfl rfl rfl (fun c_177 => ?_) (fun c_177 => ?_)
            rotate_left
            · exact absurd (by decide) (of_decide_eq_false c_177)
            refine ps_st (S' := (192, [(0, .ref m0), (2, .int 1), (3, .int (nI x)), (4, .int (nI (by2 f p1))), (5, .int (nI p)), (6, .int (nI s3)), (7, .int (nI i)), (8, .int (nI (by4 f (p + 2)))), (10, .int (nI 0))], [.int (nI s3)], M37)) rfl rfl rfl ?_
            refine ps_st (S' := (194, [(0, .ref m0), (2, .int 1), (3, .int (nI x)), (4, .int (nI (by2 f p1))), (5, .int (nI p)), (6, .int (nI s3)), (7, .int (nI i)), (8, .int (nI (by4 f (p + 2)))), (10, .int (nI 0))], [.int (nI 0), .int (nI s3)], M37)) rfl rfl rfl ?_
            refine ps_st (S' := (195, [(0, .ref m0), (2, .int 1), (3, .int (nI x)), (4, .int (nI (by2 f p1))), (5, .int (nI p)), (6, .int (nI s3)), (7, .int (nI i)), (8, .int (nI (by4 f (p + 2)))), (10, .int (nI 0))], [.int ((nI s3) >>> ((nI 0) &&& 31))], M37)) rfl rfl rfl ?_
            refine ps_st (S' := (196, [(0, .ref m0), (2, .int 1), (3, .int (nI x)), (4, .int (nI (by2 f p1))), (5, .int (nI p)), (6, .int (nI s3)), (7, .int (nI i)), (8, .int (nI (by4 f (p + 2)))), (10, .int (nI 0))], [.int 1, .int ((nI s3) >>> ((nI 0) &&& 31))], M37)) rfl rfl rfl ?_
            refine ps_st (S' := (197, [(0, .ref m0), (2, .int 1), (3, .int (nI x)), (4, .int (nI (by2 f p1))), (5, .int (nI p)), (6, .int (nI s3)), (7, .int (nI i)), (8, .int (nI (by4 f (p + 2)))), (10, .int (nI 0))], [.int (((nI s3) >>> ((nI 0) &&& 31)) &&& 1)], M37)) rfl rfl rfl ?_
            rw [shr_k s3 (by omega) 0 (by omega)]
            show pl _ _ _ (_, [(0, .ref m0), (2, .int 1), (3, .int (nI x)), (4, .int (nI (by2 f p1))), (5, .int (nI p)), (6, .int (nI s3)), (7, .int (nI i)), (8, .int (nI (by4 f (p + 2)))), (10, .int (nI 0))], [.int (nI (sb s3 0))], M37) _
            refine ps_st (S' := (198, [(0, .ref m0), (2, .int 1), (3, .int (nI x)), (4, .int (nI (by2 f p1))), (5, .int (nI p)), (6, .int (nI s3)), (7, .int (nI i)), (8, .int (nI (by4 f (p + 2)))), (10, .int (nI 0))], [.int 1, .int (nI (sb s3 0))], M37)) rfl rfl rfl ?_
            refine ps_if2 (S1 := (212, [(0, .ref m0), (2, .int 1), (3, .int (nI x)), (4, .int (nI (by2 f p1))), (5, .int (nI p)), (6, .int (nI s3)), (7, .int (nI i)), (8, .int (nI (by4 f (p + 2)))), (10, .int (nI 0))], [], M37)) (S2 := (201, [(0, .ref m0), (2, .int 1), (3, .int (nI x)), (4, .int (nI (by2 f p1))), (5, .int (nI p)), (6, .int (nI s3)), (7, .int (nI i)), (8, .int (nI (by4 f (p + 2)))), (10, .int (nI 0))], [], M37)) rfl rfl rfl (fun c_198 => ?_) (fun c_198 => ?_)
            · have c_198 : ¬ (nI (sb s3 0)) = 1 := of_decide_eq_true c_198
              have n_198 : ¬ (sb s3 0 = 1) := fun h9 => c_198 ((eq_nI (p := sb s3 0) (n := 1) (Nat.lt_trans (sb_lt _ _) (by decide)) (by decide)).mpr h9)
              refine ps_st (S' := (213, [(0, .ref m0), (2, .int 1), (3, .int (nI x)), (4, .int (nI (by2 f p1))), (5, .int (nI p)), (6, .int (nI s3)), (7, .int (nI i)), (8, .int (nI (by4 f (p + 2)))), (10, .int (nI 0))], [.ref m0], M37)) rfl rfl rfl ?_
              refine ps_st (S' := (215, [(0, .ref m0), (2, .int 1), (3, .int (nI x)), (4, .int (nI (by2 f p1))), (5, .int (nI p)), (6, .int (nI s3)), (7, .int (nI i)), (8, .int (nI (by4 f (p + 2)))), (10, .int (nI 0))], [.int (nI 0), .ref m0], M37)) rfl rfl rfl ?_
              refine ps_st (S' := (217, [(0, .ref m0), (2, .int 1), (3, .int (nI x)), (4, .int (nI (by2 f p1))), (5, .int (nI p)), (6, .int (nI s3)), (7, .int (nI i)), (8, .int (nI (by4 f (p + 2)))), (10, .int (nI 0))], [.int (nI p), .int (nI 0), .ref m0], M37)) rfl rfl rfl ?_
              refine ps_st (S' := (219, [(0, .ref m0), (2, .int 1), (3, .int (nI x)), (4, .int (nI (by2 f p1))), (5, .int (nI p)), (6, .int (nI s3)), (7, .int (nI i)), (8, .int (nI (by4 f (p + 2)))), (10, .int (nI 0))], [.int (nI p), .int (nI p), .int (nI 0), .ref m0], M37)) rfl rfl rfl ?_
              refine ps_st (S' := (221, [(0, .ref m0), (2, .int 1), (3, .int (nI x)), (4, .int (nI (by2 f p1))), (5, .int (nI p)), (6, .int (nI s3)), (7, .int (nI i)), (8, .int (nI (by4 f (p + 2)))), (10, .int (nI 0))], [.int 6, .int (nI p), .int (nI p), .int (nI 0), .ref m0], M37)) rfl rfl rfl ?_
              refine ps_st (S' := (222, [(0, .ref m0), (2, .int 1), (3, .int (nI x)), (4, .int (nI (by2 f p1))), (5, .int (nI p)), (6, .int (nI s3)), (7, .int (nI i)), (8, .int (nI (by4 f (p + 2)))), (10, .int (nI 0))], [.int ((nI p) + 6), .int (nI p), .int (nI 0), .ref m0], M37)) rfl rfl rfl ?_
              rw [nI_add1 (p := p) (k := 6) (x := 6) rfl (by omega)]
              show pl _ _ _ (_, [(0, .ref m0), (2, .int 1), (3, .int (nI x)), (4, .int (nI (by2 f p1))), (5, .int (nI p)), (6, .int (nI s3)), (7, .int (nI i)), (8, .int (nI (by4 f (p + 2)))), (10, .int (nI 0))], [.int (nI (p + 6)), .int (nI p), .int (nI 0), .ref m0], M37) _
              refine ps_st (S' := (224, [(0, .ref m0), (2, .int 1), (3, .int (nI x)), (4, .int (nI (by2 f p1))), (5, .int (nI p)), (6, .int (nI s3)), (7, .int (nI i)), (8, .int (nI (by4 f (p + 2)))), (10, .int (nI 0))], [.int (nI p), .int (nI (p + 6)), .int (nI p), .int (nI 0), .ref m0], M37)) rfl rfl rfl ?_
              refine ps_st (S' := (226, [(0, .ref m0), (2, .int 1), (3, .int (nI x)), (4, .int (nI (by2 f p1))), (5, .int (nI p)), (6, .int (nI s3)), (7, .int (nI i)), (8, .int (nI (by4 f (p + 2)))), (10, .int (nI 0))], [.int 6, .int (nI p), .int (nI (p + 6)), .int (nI p), .int (nI 0), .ref m0], M37)) rfl rfl rfl ?_
              refine ps_st (S' := (227, [(0, .ref m0), (2, .int 1), (3, .int (nI x)), (4, .int (nI (by2 f p1))), (5, .int (nI p)), (6, .int (nI s3)), (7, .int (nI i)), (8, .int (nI (by4 f (p + 2)))), (10, .int (nI 0))], [.int ((nI p) + 6), .int (nI (p + 6)), .int (nI p), .int (nI 0), .ref m0], M37)) rfl rfl rfl ?_
              rw [nI_add1 (p := p) (k := 6) (x := 6) rfl (by omega)]
              show pl _ _ _ (_, [(0, .ref m0), (2, .int 1), (3, .int (nI x)), (4, .int (nI (by2 f p1))), (5, .int (nI p)), (6, .int (nI s3)), (7, .int (nI i)), (8, .int (nI (by4 f (p + 2)))), (10, .int (nI 0))], [.int (nI (p + 6)), .int (nI (p + 6)), .int (nI p), .int (nI 0), .ref m0], M37) _
              refine ps_st (S' := (229, [(0, .ref m0), (2, .int 1), (3, .int (nI x)), (4, .int (nI (by2 f p1))), (5, .int (nI p)), (6, .int (nI s3)), (7, .int (nI i)), (8, .int (nI (by4 f (p + 2)))), (10, .int (nI 0))], [.int (nI (by4 f (p + 2))), .int (nI (p + 6)), .int (nI (p + 6)), .int (nI p), .int (nI 0), .ref m0], M37)) rfl rfl rfl ?_
              refine ps_st (S' := (230, [(0, .ref m0), (2, .int 1), (3, .int (nI x)), (4, .int (nI (by2 f p1))), (5, .int (nI p)), (6, .int (nI s3)), (7, .int (nI i)), (8, .int (nI (by4 f (p + 2)))), (10, .int (nI 0))], [.int ((nI (p + 6)) + (nI (by4 f (p + 2)))), .int (nI (p + 6)), .int (nI p), .int (nI 0), .ref m0], M37)) rfl rfl rfl ?_
              rw [nI_add1 (p := p + 6) (k := by4 f (p + 2)) (x := (nI (by4 f (p + 2)))) rfl (by omega)]
              show pl _ _ _ (_, [(0, .ref m0), (2, .int 1), (3, .int (nI x)), (4, .int (nI (by2 f p1))), (5, .int (nI p)), (6, .int (nI s3)), (7, .int (nI i)), (8, .int (nI (by4 f (p + 2)))), (10, .int (nI 0))], [.int (nI (p + 6 + by4 f (p + 2))), .int (nI (p + 6)), .int (nI p), .int (nI 0), .ref m0], M37) _
              refine ps_st (S' := (231, [(0, .ref m0), (2, .int 1), (3, .int (nI x)), (4, .int (nI (by2 f p1))), (5, .int (nI p)), (6, .int (nI s3)), (7, .int (nI i)), (8, .int (nI (by4 f (p + 2)))), (10, .int (nI 0))], [.int (nI x), .int (nI (p + 6 + by4 f (p + 2))), .int (nI (p + 6)), .int (nI p), .int (nI 0), .ref m0], M37)) rfl rfl rfl ?_
              refine ps_st (S' := (233, [(0, .ref m0), (2, .int 1), (3, .int (nI x)), (4, .int (nI (by2 f p1))), (5, .int (nI p)), (6, .int (nI s3)), (7, .int (nI i)), (8, .int (nI (by4 f (p + 2)))), (10, .int (nI 0))], [.int (nI s3), .int (nI x), .int (nI (p + 6 + by4 f (p + 2))), .int (nI (p + 6)), .int (nI p), .int (nI 0), .ref m0], M37)) rfl rfl rfl ?_
              refine pl_call (a := [.ref m0, .int (nI 0), .int (nI p), .int (nI (p + 6)), .int (nI (p + 6 + by4 f (p + 2))), .int (nI x), .int (nI s3)]) (rest := []) rfl rfl rfl (rd_attr0 (n := n) (f := f) (tx := tx) (cN := cN) (A := A) (N := N) (mj := mj) (E := E) (p0 := (p + 6)) (e := (p + 6 + by4 f (p + 2))) (x := x) (s3 := s3) (t := (nI p)) (fl := fl) (ds := ds) (l := l) hR39 hl51 hl52 hl53 hF_41 hY_42 hP_43 (hEP) (hN) (hmj) (⟨by omega, by omega⟩) (hl) (hx) (hX_45.1) (hX_45.2) (hdt) (hfd) (hf6)) (fun v47 M48 q49 => ?_)
              rcases q49 with q49 | q49 | q49
              · skip
                obtain ⟨I50, R51, q233_s, rfl, hR52, hI53, hX54⟩ := q49
                have hi55 := (hI53 51 (by decide)).trans hl51
                have hi56 := (hI53 52 (by decide)).trans hl52
                have hi57 := (hI53 53 (by decide)).trans hl53
                have hF_58 := hF_41.mono (cIx hI53 (by decide)) (cRx hX54 (by decide))
                have hY_59 := hY_42.mono (cIx hI53 (by decide)) (cRx hX54 (by decide))
                have hP_60 := hP_43.mono (cIx hI53 (by decide)) (cRx hX54 (by decide))
                have hK_61 := hK_44.mono (cIx hI53 (by decide)) (cRx hX54 (by decide))
                have hX_62 := hX_45.mono (cIx hI53 (by decide)) (cRx hX54 (by decide))
                have hEI63 := hEI1.tr hI53 (by decide)
                have hER64 := hER46.tr hX54 (by decide)
                show pl _ _ _ (236, [(0, .ref m0), (2, .int 1), (3, .int (nI x)), (4, .int (nI (by2 f p1))), (5, .int (nI p)), (6, .int (nI s3)), (7, .int (nI i)), (8, .int (nI (by4 f (p + 2)))), (10, .int (nI 0))], [.int 30], M48) _
                refine ps_st (S' := (238, [(11, .int 30), (0, .ref m0), (2, .int 1), (3, .int (nI x)), (4, .int (nI (by2 f p1))), (5, .int (nI p)), (6, .int (nI s3)), (7, .int (nI i)), (8, .int (nI (by4 f (p + 2)))), (10, .int (nI 0))], [], M48)) rfl rfl rfl ?_
                refine ps_st (S' := (240, [(11, .int 30), (0, .ref m0), (2, .int 1), (3, .int (nI x)), (4, .int (nI (by2 f p1))), (5, .int (nI p)), (6, .int (nI s3)), (7, .int (nI i)), (8, .int (nI (by4 f (p + 2)))), (10, .int (nI 0))], [.int (nI s3)], M48)) rfl rfl rfl ?_
                refine ps_st (S' := (241, [(11, .int 30), (0, .ref m0), (2, .int 1), (3, .int (nI x)), (4, .int (nI (by2 f p1))), (5, .int (nI p)), (6, .int (nI s3)), (7, .int (nI i)), (8, .int (nI (by4 f (p + 2)))), (10, .int (nI 0))], [.int 1, .int (nI s3)], M48)) rfl rfl rfl ?_
                refine ps_st (S' := (243, [(11, .int 30), (0, .ref m0), (2, .int 1), (3, .int (nI x)), (4, .int (nI (by2 f p1))), (5, .int (nI p)), (6, .int (nI s3)), (7, .int (nI i)), (8, .int (nI (by4 f (p + 2)))), (10, .int (nI 0))], [.int (nI 0), .int 1, .int (nI s3)], M48)) rfl rfl rfl ?_
                refine ps_st (S' := (244, [(11, .int 30), (0, .ref m0), (2, .int 1), (3, .int (nI x)), (4, .int (nI (by2 f p1))), (5, .int (nI p)), (6, .int (nI s3)), (7, .int (nI i)), (8, .int (nI (by4 f (p + 2)))), (10, .int (nI 0))], [.int (1 <<< ((nI 0) &&& 31)), .int (nI s3)], M48)) rfl rfl rfl ?_
                refine ps_st (S' := (245, [(11, .int 30), (0, .ref m0), (2, .int 1), (3, .int (nI x)), (4, .int (nI (by2 f p1))), (5, .int (nI p)), (6, .int (nI s3)), (7, .int (nI i)), (8, .int (nI (by4 f (p + 2)))), (10, .int (nI 0))], [.int ((nI s3) ||| (1 <<< ((nI 0) &&& 31)))], M48)) rfl rfl rfl ?_
                rw [or_k s3 0 (by omega)]
                show pl _ _ _ (_, [(11, .int 30), (0, .ref m0), (2, .int 1), (3, .int (nI x)), (4, .int (nI (by2 f p1))), (5, .int (nI p)), (6, .int (nI s3)), (7, .int (nI i)), (8, .int (nI (by4 f (p + 2)))), (10, .int (nI 0))], [.int (nI (so s3 0))], M48) _
                refine ps_st (S' := (247, [(6, .int (nI (so s3 0))), (11, .int 30), (0, .ref m0), (2, .int 1), (3, .int (nI x)), (4, .int (nI (by2 f p1))), (5, .int (nI p)), (7, .int (nI i)), (8, .int (nI (by4 f (p + 2)))), (10, .int (nI 0))], [], M48)) rfl rfl rfl ?_
                refine ps_st (S' := (249, [(6, .int (nI (so s3 0))), (11, .int 30), (0, .ref m0), (2, .int 1), (3, .int (nI x)), (4, .int (nI (by2 f p1))), (5, .int (nI p)), (7, .int (nI i)), (8, .int (nI (by4 f (p + 2)))), (10, .int (nI 0))], [.int 30], M48)) rfl rfl rfl ?_
                refine ps_if (S1 := (261, [(0, .ref m0), (2, .int 1), (3, .int (nI x)), (4, .int (nI (by2 f p1))), (5, .int (nI p)), (6, .int (nI (so s3 0))), (7, .int (nI i)), (8, .int (nI (by4 f (p + 2)))), (11, .int 30)], [], M48)) (S2 := (252, [(6, .int (nI (so s3 0))), (11, .int 30), (0, .ref m0), (2, .int 1), (3, .int (nI x)), (4, .int (nI (by2 f p1))), (5, .int (nI p)), (7, .int (nI i)), (8, .int (nI (by4 f (p + 2)))), (10, .int (nI 0))], [], M48)) rfl rfl rfl (fun c_249 => ?_) (fun c_249 => ?_)
                · exact absurd (of_decide_eq_true c_249) (by decide)
                refine ps_st (S' := (253, [(6, .int (nI (so s3 0))), (11, .int 30), (0, .ref m0), (2, .int 1), (3, .int (nI x)), (4, .int (nI (by2 f p1))), (5, .int (nI p)), (7, .int (nI i)), (8, .int (nI (by4 f (p + 2)))), (10, .int (nI 0))], [.ref m0], M48)) rfl rfl rfl ?_
                refine ps_st (S' := (255, [(6, .int (nI (so s3 0))), (11, .int 30), (0, .ref m0), (2, .int 1), (3, .int (nI x)), (4, .int (nI (by2 f p1))), (5, .int (nI p)), (7, .int (nI i)), (8, .int (nI (by4 f (p + 2)))), (10, .int (nI 0))], [.int 30, .ref m0], M48)) rfl rfl rfl ?_
                refine ps_st (S' := (257, [(6, .int (nI (so s3 0))), (11, .int 30), (0, .ref m0), (2, .int 1), (3, .int (nI x)), (4, .int (nI (by2 f p1))), (5, .int (nI p)), (7, .int (nI i)), (8, .int (nI (by4 f (p + 2)))), (10, .int (nI 0))], [.int (nI p), .int 30, .ref m0], M48)) rfl rfl rfl ?_
                refine pl_call (a := [.ref m0, .int 30, .int (nI p)]) (rest := []) rfl rfl rfl (rd_wrong (x1 := 30) (x2 := (nI p)) hR52) (fun v65 M66 q67 => ?_)
                obtain ⟨I68, R69, rfl, hR70, hI71, hX72, hi73, hi74⟩ := q67
                have hi75 := (hI71 51 (by decide)).trans hi55
                have hi76 := (hI71 52 (by decide)).trans hi56
                have hi77 := (hI71 53 (by decide)).trans hi57
                have hF_78 := hF_58.mono (cIx hI71 (by decide)) (cRx hX72 (by decide))
                have hY_79 := hY_59.mono (cIx hI71 (by decide)) (cRx hX72 (by decide))
                have hP_80 := hP_60.mono (cIx hI71 (by decide)) (cRx hX72 (by decide))
                have hK_81 := hK_61.mono (cIx hI71 (by decide)) (cRx hX72 (by decide))
                have hX_82 := hX_62.mono (cIx hI71 (by decide)) (cRx hX72 (by decide))
                have hEI83 := hEI63.tr hI71 (by decide)
                have hER84 := hER64.tr hX72 (by decide)
                show pl _ _ _ (260, [(6, .int (nI (so s3 0))), (11, .int 30), (0, .ref m0), (2, .int 1), (3, .int (nI x)), (4, .int (nI (by2 f p1))), (5, .int (nI p)), (7, .int (nI i)), (8, .int (nI (by4 f (p + 2)))), (10, .int (nI 0))], [.int 0], M66) _
                refine ps_st (S' := (261, [(0, .ref m0), (2, .int 1), (3, .int (nI x)), (4, .int (nI (by2 f p1))), (5, .int (nI p)), (6, .int (nI (so s3 0))), (7, .int (nI i)), (8, .int (nI (by4 f (p + 2)))), (11, .int 30)], [], M66)) rfl rfl rfl ?_
                refine ps_st (S' := (263, [(0, .ref m0), (2, .int 1), (3, .int (nI x)), (4, .int (nI (by2 f p1))), (5, .int (nI p)), (6, .int (nI (so s3 0))), (7, .int (nI i)), (8, .int (nI (by4 f (p + 2)))), (11, .int 30)], [.int 30], M66)) rfl rfl rfl ?_
                refine ps_if (S1 := (268, [(0, .ref m0), (2, .int 1), (3, .int (nI x)), (4, .int (nI (by2 f p1))), (5, .int (nI p)), (6, .int (nI (so s3 0))), (7, .int (nI i)), (8, .int (nI (by4 f (p + 2))))], [], M66)) (S2 := (266, [(0, .ref m0), (2, .int 1), (3, .int (nI x)), (4, .int (nI (by2 f p1))), (5, .int (nI p)), (6, .int (nI (so s3 0))), (7, .int (nI i)), (8, .int (nI (by4 f (p + 2)))), (11, .int 30)], [], M66)) rfl rfl rfl (fun c_263 => ?_) (fun c_263 => ?_)
                · exact absurd (of_decide_eq_true c_263) (by decide)
                refine ps_st (S' := (267, [(0, .ref m0), (2, .int 1), (3, .int (nI x)), (4, .int (nI (by2 f p1))), (5, .int (nI p)), (6, .int (nI (so s3 0))), (7, .int (nI i)), (8, .int (nI (by4 f (p + 2)))), (11, .int 30)], [.int (-1)], M66)) rfl rfl rfl ?_
                exact ps_ret rfl rfl (Or.inl ⟨(30, p), I68, R69, by
                    rw [← hs9, faS_k (i := i) (p := p) (s := s2) hi0 h1 hsm (by omega), if_pos q233_s], rfl, hR70, hEI83, hER84, hi73, hi74⟩)
              · skip
                obtain ⟨I85, R86, q233_s, q233_b, rfl, hR87, hI88, hX89⟩ := q49
                have hi90 := (hI88 51 (by decide)).trans hl51
                have hi91 := (hI88 52 (by decide)).trans hl52
                have hi92 := (hI88 53 (by decide)).trans hl53
                have hF_93 := hF_41.mono (cIx hI88 (by decide)) (cRx hX89 (by decide))
                have hY_94 := hY_42.mono (cIx hI88 (by decide)) (cRx hX89 (by decide))
                have hP_95 := hP_43.mono (cIx hI88 (by decide)) (cRx hX89 (by decide))
                have hK_96 := hK_44.mono (cIx hI88 (by decide)) (cRx hX89 (by decide))
                have hX_97 := hX_45.mono (cIx hI88 (by decide)) (cRx hX89 (by decide))
                have hEI98 := hEI1.tr hI88 (by decide)
                have hER99 := hER46.tr hX89 (by decide)
                show pl _ _ _ (236, [(0, .ref m0), (2, .int 1), (3, .int (nI x)), (4, .int (nI (by2 f p1))), (5, .int (nI p)), (6, .int (nI s3)), (7, .int (nI i)), (8, .int (nI (by4 f (p + 2)))), (10, .int (nI 0))], [.int 31], M48) _
                refine ps_st (S' := (238, [(11, .int 31), (0, .ref m0), (2, .int 1), (3, .int (nI x)), (4, .int (nI (by2 f p1))), (5, .int (nI p)), (6, .int (nI s3)), (7, .int (nI i)), (8, .int (nI (by4 f (p + 2)))), (10, .int (nI 0))], [], M48)) rfl rfl rfl ?_
                refine ps_st (S' := (240, [(11, .int 31), (0, .ref m0), (2, .int 1), (3, .int (nI x)), (4, .int (nI (by2 f p1))), (5, .int (nI p)), (6, .int (nI s3)), (7, .int (nI i)), (8, .int (nI (by4 f (p + 2)))), (10, .int (nI 0))], [.int (nI s3)], M48)) rfl rfl rfl ?_
                refine ps_st (S' := (241, [(11, .int 31), (0, .ref m0), (2, .int 1), (3, .int (nI x)), (4, .int (nI (by2 f p1))), (5, .int (nI p)), (6, .int (nI s3)), (7, .int (nI i)), (8, .int (nI (by4 f (p + 2)))), (10, .int (nI 0))], [.int 1, .int (nI s3)], M48)) rfl rfl rfl ?_
                refine ps_st (S' := (243, [(11, .int 31), (0, .ref m0), (2, .int 1), (3, .int (nI x)), (4, .int (nI (by2 f p1))), (5, .int (nI p)), (6, .int (nI s3)), (7, .int (nI i)), (8, .int (nI (by4 f (p + 2)))), (10, .int (nI 0))], [.int (nI 0), .int 1, .int (nI s3)], M48)) rfl rfl rfl ?_
                refine ps_st (S' := (244, [(11, .int 31), (0, .ref m0), (2, .int 1), (3, .int (nI x)), (4, .int (nI (by2 f p1))), (5, .int (nI p)), (6, .int (nI s3)), (7, .int (nI i)), (8, .int (nI (by4 f (p + 2)))), (10, .int (nI 0))], [.int (1 <<< ((nI 0) &&& 31)), .int (nI s3)], M48)) rfl rfl rfl ?_
                refine ps_st (S' := (245, [(11, .int 31), (0, .ref m0), (2, .int 1), (3, .int (nI x)), (4, .int (nI (by2 f p1))), (5, .int (nI p)), (6, .int (nI s3)), (7, .int (nI i)), (8, .int (nI (by4 f (p + 2)))), (10, .int (nI 0))], [.int ((nI s3) ||| (1 <<< ((nI 0) &&& 31)))], M48)) rfl rfl rfl ?_
                rw [or_k s3 0 (by omega)]
                show pl _ _ _ (_, [(11, .int 31), (0, .ref m0), (2, .int 1), (3, .int (nI x)), (4, .int (nI (by2 f p1))), (5, .int (nI p)), (6, .int (nI s3)), (7, .int (nI i)), (8, .int (nI (by4 f (p + 2)))), (10, .int (nI 0))], [.int (nI (so s3 0))], M48) _
                refine ps_st (S' := (247, [(6, .int (nI (so s3 0))), (11, .int 31), (0, .ref m0), (2, .int 1), (3, .int (nI x)), (4, .int (nI (by2 f p1))), (5, .int (nI p)), (7, .int (nI i)), (8, .int (nI (by4 f (p + 2)))), (10, .int (nI 0))], [], M48)) rfl rfl rfl ?_
                refine ps_st (S' := (249, [(6, .int (nI (so s3 0))), (11, .int 31), (0, .ref m0), (2, .int 1), (3, .int (nI x)), (4, .int (nI (by2 f p1))), (5, .int (nI p)), (7, .int (nI i)), (8, .int (nI (by4 f (p + 2)))), (10, .int (nI 0))], [.int 31], M48)) rfl rfl rfl ?_
                refine ps_if (S1 := (261, [(0, .ref m0), (2, .int 1), (3, .int (nI x)), (4, .int (nI (by2 f p1))), (5, .int (nI p)), (6, .int (nI (so s3 0))), (7, .int (nI i)), (8, .int (nI (by4 f (p + 2)))), (11, .int 31)], [], M48)) (S2 := (252, [(6, .int (nI (so s3 0))), (11, .int 31), (0, .ref m0), (2, .int 1), (3, .int (nI x)), (4, .int (nI (by2 f p1))), (5, .int (nI p)), (7, .int (nI i)), (8, .int (nI (by4 f (p + 2)))), (10, .int (nI 0))], [], M48)) rfl rfl rfl (fun c_249 => ?_) (fun c_249 => ?_)
                · exact absurd (of_decide_eq_true c_249) (by decide)
                refine ps_st (S' := (253, [(6, .int (nI (so s3 0))), (11, .int 31), (0, .ref m0), (2, .int 1), (3, .int (nI x)), (4, .int (nI (by2 f p1))), (5, .int (nI p)), (7, .int (nI i)), (8, .int (nI (by4 f (p + 2)))), (10, .int (nI 0))], [.ref m0], M48)) rfl rfl rfl ?_
                refine ps_st (S' := (255, [(6, .int (nI (so s3 0))), (11, .int 31), (0, .ref m0), (2, .int 1), (3, .int (nI x)), (4, .int (nI (by2 f p1))), (5, .int (nI p)), (7, .int (nI i)), (8, .int (nI (by4 f (p + 2)))), (10, .int (nI 0))], [.int 31, .ref m0], M48)) rfl rfl rfl ?_
                refine ps_st (S' := (257, [(6, .int (nI (so s3 0))), (11, .int 31), (0, .ref m0), (2, .int 1), (3, .int (nI x)), (4, .int (nI (by2 f p1))), (5, .int (nI p)), (7, .int (nI i)), (8, .int (nI (by4 f (p + 2)))), (10, .int (nI 0))], [.int (nI p), .int 31, .ref m0], M48)) rfl rfl rfl ?_
                refine pl_call (a := [.ref m0, .int 31, .int (nI p)]) (rest := []) rfl rfl rfl (rd_wrong (x1 := 31) (x2 := (nI p)) hR87) (fun v100 M101 q102 => ?_)
                obtain ⟨I103, R104, rfl, hR105, hI106, hX107, hi108, hi109⟩ := q102
                have hi110 := (hI106 51 (by decide)).trans hi90
                have hi111 := (hI106 52 (by decide)).trans hi91
                have hi112 := (hI106 53 (by decide)).trans hi92
                have hF_113 := hF_93.mono (cIx hI106 (by decide)) (cRx hX107 (by decide))
                have hY_114 := hY_94.mono (cIx hI106 (by decide)) (cRx hX107 (by decide))
                have hP_115 := hP_95.mono (cIx hI106 (by decide)) (cRx hX107 (by decide))
                have hK_116 := hK_96.mono (cIx hI106 (by decide)) (cRx hX107 (by decide))
                have hX_117 := hX_97.mono (cIx hI106 (by decide)) (cRx hX107 (by decide))
                have hEI118 := hEI98.tr hI106 (by decide)
                have hER119 := hER99.tr hX107 (by decide)
                show pl _ _ _ (260, [(6, .int (nI (so s3 0))), (11, .int 31), (0, .ref m0), (2, .int 1), (3, .int (nI x)), (4, .int (nI (by2 f p1))), (5, .int (nI p)), (7, .int (nI i)), (8, .int (nI (by4 f (p + 2)))), (10, .int (nI 0))], [.int 0], M101) _
                refine ps_st (S' := (261, [(0, .ref m0), (2, .int 1), (3, .int (nI x)), (4, .int (nI (by2 f p1))), (5, .int (nI p)), (6, .int (nI (so s3 0))), (7, .int (nI i)), (8, .int (nI (by4 f (p + 2)))), (11, .int 31)], [], M101)) rfl rfl rfl ?_
                refine ps_st (S' := (263, [(0, .ref m0), (2, .int 1), (3, .int (nI x)), (4, .int (nI (by2 f p1))), (5, .int (nI p)), (6, .int (nI (so s3 0))), (7, .int (nI i)), (8, .int (nI (by4 f (p + 2)))), (11, .int 31)], [.int 31], M101)) rfl rfl rfl ?_
                refine ps_if (S1 := (268, [(0, .ref m0), (2, .int 1), (3, .int (nI x)), (4, .int (nI (by2 f p1))), (5, .int (nI p)), (6, .int (nI (so s3 0))), (7, .int (nI i)), (8, .int (nI (by4 f (p + 2))))], [], M101)) (S2 := (266, [(0, .ref m0), (2, .int 1), (3, .int (nI x)), (4, .int (nI (by2 f p1))), (5, .int (nI p)), (6, .int (nI (so s3 0))), (7, .int (nI i)), (8, .int (nI (by4 f (p + 2)))), (11, .int 31)], [], M101)) rfl rfl rfl (fun c_263 => ?_) (fun c_263 => ?_)
                · exact absurd (of_decide_eq_true c_263) (by decide)
                refine ps_st (S' := (267, [(0, .ref m0), (2, .int 1), (3, .int (nI x)), (4, .int (nI (by2 f p1))), (5, .int (nI p)), (6, .int (nI (so s3 0))), (7, .int (nI i)), (8, .int (nI (by4 f (p + 2)))), (11, .int 31)], [.int (-1)], M101)) rfl rfl rfl ?_
                exact ps_ret rfl rfl (Or.inl ⟨(31, p), I103, R104, by
                    rw [← hs9, faS_k (i := i) (p := p) (s := s2) hi0 h1 hsm (by omega), if_neg (fun h9 => h9 q233_s), if_pos ⟨fun h9 => q233_b.1 (has_9.mp h9), q233_b.2⟩], rfl, hR105, hEI118, hER119, hi108, hi109⟩)
              · skip
                obtain ⟨I120, R121, q233_s, q233_b, rfl, hR122, hI123, hX124⟩ := q49
                have hi125 := (hI123 51 (by decide)).trans hl51
                have hi126 := (hI123 52 (by decide)).trans hl52
                have hi127 := (hI123 53 (by decide)).trans hl53
                have hF_128 := hF_41.mono (cIx hI123 (by decide)) (cRx hX124 (by decide))
                have hY_129 := hY_42.mono (cIx hI123 (by decide)) (cRx hX124 (by decide))
                have hP_130 := hP_43.mono (cIx hI123 (by decide)) (cRx hX124 (by decide))
                have hK_131 := hK_44.mono (cIx hI123 (by decide)) (cRx hX124 (by decide))
                have hX_132 := hX_45.mono (cIx hI123 (by decide)) (cRx hX124 (by decide))
                have hEI133 := hEI1.tr hI123 (by decide)
                have hER134 := hER46.tr hX124 (by decide)
                show pl _ _ _ (236, [(0, .ref m0), (2, .int 1), (3, .int (nI x)), (4, .int (nI (by2 f p1))), (5, .int (nI p)), (6, .int (nI s3)), (7, .int (nI i)), (8, .int (nI (by4 f (p + 2)))), (10, .int (nI 0))], [.int 0], M48) _
                refine ps_st (S' := (238, [(11, .int 0), (0, .ref m0), (2, .int 1), (3, .int (nI x)), (4, .int (nI (by2 f p1))), (5, .int (nI p)), (6, .int (nI s3)), (7, .int (nI i)), (8, .int (nI (by4 f (p + 2)))), (10, .int (nI 0))], [], M48)) rfl rfl rfl ?_
                refine ps_st (S' := (240, [(11, .int 0), (0, .ref m0), (2, .int 1), (3, .int (nI x)), (4, .int (nI (by2 f p1))), (5, .int (nI p)), (6, .int (nI s3)), (7, .int (nI i)), (8, .int (nI (by4 f (p + 2)))), (10, .int (nI 0))], [.int (nI s3)], M48)) rfl rfl rfl ?_
                refine ps_st (S' := (241, [(11, .int 0), (0, .ref m0), (2, .int 1), (3, .int (nI x)), (4, .int (nI (by2 f p1))), (5, .int (nI p)), (6, .int (nI s3)), (7, .int (nI i)), (8, .int (nI (by4 f (p + 2)))), (10, .int (nI 0))], [.int 1, .int (nI s3)], M48)) rfl rfl rfl ?_
                refine ps_st (S' := (243, [(11, .int 0), (0, .ref m0), (2, .int 1), (3, .int (nI x)), (4, .int (nI (by2 f p1))), (5, .int (nI p)), (6, .int (nI s3)), (7, .int (nI i)), (8, .int (nI (by4 f (p + 2)))), (10, .int (nI 0))], [.int (nI 0), .int 1, .int (nI s3)], M48)) rfl rfl rfl ?_
                refine ps_st (S' := (244, [(11, .int 0), (0, .ref m0), (2, .int 1), (3, .int (nI x)), (4, .int (nI (by2 f p1))), (5, .int (nI p)), (6, .int (nI s3)), (7, .int (nI i)), (8, .int (nI (by4 f (p + 2)))), (10, .int (nI 0))], [.int (1 <<< ((nI 0) &&& 31)), .int (nI s3)], M48)) rfl rfl rfl ?_
                refine ps_st (S' := (245, [(11, .int 0), (0, .ref m0), (2, .int 1), (3, .int (nI x)), (4, .int (nI (by2 f p1))), (5, .int (nI p)), (6, .int (nI s3)), (7, .int (nI i)), (8, .int (nI (by4 f (p + 2)))), (10, .int (nI 0))], [.int ((nI s3) ||| (1 <<< ((nI 0) &&& 31)))], M48)) rfl rfl rfl ?_
                rw [or_k s3 0 (by omega)]
                show pl _ _ _ (_, [(11, .int 0), (0, .ref m0), (2, .int 1), (3, .int (nI x)), (4, .int (nI (by2 f p1))), (5, .int (nI p)), (6, .int (nI s3)), (7, .int (nI i)), (8, .int (nI (by4 f (p + 2)))), (10, .int (nI 0))], [.int (nI (so s3 0))], M48) _
                refine ps_st (S' := (247, [(6, .int (nI (so s3 0))), (11, .int 0), (0, .ref m0), (2, .int 1), (3, .int (nI x)), (4, .int (nI (by2 f p1))), (5, .int (nI p)), (7, .int (nI i)), (8, .int (nI (by4 f (p + 2)))), (10, .int (nI 0))], [], M48)) rfl rfl rfl ?_
                refine ps_st (S' := (249, [(6, .int (nI (so s3 0))), (11, .int 0), (0, .ref m0), (2, .int 1), (3, .int (nI x)), (4, .int (nI (by2 f p1))), (5, .int (nI p)), (7, .int (nI i)), (8, .int (nI (by4 f (p + 2)))), (10, .int (nI 0))], [.int 0], M48)) rfl rfl rfl ?_
                refine ps_if (S1 := (261, [(0, .ref m0), (2, .int 1), (3, .int (nI x)), (4, .int (nI (by2 f p1))), (5, .int (nI p)), (6, .int (nI (so s3 0))), (7, .int (nI i)), (8, .int (nI (by4 f (p + 2)))), (11, .int 0)], [], M48)) (S2 := (252, [(6, .int (nI (so s3 0))), (11, .int 0), (0, .ref m0), (2, .int 1), (3, .int (nI x)), (4, .int (nI (by2 f p1))), (5, .int (nI p)), (7, .int (nI i)), (8, .int (nI (by4 f (p + 2)))), (10, .int (nI 0))], [], M48)) rfl rfl rfl (fun c_249 => ?_) (fun c_249 => ?_)
                rotate_left
                · exact absurd (by decide) (of_decide_eq_false c_249)
                refine ps_st (S' := (263, [(0, .ref m0), (2, .int 1), (3, .int (nI x)), (4, .int (nI (by2 f p1))), (5, .int (nI p)), (6, .int (nI (so s3 0))), (7, .int (nI i)), (8, .int (nI (by4 f (p + 2)))), (11, .int 0)], [.int 0], M48)) rfl rfl rfl ?_
                refine ps_if (S1 := (268, [(0, .ref m0), (2, .int 1), (3, .int (nI x)), (4, .int (nI (by2 f p1))), (5, .int (nI p)), (6, .int (nI (so s3 0))), (7, .int (nI i)), (8, .int (nI (by4 f (p + 2))))], [], M48)) (S2 := (266, [(0, .ref m0), (2, .int 1), (3, .int (nI x)), (4, .int (nI (by2 f p1))), (5, .int (nI p)), (6, .int (nI (so s3 0))), (7, .int (nI i)), (8, .int (nI (by4 f (p + 2)))), (11, .int 0)], [], M48)) rfl rfl rfl (fun c_263 => ?_) (fun c_263 => ?_)
                rotate_left
                · exact absurd (by decide) (of_decide_eq_false c_263)
                refine ps_st (S' := (270, [(0, .ref m0), (2, .int 1), (3, .int (nI x)), (4, .int (nI (by2 f p1))), (5, .int (nI p)), (6, .int (nI (so s3 0))), (7, .int (nI i)), (8, .int (nI (by4 f (p + 2))))], [.int (nI p)], M48)) rfl rfl rfl ?_
                refine ps_st (S' := (272, [(0, .ref m0), (2, .int 1), (3, .int (nI x)), (4, .int (nI (by2 f p1))), (5, .int (nI p)), (6, .int (nI (so s3 0))), (7, .int (nI i)), (8, .int (nI (by4 f (p + 2))))], [.int 6, .int (nI p)], M48)) rfl rfl rfl ?_
                refine ps_st (S' := (274, [(0, .ref m0), (2, .int 1), (3, .int (nI x)), (4, .int (nI (by2 f p1))), (5, .int (nI p)), (6, .int (nI (so s3 0))), (7, .int (nI i)), (8, .int (nI (by4 f (p + 2))))], [.int (nI (by4 f (p + 2))), .int 6, .int (nI p)], M48)) rfl rfl rfl ?_
                refine ps_st (S' := (275, [(0, .ref m0), (2, .int 1), (3, .int (nI x)), (4, .int (nI (by2 f p1))), (5, .int (nI p)), (6, .int (nI (so s3 0))), (7, .int (nI i)), (8, .int (nI (by4 f (p + 2))))], [.int (6 + (nI (by4 f (p + 2)))), .int (nI p)], M48)) rfl rfl rfl ?_
                rw [nI_add2 (p := 6) (k := by4 f (p + 2)) (x := 6) (y := (nI (by4 f (p + 2)))) rfl rfl (by omega)]
                show pl _ _ _ (_, [(0, .ref m0), (2, .int 1), (3, .int (nI x)), (4, .int (nI (by2 f p1))), (5, .int (nI p)), (6, .int (nI (so s3 0))), (7, .int (nI i)), (8, .int (nI (by4 f (p + 2))))], [.int (nI (6 + by4 f (p + 2))), .int (nI p)], M48) _
                refine ps_st (S' := (276, [(0, .ref m0), (2, .int 1), (3, .int (nI x)), (4, .int (nI (by2 f p1))), (5, .int (nI p)), (6, .int (nI (so s3 0))), (7, .int (nI i)), (8, .int (nI (by4 f (p + 2))))], [.int ((nI p) + (nI (6 + by4 f (p + 2))))], M48)) rfl rfl rfl ?_
                rw [nI_add1 (p := p) (k := 6 + by4 f (p + 2)) (x := (nI (6 + by4 f (p + 2)))) rfl (by omega)]
                rw [show nI (p + (6 + by4 f (p + 2))) = nI (p + 6 + by4 f (p + 2)) from congrArg nI (by omega)]
                show pl _ _ _ (_, [(0, .ref m0), (2, .int 1), (3, .int (nI x)), (4, .int (nI (by2 f p1))), (5, .int (nI p)), (6, .int (nI (so s3 0))), (7, .int (nI i)), (8, .int (nI (by4 f (p + 2))))], [.int (nI (p + 6 + by4 f (p + 2)))], M48) _
                refine ps_st (S' := (278, [(5, .int (nI (p + 6 + by4 f (p + 2)))), (0, .ref m0), (2, .int 1), (3, .int (nI x)), (4, .int (nI (by2 f p1))), (6, .int (nI (so s3 0))), (7, .int (nI i)), (8, .int (nI (by4 f (p + 2))))], [], M48)) rfl rfl rfl ?_
                refine ps_st (S' := (281, [(7, .int ((nI i) + 1)), (5, .int (nI (p + 6 + by4 f (p + 2)))), (0, .ref m0), (2, .int 1), (3, .int (nI x)), (4, .int (nI (by2 f p1))), (6, .int (nI (so s3 0))), (8, .int (nI (by4 f (p + 2))))], [], M48)) rfl rfl rfl ?_
                rw [nI_add1 (p := i) (k := 1) (x := 1) rfl (by omega)]
                show pl _ _ _ (_, [(7, .int (nI (i + 1))), (5, .int (nI (p + 6 + by4 f (p + 2)))), (0, .ref m0), (2, .int 1), (3, .int (nI x)), (4, .int (nI (by2 f p1))), (6, .int (nI (so s3 0))), (8, .int (nI (by4 f (p + 2))))], [], M48) _
                refine ps_st (S' := (18, [(0, .ref m0), (2, .int 1), (3, .int (nI x)), (4, .int (nI (by2 f p1))), (5, .int (nI (p + 6 + by4 f (p + 2)))), (6, .int (nI (so s3 0))), (7, .int (nI (i + 1)))], [], M48)) rfl rfl rfl ?_
                exact ih.1 (i + 1) (p + 6 + by4 f (p + 2)) (so s2 1) (so s3 0) M48 I120 R121 hR122 hEI133 hER134 hi125 hi126 hi127 hF_128 hY_129 hP_130 hK_131 hX_132 (by omega) (so_lt hl (by decide)) (by rw [sb_so, sb_so]; rfl) (hq7) (by
                    rw [← hs9, faS_k (i := i) (p := p) (s := s2) hi0 h1 hsm (by omega), if_neg (fun h9 => h9 q233_s), if_neg (fun h9 => (by rcases q233_b with h8 | h8; exact h9.1 (has_9.mpr h8); exact h9.2 h8))])
            · have c_198 : ¬ (¬ (nI (sb s3 0)) = 1) := of_decide_eq_false c_198
              have n_198 : sb s3 0 = 1 := (eq_nI (p := sb s3 0) (n := 1) (Nat.lt_trans (sb_lt _ _) (by decide)) (by decide)).mp (Decidable.not_not.mp c_198)
              refine ps_st (S' := (202, [(0, .ref m0), (2, .int 1), (3, .int (nI x)), (4, .int (nI (by2 f p1))), (5, .int (nI p)), (6, .int (nI s3)), (7, .int (nI i)), (8, .int (nI (by4 f (p + 2)))), (10, .int (nI 0))], [.ref m0], M37)) rfl rfl rfl ?_
              refine ps_st (S' := (204, [(0, .ref m0), (2, .int 1), (3, .int (nI x)), (4, .int (nI (by2 f p1))), (5, .int (nI p)), (6, .int (nI s3)), (7, .int (nI i)), (8, .int (nI (by4 f (p + 2)))), (10, .int (nI 0))], [.int 29, .ref m0], M37)) rfl rfl rfl ?_
              refine ps_st (S' := (206, [(0, .ref m0), (2, .int 1), (3, .int (nI x)), (4, .int (nI (by2 f p1))), (5, .int (nI p)), (6, .int (nI s3)), (7, .int (nI i)), (8, .int (nI (by4 f (p + 2)))), (10, .int (nI 0))], [.int (nI p), .int 29, .ref m0], M37)) rfl rfl rfl ?_
              refine pl_call (a := [.ref m0, .int 29, .int (nI p)]) (rest := []) rfl rfl rfl (rd_wrong (x1 := 29) (x2 := (nI p)) hR39) (fun v135 M136 q137 => ?_)
              obtain ⟨I138, R139, rfl, hR140, hI141, hX142, hi143, hi144⟩ := q137
              have hi145 := (hI141 51 (by decide)).trans hl51
              have hi146 := (hI141 52 (by decide)).trans hl52
              have hi147 := (hI141 53 (by decide)).trans hl53
              have hF_148 := hF_41.mono (cIx hI141 (by decide)) (cRx hX142 (by decide))
              have hY_149 := hY_42.mono (cIx hI141 (by decide)) (cRx hX142 (by decide))
              have hP_150 := hP_43.mono (cIx hI141 (by decide)) (cRx hX142 (by decide))
              have hK_151 := hK_44.mono (cIx hI141 (by decide)) (cRx hX142 (by decide))
              have hX_152 := hX_45.mono (cIx hI141 (by decide)) (cRx hX142 (by decide))
              have hEI153 := hEI1.tr hI141 (by decide)
              have hER154 := hER46.tr hX142 (by decide)
              show pl _ _ _ (209, [(0, .ref m0), (2, .int 1), (3, .int (nI x)), (4, .int (nI (by2 f p1))), (5, .int (nI p)), (6, .int (nI s3)), (7, .int (nI i)), (8, .int (nI (by4 f (p + 2)))), (10, .int (nI 0))], [.int 0], M136) _
              refine ps_st (S' := (210, [(0, .ref m0), (2, .int 1), (3, .int (nI x)), (4, .int (nI (by2 f p1))), (5, .int (nI p)), (6, .int (nI s3)), (7, .int (nI i)), (8, .int (nI (by4 f (p + 2)))), (10, .int (nI 0))], [], M136)) rfl rfl rfl ?_
              refine ps_st (S' := (211, [(0, .ref m0), (2, .int 1), (3, .int (nI x)), (4, .int (nI (by2 f p1))), (5, .int (nI p)), (6, .int (nI s3)), (7, .int (nI i)), (8, .int (nI (by4 f (p + 2)))), (10, .int (nI 0))], [.int (-1)], M136)) rfl rfl rfl ?_
              exact ps_ret rfl rfl (Or.inl ⟨(29, p), I138, R139, by
                  rw [← hs9, faS_29 (i := i) (p := p) (s := s2) hi0 h1 hsm (by omega)], rfl, hR140, hEI153, hER154, hi143, hi144⟩)
        · have c_86 : ¬ ((nI 10) ≤ (nI k)) := of_decide_eq_false c_86
          have n_86 : ¬ (10 ≤ k) := fun h9 => c_86 ((le_nI (p := 10) (n := k) (by decide) (by omega)).mpr h9)
          refine ps_st (S' := (90, [(0, .ref m0), (2, .int 1), (3, .int (nI x)), (4, .int (nI (by2 f p1))), (5, .int (nI p)), (6, .int (nI s3)), (7, .int (nI i)), (8, .int (nI (by4 f (p + 2)))), (9, .int (nI t)), (10, .int (gI (kb mj 1 (tX f n E (by2 f p)) k))), (11, .int (nI k))], [.ref m0], M1)) rfl rfl rfl ?_
          refine pr_ref (j := 63) (S' := (93, [(0, .ref m0), (2, .int 1), (3, .int (nI x)), (4, .int (nI (by2 f p1))), (5, .int (nI p)), (6, .int (nI s3)), (7, .int (nI i)), (8, .int (nI (by4 f (p + 2)))), (9, .int (nI t)), (10, .int (gI (kb mj 1 (tX f n E (by2 f p)) k))), (11, .int (nI k))], [.ref (q 63)], M1)) rfl hR1 rfl rfl ?_
          refine ps_st (S' := (95, [(0, .ref m0), (2, .int 1), (3, .int (nI x)), (4, .int (nI (by2 f p1))), (5, .int (nI p)), (6, .int (nI s3)), (7, .int (nI i)), (8, .int (nI (by4 f (p + 2)))), (9, .int (nI t)), (10, .int (gI (kb mj 1 (tX f n E (by2 f p)) k))), (11, .int (nI k))], [.int (nI k), .ref (q 63)], M1)) rfl rfl rfl ?_
          have hki_95 := kiN_lt k
          refine pr_ld (a := 63) (j := k) (y := (nI (kiN k))) (S' := (96, [(0, .ref m0), (2, .int 1), (3, .int (nI x)), (4, .int (nI (by2 f p1))), (5, .int (nI p)), (6, .int (nI s3)), (7, .int (nI i)), (8, .int (nI (by4 f (p + 2)))), (9, .int (nI t)), (10, .int (gI (kb mj 1 (tX f n E (by2 f p)) k))), (11, .int (nI k))], [.int (nI (kiN k))], M1)) rfl hR1 rfl (by omega) (fun _ => (hK1 k (by omega)).1) rfl (fun i1_95 => ?_)
          refine ps_st (S' := (97, [(0, .ref m0), (2, .int 1), (3, .int (nI x)), (4, .int (nI (by2 f p1))), (5, .int (nI p)), (6, .int (nI s3)), (7, .int (nI i)), (8, .int (nI (by4 f (p + 2)))), (9, .int (nI t)), (10, .int (gI (kb mj 1 (tX f n E (by2 f p)) k))), (11, .int (nI k))], [.int 1, .int (nI (kiN k))], M1)) rfl rfl rfl ?_
          refine ps_if2 (S1 := (134, [(0, .ref m0), (2, .int 1), (3, .int (nI x)), (4, .int (nI (by2 f p1))), (5, .int (nI p)), (6, .int (nI s3)), (7, .int (nI i)), (8, .int (nI (by4 f (p + 2)))), (9, .int (nI t)), (10, .int (gI (kb mj 1 (tX f n E (by2 f p)) k))), (11, .int (nI k))], [], M1)) (S2 := (100, [(0, .ref m0), (2, .int 1), (3, .int (nI x)), (4, .int (nI (by2 f p1))), (5, .int (nI p)), (6, .int (nI s3)), (7, .int (nI i)), (8, .int (nI (by4 f (p + 2)))), (9, .int (nI t)), (10, .int (gI (kb mj 1 (tX f n E (by2 f p)) k))), (11, .int (nI k))], [], M1)) rfl rfl rfl (fun c_97 => ?_) (fun c_97 => ?_)
          · have c_97 : ¬ (nI (kiN k)) = 1 := of_decide_eq_true c_97
            have n_97 : ¬ (kiN k = 1) := fun h9 => c_97 ((eq_nI (p := kiN k) (n := 1) (Nat.lt_trans (kiN_lt _) (by decide)) (by decide)).mpr h9)
            refine ps_st (S' := (137, [(11, .int ((nI k) + 1)), (0, .ref m0), (2, .int 1), (3, .int (nI x)), (4, .int (nI (by2 f p1))), (5, .int (nI p)), (6, .int (nI s3)), (7, .int (nI i)), (8, .int (nI (by4 f (p + 2)))), (9, .int (nI t)), (10, .int (gI (kb mj 1 (tX f n E (by2 f p)) k)))], [], M1)) rfl rfl rfl ?_
            rw [nI_add1 (p := k) (k := 1) (x := 1) rfl (by omega)]
            show pl _ _ _ (_, [(11, .int (nI (k + 1))), (0, .ref m0), (2, .int 1), (3, .int (nI x)), (4, .int (nI (by2 f p1))), (5, .int (nI p)), (6, .int (nI s3)), (7, .int (nI i)), (8, .int (nI (by4 f (p + 2)))), (9, .int (nI t)), (10, .int (gI (kb mj 1 (tX f n E (by2 f p)) k)))], [], M1) _
            refine ps_st (S' := (79, [(0, .ref m0), (2, .int 1), (3, .int (nI x)), (4, .int (nI (by2 f p1))), (5, .int (nI p)), (6, .int (nI s3)), (7, .int (nI i)), (8, .int (nI (by4 f (p + 2)))), (9, .int (nI t)), (10, .int (gI (kb mj 1 (tX f n E (by2 f p)) k))), (11, .int (nI (k + 1)))], [], M1)) rfl rfl rfl ?_
            have hkb : (gI (kb mj 1 (tX f n E (by2 f p)) k)) = gI (kb mj 1 (tX f n E (by2 f p)) (k + 1)) := by
              conv => rhs; unfold kb
              rw [if_neg (by omega)]
            rw [hkb]
            exact ih.2 (i) (p) (s2) (s3) (k + 1) (t) M1 I1 R1 hR1 hEI1 hER1 hl51 hl52 hl53 hF1 hY1 hP1 hK1 hX1 (hi0) (hl) (hb) (ha) (hs9) (by omega) (h1) (hsy)
          · have c_97 : ¬ (¬ (nI (kiN k)) = 1) := of_decide_eq_false c_97
            have n_97 : kiN k = 1 := (eq_nI (p := kiN k) (n := 1) (Nat.lt_trans (kiN_lt _) (by decide)) (by decide)).mp (Decidable.not_not.mp c_97)
            refine ps_st (S' := (101, [(0, .ref m0), (2, .int 1), (3, .int (nI x)), (4, .int (nI (by2 f p1))), (5, .int (nI p)), (6, .int (nI s3)), (7, .int (nI i)), (8, .int (nI (by4 f (p + 2)))), (9, .int (nI t)), (10, .int (gI (kb mj 1 (tX f n E (by2 f p)) k))), (11, .int (nI k))], [.ref m0], M1)) rfl rfl rfl ?_
            refine pr_int (j := 53) (S' := (104, [(0, .ref m0), (2, .int 1), (3, .int (nI x)), (4, .int (nI (by2 f p1))), (5, .int (nI p)), (6, .int (nI s3)), (7, .int (nI i)), (8, .int (nI (by4 f (p + 2)))), (9, .int (nI t)), (10, .int (gI (kb mj 1 (tX f n E (by2 f p)) k))), (11, .int (nI k))], [.int (nI mj)], M1)) rfl hR1 rfl hl53 rfl ?_
            refine ps_st (S' := (105, [(0, .ref m0), (2, .int 1), (3, .int (nI x)), (4, .int (nI (by2 f p1))), (5, .int (nI p)), (6, .int (nI s3)), (7, .int (nI i)), (8, .int (nI (by4 f (p + 2)))), (9, .int (nI t)), (10, .int (gI (kb mj 1 (tX f n E (by2 f p)) k))), (11, .int (nI k))], [.ref m0, .int (nI mj)], M1)) rfl rfl rfl ?_
            refine pr_ref (j := 64) (S' := (108, [(0, .ref m0), (2, .int 1), (3, .int (nI x)), (4, .int (nI (by2 f p1))), (5, .int (nI p)), (6, .int (nI s3)), (7, .int (nI i)), (8, .int (nI (by4 f (p + 2)))), (9, .int (nI t)), (10, .int (gI (kb mj 1 (tX f n E (by2 f p)) k))), (11, .int (nI k))], [.ref (q 64), .int (nI mj)], M1)) rfl hR1 rfl rfl ?_
            refine ps_st (S' := (110, [(0, .ref m0), (2, .int 1), (3, .int (nI x)), (4, .int (nI (by2 f p1))), (5, .int (nI p)), (6, .int (nI s3)), (7, .int (nI i)), (8, .int (nI (by4 f (p + 2)))), (9, .int (nI t)), (10, .int (gI (kb mj 1 (tX f n E (by2 f p)) k))), (11, .int (nI k))], [.int (nI k), .ref (q 64), .int (nI mj)], M1)) rfl rfl rfl ?_
            have hkf_110 := kfN_lt k
            refine pr_ld (a := 64) (j := k) (y := (nI (kfN k))) (S' := (111, [(0, .ref m0), (2, .int 1), (3, .int (nI x)), (4, .int (nI (by2 f p1))), (5, .int (nI p)), (6, .int (nI s3)), (7, .int (nI i)), (8, .int (nI (by4 f (p + 2)))), (9, .int (nI t)), (10, .int (gI (kb mj 1 (tX f n E (by2 f p)) k))), (11, .int (nI k))], [.int (nI (kfN k)), .int (nI mj)], M1)) rfl hR1 rfl (by omega) (fun _ => (hK1 k (by omega)).2) rfl (fun i1_110 => ?_)
            refine ps_if2 (S1 := (134, [(0, .ref m0), (2, .int 1), (3, .int (nI x)), (4, .int (nI (by2 f p1))), (5, .int (nI p)), (6, .int (nI s3)), (7, .int (nI i)), (8, .int (nI (by4 f (p + 2)))), (9, .int (nI t)), (10, .int (gI (kb mj 1 (tX f n E (by2 f p)) k))), (11, .int (nI k))], [], M1)) (S2 := (114, [(0, .ref m0), (2, .int 1), (3, .int (nI x)), (4, .int (nI (by2 f p1))), (5, .int (nI p)), (6, .int (nI s3)), (7, .int (nI i)), (8, .int (nI (by4 f (p + 2)))), (9, .int (nI t)), (10, .int (gI (kb mj 1 (tX f n E (by2 f p)) k))), (11, .int (nI k))], [], M1)) rfl rfl rfl (fun c_111 => ?_) (fun c_111 => ?_)
            · have c_111 : (nI mj) < (nI (kfN k)) := of_decide_eq_true c_111
              have n_111 : mj < kfN k := (lt_nI (p := mj) (n := kfN k) (by omega) (Nat.lt_trans (kfN_lt _) (by decide))).mp c_111
              refine ps_st (S' := (137, [(11, .int ((nI k) + 1)), (0, .ref m0), (2, .int 1), (3, .int (nI x)), (4, .int (nI (by2 f p1))), (5, .int (nI p)), (6, .int (nI s3)), (7, .int (nI i)), (8, .int (nI (by4 f (p + 2)))), (9, .int (nI t)), (10, .int (gI (kb mj 1 (tX f n E (by2 f p)) k)))], [], M1)) rfl rfl rfl ?_
              rw [nI_add1 (p := k) (k := 1) (x := 1) rfl (by omega)]
              show pl _ _ _ (_, [(11, .int (nI (k + 1))), (0, .ref m0), (2, .int 1), (3, .int (nI x)), (4, .int (nI (by2 f p1))), (5, .int (nI p)), (6, .int (nI s3)), (7, .int (nI i)), (8, .int (nI (by4 f (p + 2)))), (9, .int (nI t)), (10, .int (gI (kb mj 1 (tX f n E (by2 f p)) k)))], [], M1) _
              refine ps_st (S' := (79, [(0, .ref m0), (2, .int 1), (3, .int (nI x)), (4, .int (nI (by2 f p1))), (5, .int (nI p)), (6, .int (nI s3)), (7, .int (nI i)), (8, .int (nI (by4 f (p + 2)))), (9, .int (nI t)), (10, .int (gI (kb mj 1 (tX f n E (by2 f p)) k))), (11, .int (nI (k + 1)))], [], M1)) rfl rfl rfl ?_
              have hkb : (gI (kb mj 1 (tX f n E (by2 f p)) k)) = gI (kb mj 1 (tX f n E (by2 f p)) (k + 1)) := by
                conv => rhs; unfold kb
                rw [if_neg (by omega)]
              rw [hkb]
              exact ih.2 (i) (p) (s2) (s3) (k + 1) (t) M1 I1 R1 hR1 hEI1 hER1 hl51 hl52 hl53 hF1 hY1 hP1 hK1 hX1 (hi0) (hl) (hb) (ha) (hs9) (by omega) (h1) (hsy)
            · have c_111 : ¬ ((nI mj) < (nI (kfN k))) := of_decide_eq_false c_111
              have n_111 : ¬ (mj < kfN k) := fun h9 => c_111 ((lt_nI (p := mj) (n := kfN k) (by omega) (Nat.lt_trans (kfN_lt _) (by decide))).mpr h9)
              refine ps_st (S' := (115, [(0, .ref m0), (2, .int 1), (3, .int (nI x)), (4, .int (nI (by2 f p1))), (5, .int (nI p)), (6, .int (nI s3)), (7, .int (nI i)), (8, .int (nI (by4 f (p + 2)))), (9, .int (nI t)), (10, .int (gI (kb mj 1 (tX f n E (by2 f p)) k))), (11, .int (nI k))], [.ref m0], M1)) rfl rfl rfl ?_
              refine ps_st (S' := (117, [(0, .ref m0), (2, .int 1), (3, .int (nI x)), (4, .int (nI (by2 f p1))), (5, .int (nI p)), (6, .int (nI s3)), (7, .int (nI i)), (8, .int (nI (by4 f (p + 2)))), (9, .int (nI t)), (10, .int (gI (kb mj 1 (tX f n E (by2 f p)) k))), (11, .int (nI k))], [.int (nI t), .ref m0], M1)) rfl rfl rfl ?_
              refine ps_st (S' := (118, [(0, .ref m0), (2, .int 1), (3, .int (nI x)), (4, .int (nI (by2 f p1))), (5, .int (nI p)), (6, .int (nI s3)), (7, .int (nI i)), (8, .int (nI (by4 f (p + 2)))), (9, .int (nI t)), (10, .int (gI (kb mj 1 (tX f n E (by2 f p)) k))), (11, .int (nI k))], [.ref m0, .int (nI t), .ref m0], M1)) rfl rfl rfl ?_
              refine pr_ref (j := 62) (S' := (121, [(0, .ref m0), (2, .int 1), (3, .int (nI x)), (4, .int (nI (by2 f p1))), (5, .int (nI p)), (6, .int (nI s3)), (7, .int (nI i)), (8, .int (nI (by4 f (p + 2)))), (9, .int (nI t)), (10, .int (gI (kb mj 1 (tX f n E (by2 f p)) k))), (11, .int (nI k))], [.ref (q 62), .int (nI t), .ref m0], M1)) rfl hR1 rfl rfl ?_
              refine ps_st (S' := (123, [(0, .ref m0), (2, .int 1), (3, .int (nI x)), (4, .int (nI (by2 f p1))), (5, .int (nI p)), (6, .int (nI s3)), (7, .int (nI i)), (8, .int (nI (by4 f (p + 2)))), (9, .int (nI t)), (10, .int (gI (kb mj 1 (tX f n E (by2 f p)) k))), (11, .int (nI k))], [.int (nI k), .ref (q 62), .int (nI t), .ref m0], M1)) rfl rfl rfl ?_
              refine pr_kn (j := k) (S' := (124, [(0, .ref m0), (2, .int 1), (3, .int (nI x)), (4, .int (nI (by2 f p1))), (5, .int (nI p)), (6, .int (nI s3)), (7, .int (nI i)), (8, .int (nI (by4 f (p + 2)))), (9, .int (nI t)), (10, .int (gI (kb mj 1 (tX f n E (by2 f p)) k))), (11, .int (nI k))], [.ref (g.2.1 (15 + k)), .int (nI t), .ref m0], M1)) rfl hR1 (by omega) rfl ?_
              refine pl_call (a := [.ref m0, .int (nI t), .ref (g.2.1 (15 + k))]) (rest := []) rfl rfl rfl (rd_is (tx := tx) (cN := cN) (A := A) (s := t) (l := (tX f n E (by2 f p))) (lk := (15 + k)) hR1 hY1 (hsy) (⟨by omega, by omega⟩)) (fun v155 M156 q157 => ?_)
              obtain ⟨rfl, rfl⟩ := q157
              show pl _ _ _ (127, [(0, .ref m0), (2, .int 1), (3, .int (nI x)), (4, .int (nI (by2 f p1))), (5, .int (nI p)), (6, .int (nI s3)), (7, .int (nI i)), (8, .int (nI (by4 f (p + 2)))), (9, .int (nI t)), (10, .int (gI (kb mj 1 (tX f n E (by2 f p)) k))), (11, .int (nI k))], [.int (nI (eqN (tX f n E (by2 f p)) (ltx (15 + k))))], M1) _
              refine ps_if (S1 := (134, [(0, .ref m0), (2, .int 1), (3, .int (nI x)), (4, .int (nI (by2 f p1))), (5, .int (nI p)), (6, .int (nI s3)), (7, .int (nI i)), (8, .int (nI (by4 f (p + 2)))), (9, .int (nI t)), (10, .int (gI (kb mj 1 (tX f n E (by2 f p)) k))), (11, .int (nI k))], [], M1)) (S2 := (130, [(0, .ref m0), (2, .int 1), (3, .int (nI x)), (4, .int (nI (by2 f p1))), (5, .int (nI p)), (6, .int (nI s3)), (7, .int (nI i)), (8, .int (nI (by4 f (p + 2)))), (9, .int (nI t)), (10, .int (gI (kb mj 1 (tX f n E (by2 f p)) k))), (11, .int (nI k))], [], M1)) rfl rfl rfl (fun c_127 => ?_) (fun c_127 => ?_)
              · have c_127 : (nI (eqN (tX f n E (by2 f p)) (ltx (15 + k)))) = 0 := of_decide_eq_true c_127
                have n_127 : eqN (tX f n E (by2 f p)) (ltx (15 + k)) = 0 := (eq_nI (p := eqN (tX f n E (by2 f p)) (ltx (15 + k))) (n := 0) (Nat.lt_trans (le1_eq _ _) (by decide)) (by decide)).mp c_127
                refine ps_st (S' := (137, [(11, .int ((nI k) + 1)), (0, .ref m0), (2, .int 1), (3, .int (nI x)), (4, .int (nI (by2 f p1))), (5, .int (nI p)), (6, .int (nI s3)), (7, .int (nI i)), (8, .int (nI (by4 f (p + 2)))), (9, .int (nI t)), (10, .int (gI (kb mj 1 (tX f n E (by2 f p)) k)))], [], M1)) rfl rfl rfl ?_
                rw [nI_add1 (p := k) (k := 1) (x := 1) rfl (by omega)]
                show pl _ _ _ (_, [(11, .int (nI (k + 1))), (0, .ref m0), (2, .int 1), (3, .int (nI x)), (4, .int (nI (by2 f p1))), (5, .int (nI p)), (6, .int (nI s3)), (7, .int (nI i)), (8, .int (nI (by4 f (p + 2)))), (9, .int (nI t)), (10, .int (gI (kb mj 1 (tX f n E (by2 f p)) k)))], [], M1) _
                refine ps_st (S' := (79, [(0, .ref m0), (2, .int 1), (3, .int (nI x)), (4, .int (nI (by2 f p1))), (5, .int (nI p)), (6, .int (nI s3)), (7, .int (nI i)), (8, .int (nI (by4 f (p + 2)))), (9, .int (nI t)), (10, .int (gI (kb mj 1 (tX f n E (by2 f p)) k))), (11, .int (nI (k + 1)))], [], M1)) rfl rfl rfl ?_
                have hkb : (gI (kb mj 1 (tX f n E (by2 f p)) k)) = gI (kb mj 1 (tX f n E (by2 f p)) (k + 1)) := by
                  conv => rhs; unfold kb
                  rw [if_neg (by omega)]
                rw [hkb]
                exact ih.2 (i) (p) (s2) (s3) (k + 1) (t) M1 I1 R1 hR1 hEI1 hER1 hl51 hl52 hl53 hF1 hY1 hP1 hK1 hX1 (hi0) (hl) (hb) (ha) (hs9) (by omega) (h1) (hsy)
              · have c_127 : ¬ ((nI (eqN (tX f n E (by2 f p)) (ltx (15 + k)))) = 0) := of_decide_eq_false c_127
                have n_127 : ¬ (eqN (tX f n E (by2 f p)) (ltx (15 + k)) = 0) := fun h9 => c_127 ((eq_nI (p := eqN (tX f n E (by2 f p)) (ltx (15 + k))) (n := 0) (Nat.lt_trans (le1_eq _ _) (by decide)) (by decide)).mpr h9)
                refine ps_st (S' := (132, [(0, .ref m0), (2, .int 1), (3, .int (nI x)), (4, .int (nI (by2 f p1))), (5, .int (nI p)), (6, .int (nI s3)), (7, .int (nI i)), (8, .int (nI (by4 f (p + 2)))), (9, .int (nI t)), (10, .int (gI (kb mj 1 (tX f n E (by2 f p)) k))), (11, .int (nI k))], [.int (nI k)], M1)) rfl rfl rfl ?_
                refine ps_st (S' := (134, [(0, .ref m0), (2, .int 1), (3, .int (nI x)), (4, .int (nI (by2 f p1))), (5, .int (nI p)), (6, .int (nI s3)), (7, .int (nI i)), (8, .int (nI (by4 f (p + 2)))), (9, .int (nI t)), (10, .int (nI k)), (11, .int (nI k))], [], M1)) rfl rfl rfl ?_
                refine ps_st (S' := (137, [(11, .int ((nI k) + 1)), (0, .ref m0), (2, .int 1), (3, .int (nI x)), (4, .int (nI (by2 f p1))), (5, .int (nI p)), (6, .int (nI s3)), (7, .int (nI i)), (8, .int (nI (by4 f (p + 2)))), (9, .int (nI t)), (10, .int (nI k))], [], M1)) rfl rfl rfl ?_
                rw [nI_add1 (p := k) (k := 1) (x := 1) rfl (by omega)]
                show pl _ _ _ (_, [(11, .int (nI (k + 1))), (0, .ref m0), (2, .int 1), (3, .int (nI x)), (4, .int (nI (by2 f p1))), (5, .int (nI p)), (6, .int (nI s3)), (7, .int (nI i)), (8, .int (nI (by4 f (p + 2)))), (9, .int (nI t)), (10, .int (nI k))], [], M1) _
                refine ps_st (S' := (79, [(0, .ref m0), (2, .int 1), (3, .int (nI x)), (4, .int (nI (by2 f p1))), (5, .int (nI p)), (6, .int (nI s3)), (7, .int (nI i)), (8, .int (nI (by4 f (p + 2)))), (9, .int (nI t)), (10, .int (nI k)), (11, .int (nI (k + 1)))], [], M1)) rfl rfl rfl ?_
                have hkb : (nI k) = gI (kb mj 1 (tX f n E (by2 f p)) (k + 1)) := by
                  conv => rhs; unfold kb
                  rw [if_pos ⟨by omega, by omega, by omega⟩]
                  rfl
                rw [hkb]
                exact ih.2 (i) (p) (s2) (s3) (k + 1) (t) M1 I1 R1 hR1 hEI1 hER1 hl51 hl52 hl53 hF1 hY1 hP1 hK1 hX1 (hi0) (hl) (hb) (ha) (hs9) (by omega) (h1) (hsy)
  refine ps_st (S' := (1, [(0, .ref m0), (1, .int (nI p1)), (2, .int 1), (3, .int (nI x))], [.ref m0], M)) rfl rfl rfl ?_
  refine ps_st (S' := (2, [(0, .ref m0), (1, .int (nI p1)), (2, .int 1), (3, .int (nI x))], [.int (nI p1), .ref m0], M)) rfl rfl rfl ?_
  refine pl_call (a := [.ref m0, .int (nI p1)]) (rest := []) rfl rfl rfl (rd_u2 (n := n) (f := f) (p := p1) hR hF (by omega)) (fun v158 M159 q160 => ?_)
  obtain ⟨rfl, rfl⟩ := q160
  show pl _ _ _ (5, [(0, .ref m0), (1, .int (nI p1)), (2, .int 1), (3, .int (nI x))], [.int (nI (by2 f p1))], M) _
  have hu_2 := by2_lt f p1
  refine ps_st (S' := (7, [(4, .int (nI (by2 f p1))), (0, .ref m0), (1, .int (nI p1)), (2, .int 1), (3, .int (nI x))], [], M)) rfl rfl rfl ?_
  refine ps_st (S' := (8, [(4, .int (nI (by2 f p1))), (0, .ref m0), (1, .int (nI p1)), (2, .int 1), (3, .int (nI x))], [.int (nI p1)], M)) rfl rfl rfl ?_
  refine ps_st (S' := (9, [(4, .int (nI (by2 f p1))), (0, .ref m0), (1, .int (nI p1)), (2, .int 1), (3, .int (nI x))], [.int 2, .int (nI p1)], M)) rfl rfl rfl ?_
  refine ps_st (S' := (10, [(4, .int (nI (by2 f p1))), (0, .ref m0), (1, .int (nI p1)), (2, .int 1), (3, .int (nI x))], [.int ((nI p1) + 2)], M)) rfl rfl rfl ?_
  rw [nI_add1 (p := p1) (k := 2) (x := 2) rfl (by omega)]
  show pl _ _ _ (_, [(4, .int (nI (by2 f p1))), (0, .ref m0), (1, .int (nI p1)), (2, .int 1), (3, .int (nI x))], [.int (nI (p1 + 2))], M) _
  refine ps_st (S' := (12, [(5, .int (nI (p1 + 2))), (4, .int (nI (by2 f p1))), (0, .ref m0), (1, .int (nI p1)), (2, .int 1), (3, .int (nI x))], [], M)) rfl rfl rfl ?_
  refine ps_st (S' := (13, [(5, .int (nI (p1 + 2))), (4, .int (nI (by2 f p1))), (0, .ref m0), (1, .int (nI p1)), (2, .int 1), (3, .int (nI x))], [.int 0], M)) rfl rfl rfl ?_
  refine ps_st (S' := (15, [(6, .int 0), (5, .int (nI (p1 + 2))), (4, .int (nI (by2 f p1))), (0, .ref m0), (1, .int (nI p1)), (2, .int 1), (3, .int (nI x))], [], M)) rfl rfl rfl ?_
  refine ps_st (S' := (16, [(6, .int 0), (5, .int (nI (p1 + 2))), (4, .int (nI (by2 f p1))), (0, .ref m0), (1, .int (nI p1)), (2, .int 1), (3, .int (nI x))], [.int 0], M)) rfl rfl rfl ?_
  refine ps_st (S' := (18, [(0, .ref m0), (2, .int 1), (3, .int (nI x)), (4, .int (nI (by2 f p1))), (5, .int (nI (p1 + 2))), (6, .int 0), (7, .int 0)], [], M)) rfl rfl rfl ?_
  exact (LL kf).1 (0) (p1 + 2) (0) (0) M I R hR hEI hER hi51 hi52 hi53 hF hY hP hK hX (by omega) (by decide) (rfl) (hat) (rfl)
end
section
/-! the class's attributes, as the reference checks them (laid by wip/p4/e15.py) -/

section BRS
variable {f : Nat → Int32} {n : Nat} {E : List (Nat × Nat)} {x p s : Nat}
theorem br_5 : brS f n E x (4 + 1) p s = if inA f E (p + 6 + 2) (by2 f (p + 6)) 0 = 0 then some (.inl 33) else none := by
  unfold brS
  rw [if_pos (by decide)]
theorem br_6 : brS f n E x (5 + 1) p s = if bsA f E (by2 f (p + 6)) (p + 6 + 2) = 0 then some (.inl 38) else none := by
  unfold brS
  rw [if_neg (by decide), if_neg (by decide), if_neg (by decide), if_neg (by decide), if_neg (by decide), if_pos (by decide)]
theorem br_7 : brS f n E x (6 + 1) p s = if tg f E (by2 f (p + 6)) = 7 ∧ sb s 8 = 0 then none else some (.inl 34) := by
  unfold brS
  rw [if_neg (by decide), if_pos (by decide)]
theorem br_8 : brS f n E x (7 + 1) p s = if ¬ clA f E (p + 6 + 2) (by2 f (p + 6)) 0 = 0 ∧ sb s 7 = 0 then none else some (.inl 35) := by
  unfold brS
  rw [if_neg (by decide), if_neg (by decide), if_pos (by decide)]
theorem br_10 : brS f n E x (9 + 1) p s = if ¬ clA f E (p + 6 + 2) (by2 f (p + 6)) 0 = 0 ∧ hasN x 16 = 0 then none else some (.inl 36) := by
  unfold brS
  rw [if_neg (by decide), if_neg (by decide), if_neg (by decide), if_pos (by decide)]
theorem br_9 : brS f n E x (8 + 1) p s = match rcS f n E p (by2 f (p + 6)) (p + 6 + 2) with
    | none => none
    | some e => some (.inr e) := by
  unfold brS
  rw [if_neg (by decide), if_neg (by decide), if_neg (by decide), if_neg (by decide), if_pos (by decide)]
  rfl
theorem br_9s {e9 : Nat × Nat} (h : rcS f n E p (by2 f (p + 6)) (p + 6 + 2) = some e9) : brS f n E x (8 + 1) p s = some (.inr e9) := by
  rw [br_9, h]
theorem br_9n (h : rcS f n E p (by2 f (p + 6)) (p + 6 + 2) = none) : brS f n E x (8 + 1) p s = none := by
  rw [br_9, h]
end BRS
theorem sb_0 {k : Nat} : sb 0 k = 0 := by
  unfold sb
  rw [Nat.zero_testBit]
  rfl
theorem kb_4 {mj : Nat} {l : List Nat} : kb mj 4 l 10 = if 61 ≤ mj ∧ ¬ eqN l (ltx 24) = 0 then some 9 else if 60 ≤ mj ∧ ¬ eqN l (ltx 23) = 0 then some 8 else if 55 ≤ mj ∧ ¬ eqN l (ltx 22) = 0 then some 7 else if 55 ≤ mj ∧ ¬ eqN l (ltx 21) = 0 then some 6 else if 51 ≤ mj ∧ ¬ eqN l (ltx 20) = 0 then some 5 else if ¬ eqN l (ltx 19) = 0 then some 4 else none := by
  simp only [kb, kiN, kfN]
  simp
theorem lt_6 : ltx 3 = ltx 19 ∧ ltx 4 = ltx 20 ∧ ltx 5 = ltx 21 ∧ ltx 6 = ltx 22 ∧ ltx 7 = ltx 23 ∧ ltx 8 = ltx 24 := by decide +kernel
theorem eqd : ∀ a, a < 6 → ∀ b, b < 6 → eqN (ltx (19 + a)) (ltx (19 + b)) = if a = b then 1 else 0 := by decide +kernel
def ckL (mj : Nat) (l : List Nat) : Nat := if ¬ eqN l (ltx 19) = 0 then 5 else if 51 ≤ mj ∧ ¬ eqN l (ltx 20) = 0 then 6 else if 55 ≤ mj ∧ ¬ eqN l (ltx 21) = 0 then 7 else
  if 55 ≤ mj ∧ ¬ eqN l (ltx 22) = 0 then 8 else if 60 ≤ mj ∧ ¬ eqN l (ltx 23) = 0 then 9 else if 61 ≤ mj ∧ ¬ eqN l (ltx 24) = 0 then 10 else 0
theorem ck_L {f : Nat → Int32} {n mj x : Nat} {E : List (Nat × Nat)} : ckN f n E mj x = ckL mj (tX f n E x) := by
  unfold ckN ckL
  rw [lt_6.1, lt_6.2.1, lt_6.2.2.1, lt_6.2.2.2.1, lt_6.2.2.2.2.1, lt_6.2.2.2.2.2]
theorem ck_one {mj a : Nat} (ha : a < 6) : ∀ b, b < 6 → ¬ a = b → eqN (ltx (19 + a)) (ltx (19 + b)) = 0 := fun b hb h => by rw [eqd a ha b hb, if_neg h]
theorem ck_kb {mj : Nat} {l : List Nat} : (kb mj 4 l 10 = none ∧ ckL mj l = 0) ∨ ∃ w, kb mj 4 l 10 = some w ∧ (4 ≤ w ∧ w ≤ 9) ∧ ckL mj l = w + 1 := by
  have hz : (∀ b, b < 6 → eqN l (ltx (19 + b)) = 0) ∨ ∃ a, a < 6 ∧ ∀ b, b < 6 → eqN l (ltx (19 + b)) = if a = b then 1 else 0 := by
    by_cases h : ∃ a, a < 6 ∧ l = ltx (19 + a)
    · obtain ⟨a, ha, e⟩ := h
      exact Or.inr ⟨a, ha, fun b hb => by rw [e]; exact eqd a ha b hb⟩
    · exact Or.inl (fun b hb => by unfold eqN; rw [if_neg (fun e => h ⟨b, hb, e⟩)])
  rw [kb_4]
  unfold ckL
  rcases hz with hz | ⟨a, ha, hz⟩
  · have z0 := hz 0 (by decide); have z1 := hz 1 (by decide); have z2 := hz 2 (by decide); have z3 := hz 3 (by decide); have z4 := hz 4 (by decide); have z5 := hz 5 (by decide)
    simp only [Nat.add_zero, Nat.reduceAdd] at z0 z1 z2 z3 z4 z5
    exact Or.inl (by simp [z0, z1, z2, z3, z4, z5])
  · have z0 := hz 0 (by decide); have z1 := hz 1 (by decide); have z2 := hz 2 (by decide); have z3 := hz 3 (by decide); have z4 := hz 4 (by decide); have z5 := hz 5 (by decide)
    simp only [Nat.add_zero, Nat.reduceAdd] at z0 z1 z2 z3 z4 z5
    rw [z0, z1, z2, z3, z4, z5]
    rcases (show a = 0 ∨ a = 1 ∨ a = 2 ∨ a = 3 ∨ a = 4 ∨ a = 5 by omega) with rfl | rfl | rfl | rfl | rfl | rfl
    · exact Or.inr ⟨4, by simp, by omega, by simp⟩
    · by_cases hm : 51 ≤ mj
      · exact Or.inr ⟨5, by simp [hm], by omega, by simp [hm]⟩
      · exact Or.inl (by simp [hm])
    · by_cases hm : 55 ≤ mj
      · exact Or.inr ⟨6, by simp [hm], by omega, by simp [hm]⟩
      · exact Or.inl (by simp [hm])
    · by_cases hm : 55 ≤ mj
      · exact Or.inr ⟨7, by simp [hm], by omega, by simp [hm]⟩
      · exact Or.inl (by simp [hm])
    · by_cases hm : 60 ≤ mj
      · exact Or.inr ⟨8, by simp [hm], by omega, by simp [hm]⟩
      · exact Or.inl (by simp [hm])
    · by_cases hm : 61 ≤ mj
      · exact Or.inr ⟨9, by simp [hm], by omega, by simp [hm]⟩
      · exact Or.inl (by simp [hm])
theorem ck_y {f : Nat → Int32} {n mj x : Nat} {E : List (Nat × Nat)} (h : ¬ (gI (kb mj 4 (tX f n E x) 10) < 0)) : ∃ w, kb mj 4 (tX f n E x) 10 = some w ∧ (4 ≤ w ∧ w ≤ 9) ∧ ckN f n E mj x = w + 1 := by
  rw [ck_L]
  rcases ck_kb (mj := mj) (l := tX f n E x) with h9 | h9
  · rw [h9.1] at h
    exact absurd (by decide) h
  · exact h9
theorem ck_n {f : Nat → Int32} {n mj x : Nat} {E : List (Nat × Nat)} (h : gI (kb mj 4 (tX f n E x) 10) < 0) : ckN f n E mj x = 0 := by
  rw [ck_L]
  rcases ck_kb (mj := mj) (l := tX f n E x) with h9 | ⟨w, h8, h7, h6⟩
  · exact h9.2
  · rw [h8] at h
    exfalso
    have h1 : nI 0 ≤ nI w := (le_nI (p := 0) (n := w) (by decide) (by omega)).mpr (Nat.zero_le _)
    have h2 : nI w < nI 0 := h
    have h3 := (lt_nI (p := w) (n := 0) (by omega) (by decide)).mp h2
    omega
section CLS
variable {f : Nat → Int32} {n : Nat} {E : List (Nat × Nat)} {x mj c i p s bc w : Nat}
theorem clS_28 (h : i < c) (ht : ¬ tg f E (by2 f p) = 1) : clS f n E x mj (c - i) p s bc = .inl (28, p) := by
  rw [clS_st h, show nwS f E s (ckN f n E mj (by2 f p)) p = .inl (28, p) by unfold nwS; rw [if_pos ht]]
theorem clS_29 (h : i < c) (ht : tg f E (by2 f p) = 1) (hk : ckN f n E mj (by2 f p) = w + 1) (hw : 4 ≤ w) (hs : ¬ sb s (w + 1) = 0) : clS f n E x mj (c - i) p s bc = .inl (29, p) := by
  rw [clS_st h, hk, show nwS f E s (w + 1) p = .inl (29, p) by unfold nwS; rw [if_neg (fun h9 => h9 ht), if_neg (by omega), if_pos hs]]
theorem clS_u (h : i < c) (ht : tg f E (by2 f p) = 1) (hk : ckN f n E mj (by2 f p) = 0) : clS f n E x mj (c - i) p s bc = clS f n E x mj (c - (i + 1)) (p + 6 + by4 f (p + 2)) s bc := by
  rw [clS_st h, hk, show nwS f E s 0 p = .inr s by unfold nwS; rw [if_neg (fun h9 => h9 ht), if_pos rfl]]
  dsimp only
  rw [if_neg (fun h9 => h9.1 rfl), show brS f n E x 0 p s = none by unfold brS; rfl]
  rfl
theorem clS_k {s3 : Nat} (h : i < c) (ht : tg f E (by2 f p) = 1) (hk : ckN f n E mj (by2 f p) = w + 1) (hs : sb s3 w = 0) (hq : sb s3 w = sb s (w + 1)) : clS f n E x mj (c - i) p s bc = if ¬ s_fe f (w + 1) (p + 6) (p + 6 + by4 f (p + 2)) = some (p + 6 + by4 f (p + 2)) then .inl (30, p) else
    match brS f n E x (w + 1) p (so s (w + 1)) with
      | some (.inl r9) => .inl (r9, p)
      | some (.inr e) => .inl e
      | none => clS f n E x mj (c - (i + 1)) (p + 6 + by4 f (p + 2)) (so s (w + 1)) (if w = 5 then by2 f (p + 6) else bc) := by
  rw [clS_st h, hk, show nwS f E s (w + 1) p = .inr (so s (w + 1)) by unfold nwS; rw [if_neg (fun h9 => h9 ht), if_neg (by omega), if_neg (fun h9 => h9 (by omega))]]
  have h5 : (if w + 1 = 6 then by2 f (p + 6) else bc) = (if w = 5 then by2 f (p + 6) else bc) := by
    by_cases h9 : w = 5
    · rw [if_pos h9, if_pos (by omega)]
    · rw [if_neg h9, if_neg (by omega)]
  rw [← h5]
  dsimp only
  by_cases h4 : ¬ s_fe f (w + 1) (p + 6) (p + 6 + by4 f (p + 2)) = some (p + 6 + by4 f (p + 2))
  · rw [if_pos h4, if_pos ⟨by omega, h4⟩]
  · rw [if_neg h4, if_neg (fun h9 => h4 h9.2)]
    rfl
end CLS
set_option maxHeartbeats 1000000 in
theorem rd_attrK {g : xe_G} {m0 : Nat} {q : Nat → Nat} {z : Nat × Nat} {I : rI} {R : rR} {M : mi_H} {n : Nat} {f : Nat → Int32} {tx : List (List Nat)} {cN : Nat} {A : Nat → Nat} {N mj : Nat} {E : List (Nat × Nat)} {p e x s3 s2 fl w nb : Nat} {t : Int32} (hR : RS g m0 q z I R M) (hi51 : I 51 = some 0) (hi52 : I 52 = some (nI N)) (hi53 : I 53 = some (nI mj)) (hi58 : I 58 = some (nI fl)) (hi71 : I 71 = some (nI nb)) (hF : FK n f I R) (hY : SYT tx cN A I R) (hP : RPV f n E tx N I R) (hEP : EP f n E) (hN : N < 65536) (hmj : mj < 65536) (he : p + 6 ≤ e ∧ e ≤ n) (hs3 : s3 < 2048) (hf6 : fl < 65536) (hw : 4 ≤ w ∧ w ≤ 9) (h6 : w = 6 → sb s2 8 = sb s3 7) (h7 : w = 7 → sb s2 7 = sb s3 6) : pt (mT g) 177 [.ref m0, .int (nI w), .int t, .int (nI (p + 6)), .int (nI e), .int (nI x), .int (nI s3)] M (fun v M' => (∃  (I' : rI) (R' : rR), (¬ s_fe f (w + 1) (p + 6) e = some e) ∧ v = some (.int 30) ∧ RS g m0 q z I' R' M' ∧ eqI [47, 48, 65, 67, 68, 69, 70, 71, 72] I I' ∧ eqR [] R R') ∨ (∃ (r : Nat) (I' : rI) (R' : rR), (s_fe f (w + 1) (p + 6) e = some e) ∧ (brS f n E fl (w + 1) p s2 = some (.inl r) ∨ brS f n E fl (w + 1) p s2 = some (.inr (r, p))) ∧ (31 ≤ r ∧ r ≤ 38) ∧ v = some (.int (nI r)) ∧ RS g m0 q z I' R' M' ∧ eqI [47, 48, 65, 67, 68, 69, 70, 71, 72] I I' ∧ eqR [] R R') ∨ (∃ (e9 : Nat × Nat) (I' : rI) (R' : rR), (s_fe f (w + 1) (p + 6) e = some e) ∧ (brS f n E fl (w + 1) p s2 = some (.inr e9)) ∧ v = some (.int (-1)) ∧ RS g m0 q z I' R' M' ∧ eqI [47, 48, 65, 67, 68, 69, 70, 71, 72] I I' ∧ eqR [] R R' ∧ I' 47 = some (nI e9.1) ∧ I' 48 = some (nI e9.2)) ∨ (∃  (I' : rI) (R' : rR), (s_fe f (w + 1) (p + 6) e = some e) ∧ (brS f n E fl (w + 1) p s2 = none) ∧ v = some (.int 0) ∧ RS g m0 q z I' R' M' ∧ eqI [47, 48, 65, 67, 68, 69, 70, 71, 72] I I' ∧ eqR [] R R' ∧ I' 71 = some (nI (if w = 5 then by2 f (p + 6) else nb)))) := by
  rcases (show w = 4 ∨ w = 5 ∨ w = 6 ∨ w = 7 ∨ w = 8 ∨ w = 9 by omega) with rfl | rfl | rfl | rfl | rfl | rfl
  · refine pt.mono (rd_attr4 (p0 := p + 6) hR hi51 hi52 hi53 hF hY hP hEP hN hmj he hs3) (fun v M' h9 => ?_)
    rcases h9 with ⟨I', R', hs, hv, hR', hI', hX'⟩ | ⟨I', R', hs, hb, hv, hR', hI', hX'⟩ | ⟨I', R', hs, hb, hv, hR', hI', hX'⟩
    · exact Or.inl ⟨I', R', hs, hv, hR', eqI.rf.tr hI' (by decide), eqR.rf.tr hX' (by decide)⟩
    · exact Or.inr (Or.inl ⟨33, I', R', hs, Or.inl (by rw [br_5, if_pos hb]), by decide, hv, hR', eqI.rf.tr hI' (by decide), eqR.rf.tr hX' (by decide)⟩)
    · exact Or.inr (Or.inr (Or.inr ⟨I', R', hs, by rw [br_5, if_neg hb], hv, hR', eqI.rf.tr hI' (by decide), eqR.rf.tr hX' (by decide), (by rw [if_neg (by decide)]; exact (hI' 71 (by decide)).trans hi71)⟩))
  · refine pt.mono (rd_attr5 (p0 := p + 6) hR hi51 hi52 hi53 hF hY hP hEP hN hmj he hs3) (fun v M' h9 => ?_)
    rcases h9 with ⟨I', R', hs, hv, hR', hI', hX'⟩ | ⟨I', R', hs, hb, hv, hR', hI', hX'⟩ | ⟨I', R', hs, hb, hv, hR', hI', hX', h71⟩
    · exact Or.inl ⟨I', R', hs, hv, hR', eqI.rf.tr hI' (by decide), eqR.rf.tr hX' (by decide)⟩
    · exact Or.inr (Or.inl ⟨38, I', R', hs, Or.inl (by rw [br_6, if_pos hb]), by decide, hv, hR', eqI.rf.tr hI' (by decide), eqR.rf.tr hX' (by decide)⟩)
    · exact Or.inr (Or.inr (Or.inr ⟨I', R', hs, by rw [br_6, if_neg hb], hv, hR', eqI.rf.tr hI' (by decide), eqR.rf.tr hX' (by decide), (by rw [if_pos rfl]; exact h71)⟩))
  · refine pt.mono (rd_attr6 (p0 := p + 6) hR hi51 hi52 hi53 hF hY hP hEP hN hmj he hs3) (fun v M' h9 => ?_)
    rcases h9 with ⟨I', R', hs, hv, hR', hI', hX'⟩ | ⟨I', R', hs, hb, hv, hR', hI', hX'⟩ | ⟨I', R', hs, hb, hv, hR', hI', hX'⟩
    · exact Or.inl ⟨I', R', hs, hv, hR', eqI.rf.tr hI' (by decide), eqR.rf.tr hX' (by decide)⟩
    · exact Or.inr (Or.inl ⟨34, I', R', hs, Or.inl (by rw [br_7, if_neg (fun h8 => hb ⟨h8.1, by rw [← h6 rfl]; exact h8.2⟩)]), by decide, hv, hR', eqI.rf.tr hI' (by decide), eqR.rf.tr hX' (by decide)⟩)
    · exact Or.inr (Or.inr (Or.inr ⟨I', R', hs, by rw [br_7, if_pos ⟨hb.1, by rw [h6 rfl]; exact hb.2⟩], hv, hR', eqI.rf.tr hI' (by decide), eqR.rf.tr hX' (by decide), (by rw [if_neg (by decide)]; exact (hI' 71 (by decide)).trans hi71)⟩))
  · refine pt.mono (rd_attr7 (p0 := p + 6) hR hi51 hi52 hi53 hF hY hP hEP hN hmj he hs3) (fun v M' h9 => ?_)
    rcases h9 with ⟨I', R', hs, hv, hR', hI', hX'⟩ | ⟨I', R', hs, hb, hv, hR', hI', hX'⟩ | ⟨I', R', hs, hb, hv, hR', hI', hX'⟩
    · exact Or.inl ⟨I', R', hs, hv, hR', eqI.rf.tr hI' (by decide), eqR.rf.tr hX' (by decide)⟩
    · exact Or.inr (Or.inl ⟨35, I', R', hs, Or.inl (by rw [br_8, if_neg (fun h8 => (by rcases hb with hb | hb; exact h8.1 hb; exact hb (by rw [← h7 rfl]; exact h8.2)))]), by decide, hv, hR', eqI.rf.tr hI' (by decide), eqR.rf.tr hX' (by decide)⟩)
    · exact Or.inr (Or.inr (Or.inr ⟨I', R', hs, by rw [br_8, if_pos ⟨hb.1, by rw [h7 rfl]; exact hb.2⟩], hv, hR', eqI.rf.tr hI' (by decide), eqR.rf.tr hX' (by decide), (by rw [if_neg (by decide)]; exact (hI' 71 (by decide)).trans hi71)⟩))
  · refine pt.mono (rd_attr8 (p0 := p + 6) (t := p) hR hi51 hi52 hi53 hF hY hP hEP hN hmj he hs3) (fun v M' h9 => ?_)
    rcases h9 with ⟨I', R', hs, hv, hR', hI', hX'⟩ | ⟨I', R', hs, hb, hv, hR', hI', hX'⟩ | ⟨y, I', R', hs, hb, hv, hR', hI', hX', h47, h48⟩ | ⟨I', R', hs, hb, hv, hR', hI', hX'⟩
    · exact Or.inl ⟨I', R', hs, hv, hR', eqI.rf.tr hI' (by decide), eqR.rf.tr hX' (by decide)⟩
    · exact Or.inr (Or.inl ⟨37, I', R', hs, Or.inr (br_9s hb), by decide, hv, hR', eqI.rf.tr hI' (by decide), eqR.rf.tr hX' (by decide)⟩)
    · exact Or.inr (Or.inr (Or.inl ⟨(28, y), I', R', hs, br_9s hb, hv, hR', eqI.rf.tr hI' (by decide), eqR.rf.tr hX' (by decide), h47, h48⟩))
    · exact Or.inr (Or.inr (Or.inr ⟨I', R', hs, br_9n hb, hv, hR', eqI.rf.tr hI' (by decide), eqR.rf.tr hX' (by decide), (by rw [if_neg (by decide)]; exact (hI' 71 (by decide)).trans hi71)⟩))
  · refine pt.mono (rd_attr9 (p0 := p + 6) hR hi51 hi52 hi53 hi58 hF hY hP hEP hN hmj he hs3 hf6) (fun v M' h9 => ?_)
    rcases h9 with ⟨I', R', hs, hv, hR', hI', hX'⟩ | ⟨I', R', hs, hb, hv, hR', hI', hX'⟩ | ⟨I', R', hs, hb, hv, hR', hI', hX'⟩
    · exact Or.inl ⟨I', R', hs, hv, hR', eqI.rf.tr hI' (by decide), eqR.rf.tr hX' (by decide)⟩
    · exact Or.inr (Or.inl ⟨36, I', R', hs, Or.inl (by rw [br_10, if_neg (fun h8 => (by rcases hb with hb | hb; exact h8.1 hb; exact hb (has_9.mp h8.2)))]), by decide, hv, hR', eqI.rf.tr hI' (by decide), eqR.rf.tr hX' (by decide)⟩)
    · exact Or.inr (Or.inr (Or.inr ⟨I', R', hs, by rw [br_10, if_pos ⟨hb.1, has_9.mpr hb.2⟩], hv, hR', eqI.rf.tr hI' (by decide), eqR.rf.tr hX' (by decide), (by rw [if_neg (by decide)]; exact (hI' 71 (by decide)).trans hi71)⟩))
set_option maxHeartbeats 4000000 in
theorem rd_checkAttributes4 {g : xe_G} {m0 : Nat} {q : Nat → Nat} {z : Nat × Nat} {I : rI} {R : rR} {M : mi_H} {n : Nat} {f : Nat → Int32} {tx : List (List Nat)} {cN : Nat} {A : Nat → Nat} {N mj : Nat} {E : List (Nat × Nat)} {p1 e x fl : Nat} {nk0 : Int32} (hR : RS g m0 q z I R M) (hi51 : I 51 = some 0) (hi52 : I 52 = some (nI N)) (hi53 : I 53 = some (nI mj)) (hi58 : I 58 = some (nI fl)) (hi71 : I 71 = some (nI 0)) (hi66 : I 66 = some nk0) (hF : FK n f I R) (hY : SYT tx cN A I R) (hP : RPV f n E tx N I R) (hK : KX I R) (hEP : EP f n E) (hN : N < 65536) (hmj : mj < 65536) (hin : p1 + 2 ≤ e ∧ e ≤ n) (hat : s_atE f e (by2 f p1) (p1 + 2) = some e) (hf6 : fl < 65536) : pt (mT g) 187 [.ref m0, .int (nI p1), .int 4, .int (nI x)] M (fun v M' => (∃ (e9 : Nat × Nat) (I' : rI) (R' : rR), (clS f n E fl mj (by2 f p1) (p1 + 2) 0 0 = .inl e9) ∧ v = some (.int (-1)) ∧ RS g m0 q z I' R' M' ∧ eqI [66, 47, 48, 65, 67, 68, 69, 70, 71, 72] I I' ∧ eqR [] R R' ∧ I' 47 = some (nI e9.1) ∧ I' 48 = some (nI e9.2)) ∨ (∃ (bc : Nat) (I' : rI) (R' : rR), (clS f n E fl mj (by2 f p1) (p1 + 2) 0 0 = .inr bc) ∧ v = some (.int (nI e)) ∧ RS g m0 q z I' R' M' ∧ eqI [66, 47, 48, 65, 67, 68, 69, 70, 71, 72] I I' ∧ eqR [] R R' ∧ I' 71 = some (nI bc))) := by
  refine pt_in (b := mb_187 g) rfl (fun kf => ?_)
  show pl (mT g) kf (mb_187 g).2 (0, [(0, .ref m0), (1, .int (nI p1)), (2, .int 4), (3, .int (nI x))], [], M) _
  have hEI : eqI [66, 47, 48, 65, 67, 68, 69, 70, 71, 72] I I := eqI.rf
  have hER : eqR [] R R := eqR.rf
  have hn := hF.1
  have LL : ∀ (kf : Nat), (∀ (i p s2 s3 : Nat) (bc : Nat) (nk : Int32) (M1 : mi_H) (I1 : rI) (R1 : rR), (RS g m0 q z I1 R1 M1) → (eqI [66, 47, 48, 65, 67, 68, 69, 70, 71, 72] I I1) → (eqR [] R R1) → (I1 51 = some 0) → (I1 52 = some (nI N)) → (I1 53 = some (nI mj)) → (I1 58 = some (nI fl)) → (I1 71 = some (nI bc)) → (I1 66 = some nk) → (FK n f I1 R1) → (SYT tx cN A I1 R1) → (RPV f n E tx N I1 R1) → (KX I1 R1) → (i ≤ by2 f p1) → (s3 < 2048) → (∀ w, 4 ≤ w → w ≤ 9 → sb s3 w = sb s2 (w + 1)) → (s_atE f e (by2 f p1 - i) p = some e) → (clS f n E fl mj (by2 f p1 - i) p s2 bc = clS f n E fl mj (by2 f p1) (p1 + 2) 0 0) →  pl (mT g) kf (mb_187 g).2 (18, [(0, .ref m0), (2, .int 4), (3, .int (nI x)), (4, .int (nI (by2 f p1))), (5, .int (nI p)), (6, .int (nI s3)), (7, .int (nI i))], [], M1) (fun v M' => (∃ (e9 : Nat × Nat) (I' : rI) (R' : rR), (clS f n E fl mj (by2 f p1) (p1 + 2) 0 0 = .inl e9) ∧ v = some (.int (-1)) ∧ RS g m0 q z I' R' M' ∧ eqI [66, 47, 48, 65, 67, 68, 69, 70, 71, 72] I I' ∧ eqR [] R R' ∧ I' 47 = some (nI e9.1) ∧ I' 48 = some (nI e9.2)) ∨ (∃ (bc : Nat) (I' : rI) (R' : rR), (clS f n E fl mj (by2 f p1) (p1 + 2) 0 0 = .inr bc) ∧ v = some (.int (nI e)) ∧ RS g m0 q z I' R' M' ∧ eqI [66, 47, 48, 65, 67, 68, 69, 70, 71, 72] I I' ∧ eqR [] R R' ∧ I' 71 = some (nI bc)))) ∧ (∀ (i p s2 s3 k t : Nat) (bc : Nat) (nk : Int32) (M1 : mi_H) (I1 : rI) (R1 : rR), (RS g m0 q z I1 R1 M1) → (eqI [66, 47, 48, 65, 67, 68, 69, 70, 71, 72] I I1) → (eqR [] R R1) → (I1 51 = some 0) → (I1 52 = some (nI N)) → (I1 53 = some (nI mj)) → (I1 58 = some (nI fl)) → (I1 71 = some (nI bc)) → (I1 66 = some nk) → (FK n f I1 R1) → (SYT tx cN A I1 R1) → (RPV f n E tx N I1 R1) → (KX I1 R1) → (i < by2 f p1) → (s3 < 2048) → (∀ w, 4 ≤ w → w ≤ 9 → sb s3 w = sb s2 (w + 1)) → (s_atE f e (by2 f p1 - i) p = some e) → (clS f n E fl mj (by2 f p1 - i) p s2 bc = clS f n E fl mj (by2 f p1) (p1 + 2) 0 0) → (k ≤ 10) → (tg f E (by2 f p) = 1) → (t < tx.length ∧ tx.getD t [] = tX f n E (by2 f p)) →  pl (mT g) kf (mb_187 g).2 (79, [(0, .ref m0), (2, .int 4), (3, .int (nI x)), (4, .int (nI (by2 f p1))), (5, .int (nI p)), (6, .int (nI s3)), (7, .int (nI i)), (8, .int (nI (by4 f (p + 2)))), (9, .int (nI t)), (10, .int (gI (kb mj 4 (tX f n E (by2 f p)) k))), (11, .int (nI k))], [], M1) (fun v M' => (∃ (e9 : Nat × Nat) (I' : rI) (R' : rR), (clS f n E fl mj (by2 f p1) (p1 + 2) 0 0 = .inl e9) ∧ v = some (.int (-1)) ∧ RS g m0 q z I' R' M' ∧ eqI [66, 47, 48, 65, 67, 68, 69, 70, 71, 72] I I' ∧ eqR [] R R' ∧ I' 47 = some (nI e9.1) ∧ I' 48 = some (nI e9.2)) ∨ (∃ (bc : Nat) (I' : rI) (R' : rR), (clS f n E fl mj (by2 f p1) (p1 + 2) 0 0 = .inr bc) ∧ v = some (.int (nI e)) ∧ RS g m0 q z I' R' M' ∧ eqI [66, 47, 48, 65, 67, 68, 69, 70, 71, 72] I I' ∧ eqR [] R R' ∧ I' 71 = some (nI bc)))) := by
    intro kf
    induction kf with
    | zero => exact ⟨by intros; exact pl_0, by intros; exact pl_0⟩
    | succ kf ih =>
      refine ⟨?_, ?_⟩
      · skip
        intro i p s2 s3 bc nk M1 I1 R1 hR1 hEI1 hER1 hl51 hl52 hl53 hl58 hl71 hl66 hF1 hY1 hP1 hK1 hi hl hb ha hs9
        have hn := hF1.1
        have hu9 := by2_lt f p1
        have htl := hY1.1.2.2.1
        refine ps_st1 (S' := (20, [(0, .ref m0), (2, .int 4), (3, .int (nI x)), (4, .int (nI (by2 f p1))), (5, .int (nI p)), (6, .int (nI s3)), (7, .int (nI i))], [.int (nI i)], M1)) rfl rfl rfl ?_
        refine ps_st (S' := (22, [(0, .ref m0), (2, .int 4), (3, .int (nI x)), (4, .int (nI (by2 f p1))), (5, .int (nI p)), (6, .int (nI s3)), (7, .int (nI i))], [.int (nI (by2 f p1)), .int (nI i)], M1)) rfl rfl rfl ?_
        refine ps_if2 (S1 := (284, [(0, .ref m0), (2, .int 4), (3, .int (nI x)), (4, .int (nI (by2 f p1))), (5, .int (nI p)), (6, .int (nI s3)), (7, .int (nI i))], [], M1)) (S2 := (25, [(0, .ref m0), (2, .int 4), (3, .int (nI x)), (4, .int (nI (by2 f p1))), (5, .int (nI p)), (6, .int (nI s3)), (7, .int (nI i))], [], M1)) rfl rfl rfl (fun c_22 => ?_) (fun c_22 => ?_)
        · have c_22 : (nI (by2 f p1)) ≤ (nI i) := of_decide_eq_true c_22
          have n_22 : by2 f p1 ≤ i := (le_nI (p := by2 f p1) (n := i) (Nat.lt_trans (by2_lt _ _) (by decide)) (by omega)).mp c_22
          refine ps_st (S' := (286, [(0, .ref m0), (2, .int 4), (3, .int (nI x)), (4, .int (nI (by2 f p1))), (5, .int (nI p)), (6, .int (nI s3)), (7, .int (nI i))], [.int (nI p)], M1)) rfl rfl rfl ?_
          exact ps_reti rfl (Or.inr ⟨bc, I1, R1, by rw [← hs9, show by2 f p1 - i = 0 by omega]; rfl, by rw [show e = p by (rw [show by2 f p1 - i = 0 by omega] at ha; exact (Option.some.inj ha).symm)], hR1, hEI1, hER1, hl71⟩)
        · have c_22 : ¬ ((nI (by2 f p1)) ≤ (nI i)) := of_decide_eq_false c_22
          have n_22 : ¬ (by2 f p1 ≤ i) := fun h9 => c_22 ((le_nI (p := by2 f p1) (n := i) (Nat.lt_trans (by2_lt _ _) (by decide)) (by omega)).mpr h9)
          obtain ⟨hq5, hq6, hq7⟩ := s_atE_in (i := i) (p := p) ha (by omega)
          refine ps_st (S' := (26, [(0, .ref m0), (2, .int 4), (3, .int (nI x)), (4, .int (nI (by2 f p1))), (5, .int (nI p)), (6, .int (nI s3)), (7, .int (nI i))], [.ref m0], M1)) rfl rfl rfl ?_
          refine ps_st (S' := (28, [(0, .ref m0), (2, .int 4), (3, .int (nI x)), (4, .int (nI (by2 f p1))), (5, .int (nI p)), (6, .int (nI s3)), (7, .int (nI i))], [.int (nI p), .ref m0], M1)) rfl rfl rfl ?_
          refine ps_st (S' := (29, [(0, .ref m0), (2, .int 4), (3, .int (nI x)), (4, .int (nI (by2 f p1))), (5, .int (nI p)), (6, .int (nI s3)), (7, .int (nI i))], [.int 2, .int (nI p), .ref m0], M1)) rfl rfl rfl ?_
          refine ps_st (S' := (30, [(0, .ref m0), (2, .int 4), (3, .int (nI x)), (4, .int (nI (by2 f p1))), (5, .int (nI p)), (6, .int (nI s3)), (7, .int (nI i))], [.int ((nI p) + 2), .ref m0], M1)) rfl rfl rfl ?_
          rw [nI_add1 (p := p) (k := 2) (x := 2) rfl (by omega)]
          show pl _ _ _ (_, [(0, .ref m0), (2, .int 4), (3, .int (nI x)), (4, .int (nI (by2 f p1))), (5, .int (nI p)), (6, .int (nI s3)), (7, .int (nI i))], [.int (nI (p + 2)), .ref m0], M1) _
          refine pl_call (a := [.ref m0, .int (nI (p + 2))]) (rest := []) rfl rfl rfl (rd_u4 (n := n) (f := f) (p := (p + 2)) hR1 hF1 (by omega)) (fun v1 M2 q3 => ?_)
          obtain ⟨rfl, rfl⟩ := q3
          show pl _ _ _ (33, [(0, .ref m0), (2, .int 4), (3, .int (nI x)), (4, .int (nI (by2 f p1))), (5, .int (nI p)), (6, .int (nI s3)), (7, .int (nI i))], [.long (nL (by4 f (p + 2)))], M1) _
          have hu_30 := by4_lt f (p + 2)
          refine ps_st (S' := (34, [(0, .ref m0), (2, .int 4), (3, .int (nI x)), (4, .int (nI (by2 f p1))), (5, .int (nI p)), (6, .int (nI s3)), (7, .int (nI i))], [.int (Int64.toInt32 (nL (by4 f (p + 2))))], M1)) rfl rfl rfl ?_
          rw [l2i_nL (p := by4 f (p + 2)) (by omega)]
          show pl _ _ _ (_, [(0, .ref m0), (2, .int 4), (3, .int (nI x)), (4, .int (nI (by2 f p1))), (5, .int (nI p)), (6, .int (nI s3)), (7, .int (nI i))], [.int (nI (by4 f (p + 2)))], M1) _
          refine ps_st (S' := (36, [(8, .int (nI (by4 f (p + 2)))), (0, .ref m0), (2, .int 4), (3, .int (nI x)), (4, .int (nI (by2 f p1))), (5, .int (nI p)), (6, .int (nI s3)), (7, .int (nI i))], [], M1)) rfl rfl rfl ?_
          refine ps_st (S' := (37, [(8, .int (nI (by4 f (p + 2)))), (0, .ref m0), (2, .int 4), (3, .int (nI x)), (4, .int (nI (by2 f p1))), (5, .int (nI p)), (6, .int (nI s3)), (7, .int (nI i))], [.ref m0], M1)) rfl rfl rfl ?_
          refine ps_st (S' := (38, [(8, .int (nI (by4 f (p + 2)))), (0, .ref m0), (2, .int 4), (3, .int (nI x)), (4, .int (nI (by2 f p1))), (5, .int (nI p)), (6, .int (nI s3)), (7, .int (nI i))], [.ref m0, .ref m0], M1)) rfl rfl rfl ?_
          refine ps_st (S' := (40, [(8, .int (nI (by4 f (p + 2)))), (0, .ref m0), (2, .int 4), (3, .int (nI x)), (4, .int (nI (by2 f p1))), (5, .int (nI p)), (6, .int (nI s3)), (7, .int (nI i))], [.int (nI p), .ref m0, .ref m0], M1)) rfl rfl rfl ?_
          refine pl_call (a := [.ref m0, .int (nI p)]) (rest := [.ref m0]) rfl rfl rfl (rd_u2 (n := n) (f := f) (p := p) hR1 hF1 (by omega)) (fun v4 M5 q6 => ?_)
          obtain ⟨rfl, rfl⟩ := q6
          show pl _ _ _ (43, [(8, .int (nI (by4 f (p + 2)))), (0, .ref m0), (2, .int 4), (3, .int (nI x)), (4, .int (nI (by2 f p1))), (5, .int (nI p)), (6, .int (nI s3)), (7, .int (nI i))], [.int (nI (by2 f p)), .ref m0], M1) _
          have hu_40 := by2_lt f p
          refine pl_call (a := [.ref m0, .int (nI (by2 f p))]) (rest := []) rfl rfl rfl (rd_tag (n := n) (f := f) (tx := tx) (cN := cN) (A := A) (N := N) (mj := mj) (E := E) (k := (by2 f p)) hR1 hl51 hl52 hl53 hF1 hY1 hP1 (hEP) (hN) (hmj) (by2_lt _ _)) (fun v7 M8 q9 => ?_)
          obtain ⟨rfl, rfl⟩ := q9
          show pl _ _ _ (46, [(8, .int (nI (by4 f (p + 2)))), (0, .ref m0), (2, .int 4), (3, .int (nI x)), (4, .int (nI (by2 f p1))), (5, .int (nI p)), (6, .int (nI s3)), (7, .int (nI i))], [.int (nI (tg f E (by2 f p)))], M1) _
          have htg_43 := tg_lt f E (by2 f p)
          refine ps_st (S' := (47, [(8, .int (nI (by4 f (p + 2)))), (0, .ref m0), (2, .int 4), (3, .int (nI x)), (4, .int (nI (by2 f p1))), (5, .int (nI p)), (6, .int (nI s3)), (7, .int (nI i))], [.int 1, .int (nI (tg f E (by2 f p)))], M1)) rfl rfl rfl ?_
          refine ps_if2 (S1 := (61, [(8, .int (nI (by4 f (p + 2)))), (0, .ref m0), (2, .int 4), (3, .int (nI x)), (4, .int (nI (by2 f p1))), (5, .int (nI p)), (6, .int (nI s3)), (7, .int (nI i))], [], M1)) (S2 := (50, [(8, .int (nI (by4 f (p + 2)))), (0, .ref m0), (2, .int 4), (3, .int (nI x)), (4, .int (nI (by2 f p1))), (5, .int (nI p)), (6, .int (nI s3)), (7, .int (nI i))], [], M1)) rfl rfl rfl (fun c_47 => ?_) (fun c_47 => ?_)
          · have c_47 : (nI (tg f E (by2 f p))) = 1 := of_decide_eq_true c_47
            have n_47 : tg f E (by2 f p) = 1 := (eq_nI (p := tg f E (by2 f p)) (n := 1) (Nat.lt_trans (tg_lt _ _ _) (by decide)) (by decide)).mp c_47
            refine ps_st (S' := (62, [(8, .int (nI (by4 f (p + 2)))), (0, .ref m0), (2, .int 4), (3, .int (nI x)), (4, .int (nI (by2 f p1))), (5, .int (nI p)), (6, .int (nI s3)), (7, .int (nI i))], [.ref m0], M1)) rfl rfl rfl ?_
            refine ps_st (S' := (63, [(8, .int (nI (by4 f (p + 2)))), (0, .ref m0), (2, .int 4), (3, .int (nI x)), (4, .int (nI (by2 f p1))), (5, .int (nI p)), (6, .int (nI s3)), (7, .int (nI i))], [.ref m0, .ref m0], M1)) rfl rfl rfl ?_
            refine ps_st (S' := (65, [(8, .int (nI (by4 f (p + 2)))), (0, .ref m0), (2, .int 4), (3, .int (nI x)), (4, .int (nI (by2 f p1))), (5, .int (nI p)), (6, .int (nI s3)), (7, .int (nI i))], [.int (nI p), .ref m0, .ref m0], M1)) rfl rfl rfl ?_
            refine pl_call (a := [.ref m0, .int (nI p)]) (rest := [.ref m0]) rfl rfl rfl (rd_u2 (n := n) (f := f) (p := p) hR1 hF1 (by omega)) (fun v10 M11 q12 => ?_)
            obtain ⟨rfl, rfl⟩ := q12
            show pl _ _ _ (68, [(8, .int (nI (by4 f (p + 2)))), (0, .ref m0), (2, .int 4), (3, .int (nI x)), (4, .int (nI (by2 f p1))), (5, .int (nI p)), (6, .int (nI s3)), (7, .int (nI i))], [.int (nI (by2 f p)), .ref m0], M1) _
            have hu_65 := by2_lt f p
            refine pl_call (a := [.ref m0, .int (nI (by2 f p))]) (rest := []) rfl rfl rfl (rd_symOf (n := n) (f := f) (tx := tx) (cN := cN) (A := A) (N := N) (mj := mj) (E := E) (k := (by2 f p)) hR1 hl51 hl52 hl53 hF1 hY1 hP1 (hEP) (hN) (hmj) (by omega)) (fun v13 M14 q15 => ?_)
            obtain ⟨s16, q68_s, rfl, rfl⟩ := q15
            show pl _ _ _ (71, [(8, .int (nI (by4 f (p + 2)))), (0, .ref m0), (2, .int 4), (3, .int (nI x)), (4, .int (nI (by2 f p1))), (5, .int (nI p)), (6, .int (nI s3)), (7, .int (nI i))], [.int (nI s16)], M1) _
            have hsl_68 := q68_s.1
            have htl_68 := hY1.1.2.2.1
            refine ps_st (S' := (73, [(9, .int (nI s16)), (8, .int (nI (by4 f (p + 2)))), (0, .ref m0), (2, .int 4), (3, .int (nI x)), (4, .int (nI (by2 f p1))), (5, .int (nI p)), (6, .int (nI s3)), (7, .int (nI i))], [], M1)) rfl rfl rfl ?_
            refine ps_st (S' := (74, [(9, .int (nI s16)), (8, .int (nI (by4 f (p + 2)))), (0, .ref m0), (2, .int 4), (3, .int (nI x)), (4, .int (nI (by2 f p1))), (5, .int (nI p)), (6, .int (nI s3)), (7, .int (nI i))], [.int (-1)], M1)) rfl rfl rfl ?_
            refine ps_st (S' := (76, [(10, .int (-1)), (9, .int (nI s16)), (8, .int (nI (by4 f (p + 2)))), (0, .ref m0), (2, .int 4), (3, .int (nI x)), (4, .int (nI (by2 f p1))), (5, .int (nI p)), (6, .int (nI s3)), (7, .int (nI i))], [], M1)) rfl rfl rfl ?_
            refine ps_st (S' := (77, [(10, .int (-1)), (9, .int (nI s16)), (8, .int (nI (by4 f (p + 2)))), (0, .ref m0), (2, .int 4), (3, .int (nI x)), (4, .int (nI (by2 f p1))), (5, .int (nI p)), (6, .int (nI s3)), (7, .int (nI i))], [.int 0], M1)) rfl rfl rfl ?_
            refine ps_st (S' := (79, [(0, .ref m0), (2, .int 4), (3, .int (nI x)), (4, .int (nI (by2 f p1))), (5, .int (nI p)), (6, .int (nI s3)), (7, .int (nI i)), (8, .int (nI (by4 f (p + 2)))), (9, .int (nI s16)), (10, .int (-1)), (11, .int 0)], [], M1)) rfl rfl rfl ?_
            exact ih.2 (i) (p) (s2) (s3) (0) (s16) (bc) (nk) M1 I1 R1 hR1 hEI1 hER1 hl51 hl52 hl53 hl58 hl71 hl66 hF1 hY1 hP1 hK1 (by omega) (hl) (hb) (ha) (hs9) (by omega) (by omega) (q68_s)
          · have c_47 : ¬ ((nI (tg f E (by2 f p))) = 1) := of_decide_eq_false c_47
            have n_47 : ¬ (tg f E (by2 f p) = 1) := fun h9 => c_47 ((eq_nI (p := tg f E (by2 f p)) (n := 1) (Nat.lt_trans (tg_lt _ _ _) (by decide)) (by decide)).mpr h9)
            refine ps_st (S' := (51, [(8, .int (nI (by4 f (p + 2)))), (0, .ref m0), (2, .int 4), (3, .int (nI x)), (4, .int (nI (by2 f p1))), (5, .int (nI p)), (6, .int (nI s3)), (7, .int (nI i))], [.ref m0], M1)) rfl rfl rfl ?_
            refine ps_st (S' := (53, [(8, .int (nI (by4 f (p + 2)))), (0, .ref m0), (2, .int 4), (3, .int (nI x)), (4, .int (nI (by2 f p1))), (5, .int (nI p)), (6, .int (nI s3)), (7, .int (nI i))], [.int 28, .ref m0], M1)) rfl rfl rfl ?_
            refine ps_st (S' := (55, [(8, .int (nI (by4 f (p + 2)))), (0, .ref m0), (2, .int 4), (3, .int (nI x)), (4, .int (nI (by2 f p1))), (5, .int (nI p)), (6, .int (nI s3)), (7, .int (nI i))], [.int (nI p), .int 28, .ref m0], M1)) rfl rfl rfl ?_
            refine pl_call (a := [.ref m0, .int 28, .int (nI p)]) (rest := []) rfl rfl rfl (rd_wrong (x1 := 28) (x2 := (nI p)) hR1) (fun v17 M18 q19 => ?_)
            obtain ⟨I20, R21, rfl, hR22, hI23, hX24, hi25, hi26⟩ := q19
            have hi27 := (hI23 51 (by decide)).trans hl51
            have hi28 := (hI23 52 (by decide)).trans hl52
            have hi29 := (hI23 53 (by decide)).trans hl53
            have hi30 := (hI23 58 (by decide)).trans hl58
            have hi31 := (hI23 71 (by decide)).trans hl71
            have hi32 := (hI23 66 (by decide)).trans hl66
            have hF_33 := hF1.mono (cIx hI23 (by decide)) (cRx hX24 (by decide))
            have hY_34 := hY1.mono (cIx hI23 (by decide)) (cRx hX24 (by decide))
            have hP_35 := hP1.mono (cIx hI23 (by decide)) (cRx hX24 (by decide))
            have hK_36 := hK1.mono (cIx hI23 (by decide)) (cRx hX24 (by decide))
            have hEI37 := hEI1.tr hI23 (by decide)
            have hER38 := hER1.tr hX24 (by decide)
            show pl _ _ _ (58, [(8, .int (nI (by4 f (p + 2)))), (0, .ref m0), (2, .int 4), (3, .int (nI x)), (4, .int (nI (by2 f p1))), (5, .int (nI p)), (6, .int (nI s3)), (7, .int (nI i))], [.int 0], M18) _
            refine ps_st (S' := (59, [(8, .int (nI (by4 f (p + 2)))), (0, .ref m0), (2, .int 4), (3, .int (nI x)), (4, .int (nI (by2 f p1))), (5, .int (nI p)), (6, .int (nI s3)), (7, .int (nI i))], [], M18)) rfl rfl rfl ?_
            refine ps_st (S' := (60, [(8, .int (nI (by4 f (p + 2)))), (0, .ref m0), (2, .int 4), (3, .int (nI x)), (4, .int (nI (by2 f p1))), (5, .int (nI p)), (6, .int (nI s3)), (7, .int (nI i))], [.int (-1)], M18)) rfl rfl rfl ?_
            exact ps_ret rfl rfl (Or.inl ⟨(28, p), I20, R21, by
                rw [← hs9, clS_28 (i := i) (p := p) (s := s2) (by omega) (by omega)], rfl, hR22, hEI37, hER38, hi25, hi26⟩)
      · skip
        intro i p s2 s3 k t bc nk M1 I1 R1 hR1 hEI1 hER1 hl51 hl52 hl53 hl58 hl71 hl66 hF1 hY1 hP1 hK1 hi0 hl hb ha hs9 hk h1 hsy
        have hn := hF1.1
        have hu9 := by2_lt f p1
        have htl := hY1.1.2.2.1
        obtain ⟨hq5, hq6, hq7⟩ := s_atE_in (i := i) (p := p) ha hi0
        refine ps_st1 (S' := (81, [(0, .ref m0), (2, .int 4), (3, .int (nI x)), (4, .int (nI (by2 f p1))), (5, .int (nI p)), (6, .int (nI s3)), (7, .int (nI i)), (8, .int (nI (by4 f (p + 2)))), (9, .int (nI t)), (10, .int (gI (kb mj 4 (tX f n E (by2 f p)) k))), (11, .int (nI k))], [.int (nI k)], M1)) rfl rfl rfl ?_
        refine ps_st (S' := (82, [(0, .ref m0), (2, .int 4), (3, .int (nI x)), (4, .int (nI (by2 f p1))), (5, .int (nI p)), (6, .int (nI s3)), (7, .int (nI i)), (8, .int (nI (by4 f (p + 2)))), (9, .int (nI t)), (10, .int (gI (kb mj 4 (tX f n E (by2 f p)) k))), (11, .int (nI k))], [.ref m0, .int (nI k)], M1)) rfl rfl rfl ?_
        refine pr_ref (j := 62) (S' := (85, [(0, .ref m0), (2, .int 4), (3, .int (nI x)), (4, .int (nI (by2 f p1))), (5, .int (nI p)), (6, .int (nI s3)), (7, .int (nI i)), (8, .int (nI (by4 f (p + 2)))), (9, .int (nI t)), (10, .int (gI (kb mj 4 (tX f n E (by2 f p)) k))), (11, .int (nI k))], [.ref (q 62), .int (nI k)], M1)) rfl hR1 rfl rfl ?_
        refine pr_knl (S' := (86, [(0, .ref m0), (2, .int 4), (3, .int (nI x)), (4, .int (nI (by2 f p1))), (5, .int (nI p)), (6, .int (nI s3)), (7, .int (nI i)), (8, .int (nI (by4 f (p + 2)))), (9, .int (nI t)), (10, .int (gI (kb mj 4 (tX f n E (by2 f p)) k))), (11, .int (nI k))], [.int (nI 10), .int (nI k)], M1)) rfl hR1 rfl ?_
        refine ps_if2 (S1 := (140, [(0, .ref m0), (2, .int 4), (3, .int (nI x)), (4, .int (nI (by2 f p1))), (5, .int (nI p)), (6, .int (nI s3)), (7, .int (nI i)), (8, .int (nI (by4 f (p + 2)))), (9, .int (nI t)), (10, .int (gI (kb mj 4 (tX f n E (by2 f p)) k))), (11, .int (nI k))], [], M1)) (S2 := (89, [(0, .ref m0), (2, .int 4), (3, .int (nI x)), (4, .int (nI (by2 f p1))), (5, .int (nI p)), (6, .int (nI s3)), (7, .int (nI i)), (8, .int (nI (by4 f (p + 2)))), (9, .int (nI t)), (10, .int (gI (kb mj 4 (tX f n E (by2 f p)) k))), (11, .int (nI k))], [], M1)) rfl rfl rfl (fun c_86 => ?_) (fun c_86 => ?_)
        · have c_86 : (nI 10) ≤ (nI k) := of_decide_eq_true c_86
          have n_86 : 10 ≤ k := (le_nI (p := 10) (n := k) (by decide) (by omega)).mp c_86
          have ek : k = 10 := by omega
          refine ps_st (S' := (142, [(0, .ref m0), (2, .int 4), (3, .int (nI x)), (4, .int (nI (by2 f p1))), (5, .int (nI p)), (6, .int (nI s3)), (7, .int (nI i)), (8, .int (nI (by4 f (p + 2)))), (9, .int (nI t)), (10, .int (gI (kb mj 4 (tX f n E (by2 f p)) k))), (11, .int (nI k))], [.int (gI (kb mj 4 (tX f n E (by2 f p)) k))], M1)) rfl rfl rfl ?_
          refine ps_if (S1 := (268, [(0, .ref m0), (2, .int 4), (3, .int (nI x)), (4, .int (nI (by2 f p1))), (5, .int (nI p)), (6, .int (nI s3)), (7, .int (nI i)), (8, .int (nI (by4 f (p + 2))))], [], M1)) (S2 := (145, [(0, .ref m0), (2, .int 4), (3, .int (nI x)), (4, .int (nI (by2 f p1))), (5, .int (nI p)), (6, .int (nI s3)), (7, .int (nI i)), (8, .int (nI (by4 f (p + 2)))), (9, .int (nI t)), (10, .int (gI (kb mj 4 (tX f n E (by2 f p)) k))), (11, .int (nI k))], [], M1)) rfl rfl rfl (fun c_142 => ?_) (fun c_142 => ?_)
          · have c_142 : (gI (kb mj 4 (tX f n E (by2 f p)) k)) < 0 := of_decide_eq_true c_142
            rw [ek] at c_142
            have hsm := ck_n c_142
            refine ps_st (S' := (270, [(0, .ref m0), (2, .int 4), (3, .int (nI x)), (4, .int (nI (by2 f p1))), (5, .int (nI p)), (6, .int (nI s3)), (7, .int (nI i)), (8, .int (nI (by4 f (p + 2))))], [.int (nI p)], M1)) rfl rfl rfl ?_
            refine ps_st (S' := (272, [(0, .ref m0), (2, .int 4), (3, .int (nI x)), (4, .int (nI (by2 f p1))), (5, .int (nI p)), (6, .int (nI s3)), (7, .int (nI i)), (8, .int (nI (by4 f (p + 2))))], [.int 6, .int (nI p)], M1)) rfl rfl rfl ?_
            refine ps_st (S' := (274, [(0, .ref m0), (2, .int 4), (3, .int (nI x)), (4, .int (nI (by2 f p1))), (5, .int (nI p)), (6, .int (nI s3)), (7, .int (nI i)), (8, .int (nI (by4 f (p + 2))))], [.int (nI (by4 f (p + 2))), .int 6, .int (nI p)], M1)) rfl rfl rfl ?_
            refine ps_st (S' := (275, [(0, .ref m0), (2, .int 4), (3, .int (nI x)), (4, .int (nI (by2 f p1))), (5, .int (nI p)), (6, .int (nI s3)), (7, .int (nI i)), (8, .int (nI (by4 f (p + 2))))], [.int (6 + (nI (by4 f (p + 2)))), .int (nI p)], M1)) rfl rfl rfl ?_
            rw [nI_add2 (p := 6) (k := by4 f (p + 2)) (x := 6) (y := (nI (by4 f (p + 2)))) rfl rfl (by omega)]
            show pl _ _ _ (_, [(0, .ref m0), (2, .int 4), (3, .int (nI x)), (4, .int (nI (by2 f p1))), (5, .int (nI p)), (6, .int (nI s3)), (7, .int (nI i)), (8, .int (nI (by4 f (p + 2))))], [.int (nI (6 + by4 f (p + 2))), .int (nI p)], M1) _
            refine ps_st (S' := (276, [(0, .ref m0), (2, .int 4), (3, .int (nI x)), (4, .int (nI (by2 f p1))), (5, .int (nI p)), (6, .int (nI s3)), (7, .int (nI i)), (8, .int (nI (by4 f (p + 2))))], [.int ((nI p) + (nI (6 + by4 f (p + 2))))], M1)) rfl rfl rfl ?_
            rw [nI_add1 (p := p) (k := 6 + by4 f (p + 2)) (x := (nI (6 + by4 f (p + 2)))) rfl (by omega)]
            rw [show nI (p + (6 + by4 f (p + 2))) = nI (p + 6 + by4 f (p + 2)) from congrArg nI (by omega)]
            show pl _ _ _ (_, [(0, .ref m0), (2, .int 4), (3, .int (nI x)), (4, .int (nI (by2 f p1))), (5, .int (nI p)), (6, .int (nI s3)), (7, .int (nI i)), (8, .int (nI (by4 f (p + 2))))], [.int (nI (p + 6 + by4 f (p + 2)))], M1) _
            refine ps_st (S' := (278, [(5, .int (nI (p + 6 + by4 f (p + 2)))), (0, .ref m0), (2, .int 4), (3, .int (nI x)), (4, .int (nI (by2 f p1))), (6, .int (nI s3)), (7, .int (nI i)), (8, .int (nI (by4 f (p + 2))))], [], M1)) rfl rfl rfl ?_
            refine ps_st (S' := (281, [(7, .int ((nI i) + 1)), (5, .int (nI (p + 6 + by4 f (p + 2)))), (0, .ref m0), (2, .int 4), (3, .int (nI x)), (4, .int (nI (by2 f p1))), (6, .int (nI s3)), (8, .int (nI (by4 f (p + 2))))], [], M1)) rfl rfl rfl ?_
            rw [nI_add1 (p := i) (k := 1) (x := 1) rfl (by omega)]
            show pl _ _ _ (_, [(7, .int (nI (i + 1))), (5, .int (nI (p + 6 + by4 f (p + 2)))), (0, .ref m0), (2, .int 4), (3, .int (nI x)), (4, .int (nI (by2 f p1))), (6, .int (nI s3)), (8, .int (nI (by4 f (p + 2))))], [], M1) _
            refine ps_st (S' := (18, [(0, .ref m0), (2, .int 4), (3, .int (nI x)), (4, .int (nI (by2 f p1))), (5, .int (nI (p + 6 + by4 f (p + 2)))), (6, .int (nI s3)), (7, .int (nI (i + 1)))], [], M1)) rfl rfl rfl ?_
            exact ih.1 (i + 1) (p + 6 + by4 f (p + 2)) (s2) (s3) (bc) (nk) M1 I1 R1 hR1 hEI1 hER1 hl51 hl52 hl53 hl58 hl71 hl66 hF1 hY1 hP1 hK1 (by omega) (hl) (hb) (hq7) (by
                rw [← hs9, clS_u (i := i) (p := p) (s := s2) hi0 h1 hsm])
          · have c_142 : ¬ ((gI (kb mj 4 (tX f n E (by2 f p)) k)) < 0) := of_decide_eq_false c_142
            rw [ek] at c_142
            obtain ⟨w, hw1, hw2, hsm⟩ := ck_y c_142
            have hws := hb w hw2.1 hw2.2
            have hb2 := sb_lt s3 w
            rw [show gI (kb mj 4 (tX f n E (by2 f p)) k) = nI w by rw [ek, hw1]; rfl]
            show pl _ _ _ (145, [(0, .ref m0), (2, .int 4), (3, .int (nI x)), (4, .int (nI (by2 f p1))), (5, .int (nI p)), (6, .int (nI s3)), (7, .int (nI i)), (8, .int (nI (by4 f (p + 2)))), (9, .int (nI t)), (10, .int (nI w)), (11, .int (nI k))], [], M1) _
            refine ps_st (S' := (146, [(0, .ref m0), (2, .int 4), (3, .int (nI x)), (4, .int (nI (by2 f p1))), (5, .int (nI p)), (6, .int (nI s3)), (7, .int (nI i)), (8, .int (nI (by4 f (p + 2)))), (9, .int (nI t)), (10, .int (nI w)), (11, .int (nI k))], [.int 4], M1)) rfl rfl rfl ?_
            refine ps_st (S' := (147, [(0, .ref m0), (2, .int 4), (3, .int (nI x)), (4, .int (nI (by2 f p1))), (5, .int (nI p)), (6, .int (nI s3)), (7, .int (nI i)), (8, .int (nI (by4 f (p + 2)))), (9, .int (nI t)), (10, .int (nI w)), (11, .int (nI k))], [.int 1, .int 4], M1)) rfl rfl rfl ?_
            refine ps_if2 (S1 := (160, [(0, .ref m0), (2, .int 4), (3, .int (nI x)), (4, .int (nI (by2 f p1))), (5, .int (nI p)), (6, .int (nI s3)), (7, .int (nI i)), (8, .int (nI (by4 f (p + 2)))), (10, .int (nI w))], [], M1)) (S2 := (150, [(0, .ref m0), (2, .int 4), (3, .int (nI x)), (4, .int (nI (by2 f p1))), (5, .int (nI p)), (6, .int (nI s3)), (7, .int (nI i)), (8, .int (nI (by4 f (p + 2)))), (9, .int (nI t)), (10, .int (nI w)), (11, .int (nI k))], [], M1)) rfl rfl rfl (fun c_147 => ?_) (fun c_147 => ?_)
            rotate_left
            · exact absurd (by decide) (of_decide_eq_false c_147)
            refine ps_st (S' := (161, [(0, .ref m0), (2, .int 4), (3, .int (nI x)), (4, .int (nI (by2 f p1))), (5, .int (nI p)), (6, .int (nI s3)), (7, .int (nI i)), (8, .int (nI (by4 f (p + 2)))), (10, .int (nI w))], [.int 4], M1)) rfl rfl rfl ?_
            refine ps_st (S' := (162, [(0, .ref m0), (2, .int 4), (3, .int (nI x)), (4, .int (nI (by2 f p1))), (5, .int (nI p)), (6, .int (nI s3)), (7, .int (nI i)), (8, .int (nI (by4 f (p + 2)))), (10, .int (nI w))], [.int 2, .int 4], M1)) rfl rfl rfl ?_
            refine ps_if2 (S1 := (175, [(0, .ref m0), (2, .int 4), (3, .int (nI x)), (4, .int (nI (by2 f p1))), (5, .int (nI p)), (6, .int (nI s3)), (7, .int (nI i)), (8, .int (nI (by4 f (p + 2)))), (10, .int (nI w))], [], M1)) (S2 := (165, [(0, .ref m0), (2, .int 4), (3, .int (nI x)), (4, .int (nI (by2 f p1))), (5, .int (nI p)), (6, .int (nI s3)), (7, .int (nI i)), (8, .int (nI (by4 f (p + 2)))), (10, .int (nI w))], [], M1)) rfl rfl rfl (fun c_162 => ?_) (fun c_162 => ?_)
            rotate_left
            · exact absurd (by decide) (of_decide_eq_false c_162)
            refine ps_st (S' := (176, [(0, .ref m0), (2, .int 4), (3, .int (nI x)), (4, .int (nI (by2 f p1))), (5, .int (nI p)), (6, .int (nI s3)), (7, .int (nI i)), (8, .int (nI (by4 f (p + 2)))), (10, .int (nI w))], [.int 4], M1)) rfl rfl rfl ?_
            refine ps_st (S' := (177, [(0, .ref m0), (2, .int 4), (3, .int (nI x)), (4, .int (nI (by2 f p1))), (5, .int (nI p)), (6, .int (nI s3)), (7, .int (nI i)), (8, .int (nI (by4 f (p + 2)))), (10, .int (nI w))], [.int 4, .int 4], M1)) rfl rfl rfl ?_
            refine ps_if2 (S1 := (190, [(0, .ref m0), (2, .int 4), (3, .int (nI x)), (4, .int (nI (by2 f p1))), (5, .int (nI p)), (6, .int (nI s3)), (7, .int (nI i)), (8, .int (nI (by4 f (p + 2)))), (10, .int (nI w))], [], M1)) (S2 := (180, [(0, .ref m0), (2, .int 4), (3, .int (nI x)), (4, .int (nI (by2 f p1))), (5, .int (nI p)), (6, .int (nI s3)), (7, .int (nI i)), (8, .int (nI (by4 f (p + 2)))), (10, .int (nI w))], [], M1)) rfl rfl rfl (fun c_177 => ?_) (fun c_177 => ?_)
            · exact absurd (of_decide_eq_true c_177) (by decide)
            refine ps_st (S' := (181, [(0, .ref m0), (2, .int 4), (3, .int (nI x)), (4, .int (nI (by2 f p1))), (5, .int (nI p)), (6, .int (nI s3)), (7, .int (nI i)), (8, .int (nI (by4 f (p + 2)))), (10, .int (nI w))], [.ref m0], M1)) rfl rfl rfl ?_
            refine ps_st (S' := (182, [(0, .ref m0), (2, .int 4), (3, .int (nI x)), (4, .int (nI (by2 f p1))), (5, .int (nI p)), (6, .int (nI s3)), (7, .int (nI i)), (8, .int (nI (by4 f (p + 2)))), (10, .int (nI w))], [.ref m0, .ref m0], M1)) rfl rfl rfl ?_
            refine pr_int (j := 66) (S' := (185, [(0, .ref m0), (2, .int 4), (3, .int (nI x)), (4, .int (nI (by2 f p1))), (5, .int (nI p)), (6, .int (nI s3)), (7, .int (nI i)), (8, .int (nI (by4 f (p + 2)))), (10, .int (nI w))], [.int nk, .ref m0], M1)) rfl hR1 rfl hl66 rfl ?_
            refine ps_st (S' := (186, [(0, .ref m0), (2, .int 4), (3, .int (nI x)), (4, .int (nI (by2 f p1))), (5, .int (nI p)), (6, .int (nI s3)), (7, .int (nI i)), (8, .int (nI (by4 f (p + 2)))), (10, .int (nI w))], [.int 1, .int nk, .ref m0], M1)) rfl rfl rfl ?_
            refine ps_st (S' := (187, [(0, .ref m0), (2, .int 4), (3, .int (nI x)), (4, .int (nI (by2 f p1))), (5, .int (nI p)), (6, .int (nI s3)), (7, .int (nI i)), (8, .int (nI (by4 f (p + 2)))), (10, .int (nI w))], [.int (nk + 1), .ref m0], M1)) rfl rfl rfl ?_
            refine pr_put (j := 66) rfl hR1 rfl (fun M39 I40 hR41 hi42 hI43 => ?_)
            have hi44 := (hI43 51 (by decide)).trans hl51
            have hi45 := (hI43 52 (by decide)).trans hl52
            have hi46 := (hI43 53 (by decide)).trans hl53
            have hi47 := (hI43 58 (by decide)).trans hl58
            have hi48 := (hI43 71 (by decide)).trans hl71
            have hF_49 := hF1.mono (pIx hI43 (by decide)) (fun _ _ => rfl)
            have hY_50 := hY1.mono (pIx hI43 (by decide)) (fun _ _ => rfl)
            have hP_51 := hP1.mono (pIx hI43 (by decide)) (fun _ _ => rfl)
            have hK_52 := hK1.mono (pIx hI43 (by decide)) (fun _ _ => rfl)
            have hEI53 := hEI1.put hI43 (by decide)
            show pl _ _ _ (190, [(0, .ref m0), (2, .int 4), (3, .int (nI x)), (4, .int (nI (by2 f p1))), (5, .int (nI p)), (6, .int (nI s3)), (7, .int (nI i)), (8, .int (nI (by4 f (p + 2)))), (10, .int (nI w))], [], M39) _
            refine ps_st (S' := (192, [(0, .ref m0), (2, .int 4), (3, .int (nI x)), (4, .int (nI (by2 f p1))), (5, .int (nI p)), (6, .int (nI s3)), (7, .int (nI i)), (8, .int (nI (by4 f (p + 2)))), (10, .int (nI w))], [.int (nI s3)], M39)) rfl rfl rfl ?_
            refine ps_st (S' := (194, [(0, .ref m0), (2, .int 4), (3, .int (nI x)), (4, .int (nI (by2 f p1))), (5, .int (nI p)), (6, .int (nI s3)), (7, .int (nI i)), (8, .int (nI (by4 f (p + 2)))), (10, .int (nI w))], [.int (nI w), .int (nI s3)], M39)) rfl rfl rfl ?_
            refine ps_st (S' := (195, [(0, .ref m0), (2, .int 4), (3, .int (nI x)), (4, .int (nI (by2 f p1))), (5, .int (nI p)), (6, .int (nI s3)), (7, .int (nI i)), (8, .int (nI (by4 f (p + 2)))), (10, .int (nI w))], [.int ((nI s3) >>> ((nI w) &&& 31))], M39)) rfl rfl rfl ?_
            refine ps_st (S' := (196, [(0, .ref m0), (2, .int 4), (3, .int (nI x)), (4, .int (nI (by2 f p1))), (5, .int (nI p)), (6, .int (nI s3)), (7, .int (nI i)), (8, .int (nI (by4 f (p + 2)))), (10, .int (nI w))], [.int 1, .int ((nI s3) >>> ((nI w) &&& 31))], M39)) rfl rfl rfl ?_
            refine ps_st (S' := (197, [(0, .ref m0), (2, .int 4), (3, .int (nI x)), (4, .int (nI (by2 f p1))), (5, .int (nI p)), (6, .int (nI s3)), (7, .int (nI i)), (8, .int (nI (by4 f (p + 2)))), (10, .int (nI w))], [.int (((nI s3) >>> ((nI w) &&& 31)) &&& 1)], M39)) rfl rfl rfl ?_
            rw [shr_k s3 (by omega) w (by omega)]
            show pl _ _ _ (_, [(0, .ref m0), (2, .int 4), (3, .int (nI x)), (4, .int (nI (by2 f p1))), (5, .int (nI p)), (6, .int (nI s3)), (7, .int (nI i)), (8, .int (nI (by4 f (p + 2)))), (10, .int (nI w))], [.int (nI (sb s3 w))], M39) _
            refine ps_st (S' := (198, [(0, .ref m0), (2, .int 4), (3, .int (nI x)), (4, .int (nI (by2 f p1))), (5, .int (nI p)), (6, .int (nI s3)), (7, .int (nI i)), (8, .int (nI (by4 f (p + 2)))), (10, .int (nI w))], [.int 1, .int (nI (sb s3 w))], M39)) rfl rfl rfl ?_
            refine ps_if2 (S1 := (212, [(0, .ref m0), (2, .int 4), (3, .int (nI x)), (4, .int (nI (by2 f p1))), (5, .int (nI p)), (6, .int (nI s3)), (7, .int (nI i)), (8, .int (nI (by4 f (p + 2)))), (10, .int (nI w))], [], M39)) (S2 := (201, [(0, .ref m0), (2, .int 4), (3, .int (nI x)), (4, .int (nI (by2 f p1))), (5, .int (nI p)), (6, .int (nI s3)), (7, .int (nI i)), (8, .int (nI (by4 f (p + 2)))), (10, .int (nI w))], [], M39)) rfl rfl rfl (fun c_198 => ?_) (fun c_198 => ?_)
            · have c_198 : ¬ (nI (sb s3 w)) = 1 := of_decide_eq_true c_198
              have n_198 : ¬ (sb s3 w = 1) := fun h9 => c_198 ((eq_nI (p := sb s3 w) (n := 1) (Nat.lt_trans (sb_lt _ _) (by decide)) (by decide)).mpr h9)
              refine ps_st (S' := (213, [(0, .ref m0), (2, .int 4), (3, .int (nI x)), (4, .int (nI (by2 f p1))), (5, .int (nI p)), (6, .int (nI s3)), (7, .int (nI i)), (8, .int (nI (by4 f (p + 2)))), (10, .int (nI w))], [.ref m0], M39)) rfl rfl rfl ?_
              refine ps_st (S' := (215, [(0, .ref m0), (2, .int 4), (3, .int (nI x)), (4, .int (nI (by2 f p1))), (5, .int (nI p)), (6, .int (nI s3)), (7, .int (nI i)), (8, .int (nI (by4 f (p + 2)))), (10, .int (nI w))], [.int (nI w), .ref m0], M39)) rfl rfl rfl ?_
              refine ps_st (S' := (217, [(0, .ref m0), (2, .int 4), (3, .int (nI x)), (4, .int (nI (by2 f p1))), (5, .int (nI p)), (6, .int (nI s3)), (7, .int (nI i)), (8, .int (nI (by4 f (p + 2)))), (10, .int (nI w))], [.int (nI p), .int (nI w), .ref m0], M39)) rfl rfl rfl ?_
              refine ps_st (S' := (219, [(0, .ref m0), (2, .int 4), (3, .int (nI x)), (4, .int (nI (by2 f p1))), (5, .int (nI p)), (6, .int (nI s3)), (7, .int (nI i)), (8, .int (nI (by4 f (p + 2)))), (10, .int (nI w))], [.int (nI p), .int (nI p), .int (nI w), .ref m0], M39)) rfl rfl rfl ?_
              refine ps_st (S' := (221, [(0, .ref m0), (2, .int 4), (3, .int (nI x)), (4, .int (nI (by2 f p1))), (5, .int (nI p)), (6, .int (nI s3)), (7, .int (nI i)), (8, .int (nI (by4 f (p + 2)))), (10, .int (nI w))], [.int 6, .int (nI p), .int (nI p), .int (nI w), .ref m0], M39)) rfl rfl rfl ?_
              refine ps_st (S' := (222, [(0, .ref m0), (2, .int 4), (3, .int (nI x)), (4, .int (nI (by2 f p1))), (5, .int (nI p)), (6, .int (nI s3)), (7, .int (nI i)), (8, .int (nI (by4 f (p + 2)))), (10, .int (nI w))], [.int ((nI p) + 6), .int (nI p), .int (nI w), .ref m0], M39)) rfl rfl rfl ?_
              rw [nI_add1 (p := p) (k := 6) (x := 6) rfl (by omega)]
              show pl _ _ _ (_, [(0, .ref m0), (2, .int 4), (3, .int (nI x)), (4, .int (nI (by2 f p1))), (5, .int (nI p)), (6, .int (nI s3)), (7, .int (nI i)), (8, .int (nI (by4 f (p + 2)))), (10, .int (nI w))], [.int (nI (p + 6)), .int (nI p), .int (nI w), .ref m0], M39) _
              refine ps_st (S' := (224, [(0, .ref m0), (2, .int 4), (3, .int (nI x)), (4, .int (nI (by2 f p1))), (5, .int (nI p)), (6, .int (nI s3)), (7, .int (nI i)), (8, .int (nI (by4 f (p + 2)))), (10, .int (nI w))], [.int (nI p), .int (nI (p + 6)), .int (nI p), .int (nI w), .ref m0], M39)) rfl rfl rfl ?_
              refine ps_st (S' := (226, [(0, .ref m0), (2, .int 4), (3, .int (nI x)), (4, .int (nI (by2 f p1))), (5, .int (nI p)), (6, .int (nI s3)), (7, .int (nI i)), (8, .int (nI (by4 f (p + 2)))), (10, .int (nI w))], [.int 6, .int (nI p), .int (nI (p + 6)), .int (nI p), .int (nI w), .ref m0], M39)) rfl rfl rfl ?_
              refine ps_st (S' := (227, [(0, .ref m0), (2, .int 4), (3, .int (nI x)), (4, .int (nI (by2 f p1))), (5, .int (nI p)), (6, .int (nI s3)), (7, .int (nI i)), (8, .int (nI (by4 f (p + 2)))), (10, .int (nI w))], [.int ((nI p) + 6), .int (nI (p + 6)), .int (nI p), .int (nI w), .ref m0], M39)) rfl rfl rfl ?_
              rw [nI_add1 (p := p) (k := 6) (x := 6) rfl (by omega)]
              show pl _ _ _ (_, [(0, .ref m0), (2, .int 4), (3, .int (nI x)), (4, .int (nI (by2 f p1))), (5, .int (nI p)), (6, .int (nI s3)), (7, .int (nI i)), (8, .int (nI (by4 f (p + 2)))), (10, .int (nI w))], [.int (nI (p + 6)), .int (nI (p + 6)), .int (nI p), .int (nI w), .ref m0], M39) _
              refine ps_st (S' := (229, [(0, .ref m0), (2, .int 4), (3, .int (nI x)), (4, .int (nI (by2 f p1))), (5, .int (nI p)), (6, .int (nI s3)), (7, .int (nI i)), (8, .int (nI (by4 f (p + 2)))), (10, .int (nI w))], [.int (nI (by4 f (p + 2))), .int (nI (p + 6)), .int (nI (p + 6)), .int (nI p), .int (nI w), .ref m0], M39)) rfl rfl rfl ?_
              refine ps_st (S' := (230, [(0, .ref m0), (2, .int 4), (3, .int (nI x)), (4, .int (nI (by2 f p1))), (5, .int (nI p)), (6, .int (nI s3)), (7, .int (nI i)), (8, .int (nI (by4 f (p + 2)))), (10, .int (nI w))], [.int ((nI (p + 6)) + (nI (by4 f (p + 2)))), .int (nI (p + 6)), .int (nI p), .int (nI w), .ref m0], M39)) rfl rfl rfl ?_
              rw [nI_add1 (p := p + 6) (k := by4 f (p + 2)) (x := (nI (by4 f (p + 2)))) rfl (by omega)]
              show pl _ _ _ (_, [(0, .ref m0), (2, .int 4), (3, .int (nI x)), (4, .int (nI (by2 f p1))), (5, .int (nI p)), (6, .int (nI s3)), (7, .int (nI i)), (8, .int (nI (by4 f (p + 2)))), (10, .int (nI w))], [.int (nI (p + 6 + by4 f (p + 2))), .int (nI (p + 6)), .int (nI p), .int (nI w), .ref m0], M39) _
              refine ps_st (S' := (231, [(0, .ref m0), (2, .int 4), (3, .int (nI x)), (4, .int (nI (by2 f p1))), (5, .int (nI p)), (6, .int (nI s3)), (7, .int (nI i)), (8, .int (nI (by4 f (p + 2)))), (10, .int (nI w))], [.int (nI x), .int (nI (p + 6 + by4 f (p + 2))), .int (nI (p + 6)), .int (nI p), .int (nI w), .ref m0], M39)) rfl rfl rfl ?_
              refine ps_st (S' := (233, [(0, .ref m0), (2, .int 4), (3, .int (nI x)), (4, .int (nI (by2 f p1))), (5, .int (nI p)), (6, .int (nI s3)), (7, .int (nI i)), (8, .int (nI (by4 f (p + 2)))), (10, .int (nI w))], [.int (nI s3), .int (nI x), .int (nI (p + 6 + by4 f (p + 2))), .int (nI (p + 6)), .int (nI p), .int (nI w), .ref m0], M39)) rfl rfl rfl ?_
              refine pl_call (a := [.ref m0, .int (nI w), .int (nI p), .int (nI (p + 6)), .int (nI (p + 6 + by4 f (p + 2))), .int (nI x), .int (nI s3)]) (rest := []) rfl rfl rfl (rd_attrK (n := n) (f := f) (tx := tx) (cN := cN) (A := A) (N := N) (mj := mj) (E := E) (p := p) (e := (p + 6 + by4 f (p + 2))) (x := x) (s3 := s3) (s2 := (so s2 (w + 1))) (fl := fl) (w := w) (nb := bc) (t := (nI p)) hR41 hi44 hi45 hi46 hi47 hi48 hF_49 hY_50 hP_51 (hEP) (hN) (hmj) (⟨by omega, by omega⟩) (hl) (hf6) (hw2) (fun h9 => (by rw [sb_so, if_neg (by omega), hb 7 (by decide) (by decide)])) (fun h9 => (by rw [sb_so, if_neg (by omega), hb 6 (by decide) (by decide)]))) (fun v54 M55 q56 => ?_)
              rcases q56 with q56 | q56 | q56 | q56
              · skip
                obtain ⟨I57, R58, q233_s, rfl, hR59, hI60, hX61⟩ := q56
                have hi62 := (hI60 51 (by decide)).trans hi44
                have hi63 := (hI60 52 (by decide)).trans hi45
                have hi64 := (hI60 53 (by decide)).trans hi46
                have hi65 := (hI60 58 (by decide)).trans hi47
                have hi66 := (hI60 66 (by decide)).trans hi42
                have hF_67 := hF_49.mono (cIx hI60 (by decide)) (cRx hX61 (by decide))
                have hY_68 := hY_50.mono (cIx hI60 (by decide)) (cRx hX61 (by decide))
                have hP_69 := hP_51.mono (cIx hI60 (by decide)) (cRx hX61 (by decide))
                have hK_70 := hK_52.mono (cIx hI60 (by decide)) (cRx hX61 (by decide))
                have hEI71 := hEI53.tr hI60 (by decide)
                have hER72 := hER1.tr hX61 (by decide)
                show pl _ _ _ (236, [(0, .ref m0), (2, .int 4), (3, .int (nI x)), (4, .int (nI (by2 f p1))), (5, .int (nI p)), (6, .int (nI s3)), (7, .int (nI i)), (8, .int (nI (by4 f (p + 2)))), (10, .int (nI w))], [.int 30], M55) _
                refine ps_st (S' := (238, [(11, .int 30), (0, .ref m0), (2, .int 4), (3, .int (nI x)), (4, .int (nI (by2 f p1))), (5, .int (nI p)), (6, .int (nI s3)), (7, .int (nI i)), (8, .int (nI (by4 f (p + 2)))), (10, .int (nI w))], [], M55)) rfl rfl rfl ?_
                refine ps_st (S' := (240, [(11, .int 30), (0, .ref m0), (2, .int 4), (3, .int (nI x)), (4, .int (nI (by2 f p1))), (5, .int (nI p)), (6, .int (nI s3)), (7, .int (nI i)), (8, .int (nI (by4 f (p + 2)))), (10, .int (nI w))], [.int (nI s3)], M55)) rfl rfl rfl ?_
                refine ps_st (S' := (241, [(11, .int 30), (0, .ref m0), (2, .int 4), (3, .int (nI x)), (4, .int (nI (by2 f p1))), (5, .int (nI p)), (6, .int (nI s3)), (7, .int (nI i)), (8, .int (nI (by4 f (p + 2)))), (10, .int (nI w))], [.int 1, .int (nI s3)], M55)) rfl rfl rfl ?_
                refine ps_st (S' := (243, [(11, .int 30), (0, .ref m0), (2, .int 4), (3, .int (nI x)), (4, .int (nI (by2 f p1))), (5, .int (nI p)), (6, .int (nI s3)), (7, .int (nI i)), (8, .int (nI (by4 f (p + 2)))), (10, .int (nI w))], [.int (nI w), .int 1, .int (nI s3)], M55)) rfl rfl rfl ?_
                refine ps_st (S' := (244, [(11, .int 30), (0, .ref m0), (2, .int 4), (3, .int (nI x)), (4, .int (nI (by2 f p1))), (5, .int (nI p)), (6, .int (nI s3)), (7, .int (nI i)), (8, .int (nI (by4 f (p + 2)))), (10, .int (nI w))], [.int (1 <<< ((nI w) &&& 31)), .int (nI s3)], M55)) rfl rfl rfl ?_
                refine ps_st (S' := (245, [(11, .int 30), (0, .ref m0), (2, .int 4), (3, .int (nI x)), (4, .int (nI (by2 f p1))), (5, .int (nI p)), (6, .int (nI s3)), (7, .int (nI i)), (8, .int (nI (by4 f (p + 2)))), (10, .int (nI w))], [.int ((nI s3) ||| (1 <<< ((nI w) &&& 31)))], M55)) rfl rfl rfl ?_
                rw [or_k s3 w (by omega)]
                show pl _ _ _ (_, [(11, .int 30), (0, .ref m0), (2, .int 4), (3, .int (nI x)), (4, .int (nI (by2 f p1))), (5, .int (nI p)), (6, .int (nI s3)), (7, .int (nI i)), (8, .int (nI (by4 f (p + 2)))), (10, .int (nI w))], [.int (nI (so s3 w))], M55) _
                refine ps_st (S' := (247, [(6, .int (nI (so s3 w))), (11, .int 30), (0, .ref m0), (2, .int 4), (3, .int (nI x)), (4, .int (nI (by2 f p1))), (5, .int (nI p)), (7, .int (nI i)), (8, .int (nI (by4 f (p + 2)))), (10, .int (nI w))], [], M55)) rfl rfl rfl ?_
                refine ps_st (S' := (249, [(6, .int (nI (so s3 w))), (11, .int 30), (0, .ref m0), (2, .int 4), (3, .int (nI x)), (4, .int (nI (by2 f p1))), (5, .int (nI p)), (7, .int (nI i)), (8, .int (nI (by4 f (p + 2)))), (10, .int (nI w))], [.int 30], M55)) rfl rfl rfl ?_
                refine ps_if (S1 := (261, [(0, .ref m0), (2, .int 4), (3, .int (nI x)), (4, .int (nI (by2 f p1))), (5, .int (nI p)), (6, .int (nI (so s3 w))), (7, .int (nI i)), (8, .int (nI (by4 f (p + 2)))), (11, .int 30)], [], M55)) (S2 := (252, [(6, .int (nI (so s3 w))), (11, .int 30), (0, .ref m0), (2, .int 4), (3, .int (nI x)), (4, .int (nI (by2 f p1))), (5, .int (nI p)), (7, .int (nI i)), (8, .int (nI (by4 f (p + 2)))), (10, .int (nI w))], [], M55)) rfl rfl rfl (fun c_249 => ?_) (fun c_249 => ?_)
                · exact absurd (of_decide_eq_true c_249) (by decide)
                refine ps_st (S' := (253, [(6, .int (nI (so s3 w))), (11, .int 30), (0, .ref m0), (2, .int 4), (3, .int (nI x)), (4, .int (nI (by2 f p1))), (5, .int (nI p)), (7, .int (nI i)), (8, .int (nI (by4 f (p + 2)))), (10, .int (nI w))], [.ref m0], M55)) rfl rfl rfl ?_
                refine ps_st (S' := (255, [(6, .int (nI (so s3 w))), (11, .int 30), (0, .ref m0), (2, .int 4), (3, .int (nI x)), (4, .int (nI (by2 f p1))), (5, .int (nI p)), (7, .int (nI i)), (8, .int (nI (by4 f (p + 2)))), (10, .int (nI w))], [.int 30, .ref m0], M55)) rfl rfl rfl ?_
                refine ps_st (S' := (257, [(6, .int (nI (so s3 w))), (11, .int 30), (0, .ref m0), (2, .int 4), (3, .int (nI x)), (4, .int (nI (by2 f p1))), (5, .int (nI p)), (7, .int (nI i)), (8, .int (nI (by4 f (p + 2)))), (10, .int (nI w))], [.int (nI p), .int 30, .ref m0], M55)) rfl rfl rfl ?_
                refine pl_call (a := [.ref m0, .int 30, .int (nI p)]) (rest := []) rfl rfl rfl (rd_wrong (x1 := 30) (x2 := (nI p)) hR59) (fun v73 M74 q75 => ?_)
                obtain ⟨I76, R77, rfl, hR78, hI79, hX80, hi81, hi82⟩ := q75
                have hi83 := (hI79 51 (by decide)).trans hi62
                have hi84 := (hI79 52 (by decide)).trans hi63
                have hi85 := (hI79 53 (by decide)).trans hi64
                have hi86 := (hI79 58 (by decide)).trans hi65
                have hi87 := (hI79 66 (by decide)).trans hi66
                have hF_88 := hF_67.mono (cIx hI79 (by decide)) (cRx hX80 (by decide))
                have hY_89 := hY_68.mono (cIx hI79 (by decide)) (cRx hX80 (by decide))
                have hP_90 := hP_69.mono (cIx hI79 (by decide)) (cRx hX80 (by decide))
                have hK_91 := hK_70.mono (cIx hI79 (by decide)) (cRx hX80 (by decide))
                have hEI92 := hEI71.tr hI79 (by decide)
                have hER93 := hER72.tr hX80 (by decide)
                show pl _ _ _ (260, [(6, .int (nI (so s3 w))), (11, .int 30), (0, .ref m0), (2, .int 4), (3, .int (nI x)), (4, .int (nI (by2 f p1))), (5, .int (nI p)), (7, .int (nI i)), (8, .int (nI (by4 f (p + 2)))), (10, .int (nI w))], [.int 0], M74) _
                refine ps_st (S' := (261, [(0, .ref m0), (2, .int 4), (3, .int (nI x)), (4, .int (nI (by2 f p1))), (5, .int (nI p)), (6, .int (nI (so s3 w))), (7, .int (nI i)), (8, .int (nI (by4 f (p + 2)))), (11, .int 30)], [], M74)) rfl rfl rfl ?_
                refine ps_st (S' := (263, [(0, .ref m0), (2, .int 4), (3, .int (nI x)), (4, .int (nI (by2 f p1))), (5, .int (nI p)), (6, .int (nI (so s3 w))), (7, .int (nI i)), (8, .int (nI (by4 f (p + 2)))), (11, .int 30)], [.int 30], M74)) rfl rfl rfl ?_
                refine ps_if (S1 := (268, [(0, .ref m0), (2, .int 4), (3, .int (nI x)), (4, .int (nI (by2 f p1))), (5, .int (nI p)), (6, .int (nI (so s3 w))), (7, .int (nI i)), (8, .int (nI (by4 f (p + 2))))], [], M74)) (S2 := (266, [(0, .ref m0), (2, .int 4), (3, .int (nI x)), (4, .int (nI (by2 f p1))), (5, .int (nI p)), (6, .int (nI (so s3 w))), (7, .int (nI i)), (8, .int (nI (by4 f (p + 2)))), (11, .int 30)], [], M74)) rfl rfl rfl (fun c_263 => ?_) (fun c_263 => ?_)
                · exact absurd (of_decide_eq_true c_263) (by decide)
                refine ps_st (S' := (267, [(0, .ref m0), (2, .int 4), (3, .int (nI x)), (4, .int (nI (by2 f p1))), (5, .int (nI p)), (6, .int (nI (so s3 w))), (7, .int (nI i)), (8, .int (nI (by4 f (p + 2)))), (11, .int 30)], [.int (-1)], M74)) rfl rfl rfl ?_
                exact ps_ret rfl rfl (Or.inl ⟨(30, p), I76, R77, by
                    rw [← hs9, clS_k (i := i) (p := p) (s := s2) hi0 h1 hsm (by omega) hws, if_pos q233_s], rfl, hR78, hEI92, hER93, hi81, hi82⟩)
              · skip
                obtain ⟨r94, I95, R96, q233_s, q233_b, q233_l, rfl, hR97, hI98, hX99⟩ := q56
                have hi100 := (hI98 51 (by decide)).trans hi44
                have hi101 := (hI98 52 (by decide)).trans hi45
                have hi102 := (hI98 53 (by decide)).trans hi46
                have hi103 := (hI98 58 (by decide)).trans hi47
                have hi104 := (hI98 66 (by decide)).trans hi42
                have hF_105 := hF_49.mono (cIx hI98 (by decide)) (cRx hX99 (by decide))
                have hY_106 := hY_50.mono (cIx hI98 (by decide)) (cRx hX99 (by decide))
                have hP_107 := hP_51.mono (cIx hI98 (by decide)) (cRx hX99 (by decide))
                have hK_108 := hK_52.mono (cIx hI98 (by decide)) (cRx hX99 (by decide))
                have hEI109 := hEI53.tr hI98 (by decide)
                have hER110 := hER1.tr hX99 (by decide)
                show pl _ _ _ (236, [(0, .ref m0), (2, .int 4), (3, .int (nI x)), (4, .int (nI (by2 f p1))), (5, .int (nI p)), (6, .int (nI s3)), (7, .int (nI i)), (8, .int (nI (by4 f (p + 2)))), (10, .int (nI w))], [.int (nI r94)], M55) _
                refine ps_st (S' := (238, [(11, .int (nI r94)), (0, .ref m0), (2, .int 4), (3, .int (nI x)), (4, .int (nI (by2 f p1))), (5, .int (nI p)), (6, .int (nI s3)), (7, .int (nI i)), (8, .int (nI (by4 f (p + 2)))), (10, .int (nI w))], [], M55)) rfl rfl rfl ?_
                refine ps_st (S' := (240, [(11, .int (nI r94)), (0, .ref m0), (2, .int 4), (3, .int (nI x)), (4, .int (nI (by2 f p1))), (5, .int (nI p)), (6, .int (nI s3)), (7, .int (nI i)), (8, .int (nI (by4 f (p + 2)))), (10, .int (nI w))], [.int (nI s3)], M55)) rfl rfl rfl ?_
                refine ps_st (S' := (241, [(11, .int (nI r94)), (0, .ref m0), (2, .int 4), (3, .int (nI x)), (4, .int (nI (by2 f p1))), (5, .int (nI p)), (6, .int (nI s3)), (7, .int (nI i)), (8, .int (nI (by4 f (p + 2)))), (10, .int (nI w))], [.int 1, .int (nI s3)], M55)) rfl rfl rfl ?_
                refine ps_st (S' := (243, [(11, .int (nI r94)), (0, .ref m0), (2, .int 4), (3, .int (nI x)), (4, .int (nI (by2 f p1))), (5, .int (nI p)), (6, .int (nI s3)), (7, .int (nI i)), (8, .int (nI (by4 f (p + 2)))), (10, .int (nI w))], [.int (nI w), .int 1, .int (nI s3)], M55)) rfl rfl rfl ?_
                refine ps_st (S' := (244, [(11, .int (nI r94)), (0, .ref m0), (2, .int 4), (3, .int (nI x)), (4, .int (nI (by2 f p1))), (5, .int (nI p)), (6, .int (nI s3)), (7, .int (nI i)), (8, .int (nI (by4 f (p + 2)))), (10, .int (nI w))], [.int (1 <<< ((nI w) &&& 31)), .int (nI s3)], M55)) rfl rfl rfl ?_
                refine ps_st (S' := (245, [(11, .int (nI r94)), (0, .ref m0), (2, .int 4), (3, .int (nI x)), (4, .int (nI (by2 f p1))), (5, .int (nI p)), (6, .int (nI s3)), (7, .int (nI i)), (8, .int (nI (by4 f (p + 2)))), (10, .int (nI w))], [.int ((nI s3) ||| (1 <<< ((nI w) &&& 31)))], M55)) rfl rfl rfl ?_
                rw [or_k s3 w (by omega)]
                show pl _ _ _ (_, [(11, .int (nI r94)), (0, .ref m0), (2, .int 4), (3, .int (nI x)), (4, .int (nI (by2 f p1))), (5, .int (nI p)), (6, .int (nI s3)), (7, .int (nI i)), (8, .int (nI (by4 f (p + 2)))), (10, .int (nI w))], [.int (nI (so s3 w))], M55) _
                refine ps_st (S' := (247, [(6, .int (nI (so s3 w))), (11, .int (nI r94)), (0, .ref m0), (2, .int 4), (3, .int (nI x)), (4, .int (nI (by2 f p1))), (5, .int (nI p)), (7, .int (nI i)), (8, .int (nI (by4 f (p + 2)))), (10, .int (nI w))], [], M55)) rfl rfl rfl ?_
                refine ps_st (S' := (249, [(6, .int (nI (so s3 w))), (11, .int (nI r94)), (0, .ref m0), (2, .int 4), (3, .int (nI x)), (4, .int (nI (by2 f p1))), (5, .int (nI p)), (7, .int (nI i)), (8, .int (nI (by4 f (p + 2)))), (10, .int (nI w))], [.int (nI r94)], M55)) rfl rfl rfl ?_
                refine ps_if (S1 := (261, [(0, .ref m0), (2, .int 4), (3, .int (nI x)), (4, .int (nI (by2 f p1))), (5, .int (nI p)), (6, .int (nI (so s3 w))), (7, .int (nI i)), (8, .int (nI (by4 f (p + 2)))), (11, .int (nI r94))], [], M55)) (S2 := (252, [(6, .int (nI (so s3 w))), (11, .int (nI r94)), (0, .ref m0), (2, .int 4), (3, .int (nI x)), (4, .int (nI (by2 f p1))), (5, .int (nI p)), (7, .int (nI i)), (8, .int (nI (by4 f (p + 2)))), (10, .int (nI w))], [], M55)) rfl rfl rfl (fun c_249 => ?_) (fun c_249 => ?_)
                · exact absurd (of_decide_eq_true c_249) (show ¬ ((nI r94) ≤ 0) from fun h9 => absurd ((le_nI (p := r94) (n := 0) (by omega) (by decide)).mp h9) (by omega))
                refine ps_st (S' := (253, [(6, .int (nI (so s3 w))), (11, .int (nI r94)), (0, .ref m0), (2, .int 4), (3, .int (nI x)), (4, .int (nI (by2 f p1))), (5, .int (nI p)), (7, .int (nI i)), (8, .int (nI (by4 f (p + 2)))), (10, .int (nI w))], [.ref m0], M55)) rfl rfl rfl ?_
                refine ps_st (S' := (255, [(6, .int (nI (so s3 w))), (11, .int (nI r94)), (0, .ref m0), (2, .int 4), (3, .int (nI x)), (4, .int (nI (by2 f p1))), (5, .int (nI p)), (7, .int (nI i)), (8, .int (nI (by4 f (p + 2)))), (10, .int (nI w))], [.int (nI r94), .ref m0], M55)) rfl rfl rfl ?_
                refine ps_st (S' := (257, [(6, .int (nI (so s3 w))), (11, .int (nI r94)), (0, .ref m0), (2, .int 4), (3, .int (nI x)), (4, .int (nI (by2 f p1))), (5, .int (nI p)), (7, .int (nI i)), (8, .int (nI (by4 f (p + 2)))), (10, .int (nI w))], [.int (nI p), .int (nI r94), .ref m0], M55)) rfl rfl rfl ?_
                refine pl_call (a := [.ref m0, .int (nI r94), .int (nI p)]) (rest := []) rfl rfl rfl (rd_wrong (x1 := (nI r94)) (x2 := (nI p)) hR97) (fun v111 M112 q113 => ?_)
                obtain ⟨I114, R115, rfl, hR116, hI117, hX118, hi119, hi120⟩ := q113
                have hi121 := (hI117 51 (by decide)).trans hi100
                have hi122 := (hI117 52 (by decide)).trans hi101
                have hi123 := (hI117 53 (by decide)).trans hi102
                have hi124 := (hI117 58 (by decide)).trans hi103
                have hi125 := (hI117 66 (by decide)).trans hi104
                have hF_126 := hF_105.mono (cIx hI117 (by decide)) (cRx hX118 (by decide))
                have hY_127 := hY_106.mono (cIx hI117 (by decide)) (cRx hX118 (by decide))
                have hP_128 := hP_107.mono (cIx hI117 (by decide)) (cRx hX118 (by decide))
                have hK_129 := hK_108.mono (cIx hI117 (by decide)) (cRx hX118 (by decide))
                have hEI130 := hEI109.tr hI117 (by decide)
                have hER131 := hER110.tr hX118 (by decide)
                show pl _ _ _ (260, [(6, .int (nI (so s3 w))), (11, .int (nI r94)), (0, .ref m0), (2, .int 4), (3, .int (nI x)), (4, .int (nI (by2 f p1))), (5, .int (nI p)), (7, .int (nI i)), (8, .int (nI (by4 f (p + 2)))), (10, .int (nI w))], [.int 0], M112) _
                refine ps_st (S' := (261, [(0, .ref m0), (2, .int 4), (3, .int (nI x)), (4, .int (nI (by2 f p1))), (5, .int (nI p)), (6, .int (nI (so s3 w))), (7, .int (nI i)), (8, .int (nI (by4 f (p + 2)))), (11, .int (nI r94))], [], M112)) rfl rfl rfl ?_
                refine ps_st (S' := (263, [(0, .ref m0), (2, .int 4), (3, .int (nI x)), (4, .int (nI (by2 f p1))), (5, .int (nI p)), (6, .int (nI (so s3 w))), (7, .int (nI i)), (8, .int (nI (by4 f (p + 2)))), (11, .int (nI r94))], [.int (nI r94)], M112)) rfl rfl rfl ?_
                refine ps_if (S1 := (268, [(0, .ref m0), (2, .int 4), (3, .int (nI x)), (4, .int (nI (by2 f p1))), (5, .int (nI p)), (6, .int (nI (so s3 w))), (7, .int (nI i)), (8, .int (nI (by4 f (p + 2))))], [], M112)) (S2 := (266, [(0, .ref m0), (2, .int 4), (3, .int (nI x)), (4, .int (nI (by2 f p1))), (5, .int (nI p)), (6, .int (nI (so s3 w))), (7, .int (nI i)), (8, .int (nI (by4 f (p + 2)))), (11, .int (nI r94))], [], M112)) rfl rfl rfl (fun c_263 => ?_) (fun c_263 => ?_)
                · exact absurd (of_decide_eq_true c_263) (show ¬ ((nI r94) = 0) from fun h9 => absurd ((eq_nI (p := r94) (n := 0) (by omega) (by decide)).mp h9) (by omega))
                refine ps_st (S' := (267, [(0, .ref m0), (2, .int 4), (3, .int (nI x)), (4, .int (nI (by2 f p1))), (5, .int (nI p)), (6, .int (nI (so s3 w))), (7, .int (nI i)), (8, .int (nI (by4 f (p + 2)))), (11, .int (nI r94))], [.int (-1)], M112)) rfl rfl rfl ?_
                exact ps_ret rfl rfl (Or.inl ⟨(r94, p), I114, R115, by
                    rw [← hs9, clS_k (i := i) (p := p) (s := s2) hi0 h1 hsm (by omega) hws, if_neg (fun h9 => h9 q233_s)]; rcases q233_b with q9 | q9 <;> rw [q9], rfl, hR116, hEI130, hER131, hi119, hi120⟩)
              · skip
                obtain ⟨e9132, I133, R134, q233_s, q233_b, rfl, hR135, hI136, hX137, hi138, hi139⟩ := q56
                have hi140 := (hI136 51 (by decide)).trans hi44
                have hi141 := (hI136 52 (by decide)).trans hi45
                have hi142 := (hI136 53 (by decide)).trans hi46
                have hi143 := (hI136 58 (by decide)).trans hi47
                have hi144 := (hI136 66 (by decide)).trans hi42
                have hF_145 := hF_49.mono (cIx hI136 (by decide)) (cRx hX137 (by decide))
                have hY_146 := hY_50.mono (cIx hI136 (by decide)) (cRx hX137 (by decide))
                have hP_147 := hP_51.mono (cIx hI136 (by decide)) (cRx hX137 (by decide))
                have hK_148 := hK_52.mono (cIx hI136 (by decide)) (cRx hX137 (by decide))
                have hEI149 := hEI53.tr hI136 (by decide)
                have hER150 := hER1.tr hX137 (by decide)
                show pl _ _ _ (236, [(0, .ref m0), (2, .int 4), (3, .int (nI x)), (4, .int (nI (by2 f p1))), (5, .int (nI p)), (6, .int (nI s3)), (7, .int (nI i)), (8, .int (nI (by4 f (p + 2)))), (10, .int (nI w))], [.int (-1)], M55) _
                refine ps_st (S' := (238, [(11, .int (-1)), (0, .ref m0), (2, .int 4), (3, .int (nI x)), (4, .int (nI (by2 f p1))), (5, .int (nI p)), (6, .int (nI s3)), (7, .int (nI i)), (8, .int (nI (by4 f (p + 2)))), (10, .int (nI w))], [], M55)) rfl rfl rfl ?_
                refine ps_st (S' := (240, [(11, .int (-1)), (0, .ref m0), (2, .int 4), (3, .int (nI x)), (4, .int (nI (by2 f p1))), (5, .int (nI p)), (6, .int (nI s3)), (7, .int (nI i)), (8, .int (nI (by4 f (p + 2)))), (10, .int (nI w))], [.int (nI s3)], M55)) rfl rfl rfl ?_
                refine ps_st (S' := (241, [(11, .int (-1)), (0, .ref m0), (2, .int 4), (3, .int (nI x)), (4, .int (nI (by2 f p1))), (5, .int (nI p)), (6, .int (nI s3)), (7, .int (nI i)), (8, .int (nI (by4 f (p + 2)))), (10, .int (nI w))], [.int 1, .int (nI s3)], M55)) rfl rfl rfl ?_
                refine ps_st (S' := (243, [(11, .int (-1)), (0, .ref m0), (2, .int 4), (3, .int (nI x)), (4, .int (nI (by2 f p1))), (5, .int (nI p)), (6, .int (nI s3)), (7, .int (nI i)), (8, .int (nI (by4 f (p + 2)))), (10, .int (nI w))], [.int (nI w), .int 1, .int (nI s3)], M55)) rfl rfl rfl ?_
                refine ps_st (S' := (244, [(11, .int (-1)), (0, .ref m0), (2, .int 4), (3, .int (nI x)), (4, .int (nI (by2 f p1))), (5, .int (nI p)), (6, .int (nI s3)), (7, .int (nI i)), (8, .int (nI (by4 f (p + 2)))), (10, .int (nI w))], [.int (1 <<< ((nI w) &&& 31)), .int (nI s3)], M55)) rfl rfl rfl ?_
                refine ps_st (S' := (245, [(11, .int (-1)), (0, .ref m0), (2, .int 4), (3, .int (nI x)), (4, .int (nI (by2 f p1))), (5, .int (nI p)), (6, .int (nI s3)), (7, .int (nI i)), (8, .int (nI (by4 f (p + 2)))), (10, .int (nI w))], [.int ((nI s3) ||| (1 <<< ((nI w) &&& 31)))], M55)) rfl rfl rfl ?_
                rw [or_k s3 w (by omega)]
                show pl _ _ _ (_, [(11, .int (-1)), (0, .ref m0), (2, .int 4), (3, .int (nI x)), (4, .int (nI (by2 f p1))), (5, .int (nI p)), (6, .int (nI s3)), (7, .int (nI i)), (8, .int (nI (by4 f (p + 2)))), (10, .int (nI w))], [.int (nI (so s3 w))], M55) _
                refine ps_st (S' := (247, [(6, .int (nI (so s3 w))), (11, .int (-1)), (0, .ref m0), (2, .int 4), (3, .int (nI x)), (4, .int (nI (by2 f p1))), (5, .int (nI p)), (7, .int (nI i)), (8, .int (nI (by4 f (p + 2)))), (10, .int (nI w))], [], M55)) rfl rfl rfl ?_
                refine ps_st (S' := (249, [(6, .int (nI (so s3 w))), (11, .int (-1)), (0, .ref m0), (2, .int 4), (3, .int (nI x)), (4, .int (nI (by2 f p1))), (5, .int (nI p)), (7, .int (nI i)), (8, .int (nI (by4 f (p + 2)))), (10, .int (nI w))], [.int (-1)], M55)) rfl rfl rfl ?_
                refine ps_if (S1 := (261, [(0, .ref m0), (2, .int 4), (3, .int (nI x)), (4, .int (nI (by2 f p1))), (5, .int (nI p)), (6, .int (nI (so s3 w))), (7, .int (nI i)), (8, .int (nI (by4 f (p + 2)))), (11, .int (-1))], [], M55)) (S2 := (252, [(6, .int (nI (so s3 w))), (11, .int (-1)), (0, .ref m0), (2, .int 4), (3, .int (nI x)), (4, .int (nI (by2 f p1))), (5, .int (nI p)), (7, .int (nI i)), (8, .int (nI (by4 f (p + 2)))), (10, .int (nI w))], [], M55)) rfl rfl rfl (fun c_249 => ?_) (fun c_249 => ?_)
                rotate_left
                · exact absurd (by decide) (of_decide_eq_false c_249)
                refine ps_st (S' := (263, [(0, .ref m0), (2, .int 4), (3, .int (nI x)), (4, .int (nI (by2 f p1))), (5, .int (nI p)), (6, .int (nI (so s3 w))), (7, .int (nI i)), (8, .int (nI (by4 f (p + 2)))), (11, .int (-1))], [.int (-1)], M55)) rfl rfl rfl ?_
                refine ps_if (S1 := (268, [(0, .ref m0), (2, .int 4), (3, .int (nI x)), (4, .int (nI (by2 f p1))), (5, .int (nI p)), (6, .int (nI (so s3 w))), (7, .int (nI i)), (8, .int (nI (by4 f (p + 2))))], [], M55)) (S2 := (266, [(0, .ref m0), (2, .int 4), (3, .int (nI x)), (4, .int (nI (by2 f p1))), (5, .int (nI p)), (6, .int (nI (so s3 w))), (7, .int (nI i)), (8, .int (nI (by4 f (p + 2)))), (11, .int (-1))], [], M55)) rfl rfl rfl (fun c_263 => ?_) (fun c_263 => ?_)
                · exact absurd (of_decide_eq_true c_263) (by decide)
                refine ps_st (S' := (267, [(0, .ref m0), (2, .int 4), (3, .int (nI x)), (4, .int (nI (by2 f p1))), (5, .int (nI p)), (6, .int (nI (so s3 w))), (7, .int (nI i)), (8, .int (nI (by4 f (p + 2)))), (11, .int (-1))], [.int (-1)], M55)) rfl rfl rfl ?_
                exact ps_ret rfl rfl (Or.inl ⟨e9132, I133, R134, by
                    rw [← hs9, clS_k (i := i) (p := p) (s := s2) hi0 h1 hsm (by omega) hws, if_neg (fun h9 => h9 q233_s), q233_b], rfl, hR135, hEI149, hER150, hi138, hi139⟩)
              · skip
                obtain ⟨I151, R152, q233_s, q233_b, rfl, hR153, hI154, hX155, hi156⟩ := q56
                have hi157 := (hI154 51 (by decide)).trans hi44
                have hi158 := (hI154 52 (by decide)).trans hi45
                have hi159 := (hI154 53 (by decide)).trans hi46
                have hi160 := (hI154 58 (by decide)).trans hi47
                have hi161 := (hI154 66 (by decide)).trans hi42
                have hF_162 := hF_49.mono (cIx hI154 (by decide)) (cRx hX155 (by decide))
                have hY_163 := hY_50.mono (cIx hI154 (by decide)) (cRx hX155 (by decide))
                have hP_164 := hP_51.mono (cIx hI154 (by decide)) (cRx hX155 (by decide))
                have hK_165 := hK_52.mono (cIx hI154 (by decide)) (cRx hX155 (by decide))
                have hEI166 := hEI53.tr hI154 (by decide)
                have hER167 := hER1.tr hX155 (by decide)
                show pl _ _ _ (236, [(0, .ref m0), (2, .int 4), (3, .int (nI x)), (4, .int (nI (by2 f p1))), (5, .int (nI p)), (6, .int (nI s3)), (7, .int (nI i)), (8, .int (nI (by4 f (p + 2)))), (10, .int (nI w))], [.int 0], M55) _
                refine ps_st (S' := (238, [(11, .int 0), (0, .ref m0), (2, .int 4), (3, .int (nI x)), (4, .int (nI (by2 f p1))), (5, .int (nI p)), (6, .int (nI s3)), (7, .int (nI i)), (8, .int (nI (by4 f (p + 2)))), (10, .int (nI w))], [], M55)) rfl rfl rfl ?_
                refine ps_st (S' := (240, [(11, .int 0), (0, .ref m0), (2, .int 4), (3, .int (nI x)), (4, .int (nI (by2 f p1))), (5, .int (nI p)), (6, .int (nI s3)), (7, .int (nI i)), (8, .int (nI (by4 f (p + 2)))), (10, .int (nI w))], [.int (nI s3)], M55)) rfl rfl rfl ?_
                refine ps_st (S' := (241, [(11, .int 0), (0, .ref m0), (2, .int 4), (3, .int (nI x)), (4, .int (nI (by2 f p1))), (5, .int (nI p)), (6, .int (nI s3)), (7, .int (nI i)), (8, .int (nI (by4 f (p + 2)))), (10, .int (nI w))], [.int 1, .int (nI s3)], M55)) rfl rfl rfl ?_
                refine ps_st (S' := (243, [(11, .int 0), (0, .ref m0), (2, .int 4), (3, .int (nI x)), (4, .int (nI (by2 f p1))), (5, .int (nI p)), (6, .int (nI s3)), (7, .int (nI i)), (8, .int (nI (by4 f (p + 2)))), (10, .int (nI w))], [.int (nI w), .int 1, .int (nI s3)], M55)) rfl rfl rfl ?_
                refine ps_st (S' := (244, [(11, .int 0), (0, .ref m0), (2, .int 4), (3, .int (nI x)), (4, .int (nI (by2 f p1))), (5, .int (nI p)), (6, .int (nI s3)), (7, .int (nI i)), (8, .int (nI (by4 f (p + 2)))), (10, .int (nI w))], [.int (1 <<< ((nI w) &&& 31)), .int (nI s3)], M55)) rfl rfl rfl ?_
                refine ps_st (S' := (245, [(11, .int 0), (0, .ref m0), (2, .int 4), (3, .int (nI x)), (4, .int (nI (by2 f p1))), (5, .int (nI p)), (6, .int (nI s3)), (7, .int (nI i)), (8, .int (nI (by4 f (p + 2)))), (10, .int (nI w))], [.int ((nI s3) ||| (1 <<< ((nI w) &&& 31)))], M55)) rfl rfl rfl ?_
                rw [or_k s3 w (by omega)]
                show pl _ _ _ (_, [(11, .int 0), (0, .ref m0), (2, .int 4), (3, .int (nI x)), (4, .int (nI (by2 f p1))), (5, .int (nI p)), (6, .int (nI s3)), (7, .int (nI i)), (8, .int (nI (by4 f (p + 2)))), (10, .int (nI w))], [.int (nI (so s3 w))], M55) _
                refine ps_st (S' := (247, [(6, .int (nI (so s3 w))), (11, .int 0), (0, .ref m0), (2, .int 4), (3, .int (nI x)), (4, .int (nI (by2 f p1))), (5, .int (nI p)), (7, .int (nI i)), (8, .int (nI (by4 f (p + 2)))), (10, .int (nI w))], [], M55)) rfl rfl rfl ?_
                refine ps_st (S' := (249, [(6, .int (nI (so s3 w))), (11, .int 0), (0, .ref m0), (2, .int 4), (3, .int (nI x)), (4, .int (nI (by2 f p1))), (5, .int (nI p)), (7, .int (nI i)), (8, .int (nI (by4 f (p + 2)))), (10, .int (nI w))], [.int 0], M55)) rfl rfl rfl ?_
                refine ps_if (S1 := (261, [(0, .ref m0), (2, .int 4), (3, .int (nI x)), (4, .int (nI (by2 f p1))), (5, .int (nI p)), (6, .int (nI (so s3 w))), (7, .int (nI i)), (8, .int (nI (by4 f (p + 2)))), (11, .int 0)], [], M55)) (S2 := (252, [(6, .int (nI (so s3 w))), (11, .int 0), (0, .ref m0), (2, .int 4), (3, .int (nI x)), (4, .int (nI (by2 f p1))), (5, .int (nI p)), (7, .int (nI i)), (8, .int (nI (by4 f (p + 2)))), (10, .int (nI w))], [], M55)) rfl rfl rfl (fun c_249 => ?_) (fun c_249 => ?_)
                rotate_left
                · exact absurd (by decide) (of_decide_eq_false c_249)
                refine ps_st (S' := (263, [(0, .ref m0), (2, .int 4), (3, .int (nI x)), (4, .int (nI (by2 f p1))), (5, .int (nI p)), (6, .int (nI (so s3 w))), (7, .int (nI i)), (8, .int (nI (by4 f (p + 2)))), (11, .int 0)], [.int 0], M55)) rfl rfl rfl ?_
                refine ps_if (S1 := (268, [(0, .ref m0), (2, .int 4), (3, .int (nI x)), (4, .int (nI (by2 f p1))), (5, .int (nI p)), (6, .int (nI (so s3 w))), (7, .int (nI i)), (8, .int (nI (by4 f (p + 2))))], [], M55)) (S2 := (266, [(0, .ref m0), (2, .int 4), (3, .int (nI x)), (4, .int (nI (by2 f p1))), (5, .int (nI p)), (6, .int (nI (so s3 w))), (7, .int (nI i)), (8, .int (nI (by4 f (p + 2)))), (11, .int 0)], [], M55)) rfl rfl rfl (fun c_263 => ?_) (fun c_263 => ?_)
                rotate_left
                · exact absurd (by decide) (of_decide_eq_false c_263)
                refine ps_st (S' := (270, [(0, .ref m0), (2, .int 4), (3, .int (nI x)), (4, .int (nI (by2 f p1))), (5, .int (nI p)), (6, .int (nI (so s3 w))), (7, .int (nI i)), (8, .int (nI (by4 f (p + 2))))], [.int (nI p)], M55)) rfl rfl rfl ?_
                refine ps_st (S' := (272, [(0, .ref m0), (2, .int 4), (3, .int (nI x)), (4, .int (nI (by2 f p1))), (5, .int (nI p)), (6, .int (nI (so s3 w))), (7, .int (nI i)), (8, .int (nI (by4 f (p + 2))))], [.int 6, .int (nI p)], M55)) rfl rfl rfl ?_
                refine ps_st (S' := (274, [(0, .ref m0), (2, .int 4), (3, .int (nI x)), (4, .int (nI (by2 f p1))), (5, .int (nI p)), (6, .int (nI (so s3 w))), (7, .int (nI i)), (8, .int (nI (by4 f (p + 2))))], [.int (nI (by4 f (p + 2))), .int 6, .int (nI p)], M55)) rfl rfl rfl ?_
                refine ps_st (S' := (275, [(0, .ref m0), (2, .int 4), (3, .int (nI x)), (4, .int (nI (by2 f p1))), (5, .int (nI p)), (6, .int (nI (so s3 w))), (7, .int (nI i)), (8, .int (nI (by4 f (p + 2))))], [.int (6 + (nI (by4 f (p + 2)))), .int (nI p)], M55)) rfl rfl rfl ?_
                rw [nI_add2 (p := 6) (k := by4 f (p + 2)) (x := 6) (y := (nI (by4 f (p + 2)))) rfl rfl (by omega)]
                show pl _ _ _ (_, [(0, .ref m0), (2, .int 4), (3, .int (nI x)), (4, .int (nI (by2 f p1))), (5, .int (nI p)), (6, .int (nI (so s3 w))), (7, .int (nI i)), (8, .int (nI (by4 f (p + 2))))], [.int (nI (6 + by4 f (p + 2))), .int (nI p)], M55) _
                refine ps_st (S' := (276, [(0, .ref m0), (2, .int 4), (3, .int (nI x)), (4, .int (nI (by2 f p1))), (5, .int (nI p)), (6, .int (nI (so s3 w))), (7, .int (nI i)), (8, .int (nI (by4 f (p + 2))))], [.int ((nI p) + (nI (6 + by4 f (p + 2))))], M55)) rfl rfl rfl ?_
                rw [nI_add1 (p := p) (k := 6 + by4 f (p + 2)) (x := (nI (6 + by4 f (p + 2)))) rfl (by omega)]
                rw [show nI (p + (6 + by4 f (p + 2))) = nI (p + 6 + by4 f (p + 2)) from congrArg nI (by omega)]
                show pl _ _ _ (_, [(0, .ref m0), (2, .int 4), (3, .int (nI x)), (4, .int (nI (by2 f p1))), (5, .int (nI p)), (6, .int (nI (so s3 w))), (7, .int (nI i)), (8, .int (nI (by4 f (p + 2))))], [.int (nI (p + 6 + by4 f (p + 2)))], M55) _
                refine ps_st (S' := (278, [(5, .int (nI (p + 6 + by4 f (p + 2)))), (0, .ref m0), (2, .int 4), (3, .int (nI x)), (4, .int (nI (by2 f p1))), (6, .int (nI (so s3 w))), (7, .int (nI i)), (8, .int (nI (by4 f (p + 2))))], [], M55)) rfl rfl rfl ?_
                refine ps_st (S' := (281, [(7, .int ((nI i) + 1)), (5, .int (nI (p + 6 + by4 f (p + 2)))), (0, .ref m0), (2, .int 4), (3, .int (nI x)), (4, .int (nI (by2 f p1))), (6, .int (nI (so s3 w))), (8, .int (nI (by4 f (p + 2))))], [], M55)) rfl rfl rfl ?_
                rw [nI_add1 (p := i) (k := 1) (x := 1) rfl (by omega)]
                show pl _ _ _ (_, [(7, .int (nI (i + 1))), (5, .int (nI (p + 6 + by4 f (p + 2)))), (0, .ref m0), (2, .int 4), (3, .int (nI x)), (4, .int (nI (by2 f p1))), (6, .int (nI (so s3 w))), (8, .int (nI (by4 f (p + 2))))], [], M55) _
                refine ps_st (S' := (18, [(0, .ref m0), (2, .int 4), (3, .int (nI x)), (4, .int (nI (by2 f p1))), (5, .int (nI (p + 6 + by4 f (p + 2)))), (6, .int (nI (so s3 w))), (7, .int (nI (i + 1)))], [], M55)) rfl rfl rfl ?_
                exact ih.1 (i + 1) (p + 6 + by4 f (p + 2)) (so s2 (w + 1)) (so s3 w) (if w = 5 then by2 f (p + 6) else bc) ((nk + 1)) M55 I151 R152 hR153 hEI166 hER167 hi157 hi158 hi159 hi160 hi156 hi161 hF_162 hY_163 hP_164 hK_165 (by omega) (so_lt hl (by omega)) (fun w9 a9 b9 => (by have h9 := hb w9 a9 b9; rw [sb_so, sb_so, h9]; by_cases h8 : w9 = w; rw [if_pos h8, if_pos (by omega)]; rw [if_neg h8, if_neg (by omega)])) (hq7) (by
                    rw [← hs9, clS_k (i := i) (p := p) (s := s2) hi0 h1 hsm (by omega) hws, if_neg (show ¬ ¬ s_fe f (w + 1) (p + 6) (p + 6 + by4 f (p + 2)) = some (p + 6 + by4 f (p + 2)) from fun h9 => h9 q233_s), q233_b])
            · have c_198 : ¬ (¬ (nI (sb s3 w)) = 1) := of_decide_eq_false c_198
              have n_198 : sb s3 w = 1 := (eq_nI (p := sb s3 w) (n := 1) (Nat.lt_trans (sb_lt _ _) (by decide)) (by decide)).mp (Decidable.not_not.mp c_198)
              refine ps_st (S' := (202, [(0, .ref m0), (2, .int 4), (3, .int (nI x)), (4, .int (nI (by2 f p1))), (5, .int (nI p)), (6, .int (nI s3)), (7, .int (nI i)), (8, .int (nI (by4 f (p + 2)))), (10, .int (nI w))], [.ref m0], M39)) rfl rfl rfl ?_
              refine ps_st (S' := (204, [(0, .ref m0), (2, .int 4), (3, .int (nI x)), (4, .int (nI (by2 f p1))), (5, .int (nI p)), (6, .int (nI s3)), (7, .int (nI i)), (8, .int (nI (by4 f (p + 2)))), (10, .int (nI w))], [.int 29, .ref m0], M39)) rfl rfl rfl ?_
              refine ps_st (S' := (206, [(0, .ref m0), (2, .int 4), (3, .int (nI x)), (4, .int (nI (by2 f p1))), (5, .int (nI p)), (6, .int (nI s3)), (7, .int (nI i)), (8, .int (nI (by4 f (p + 2)))), (10, .int (nI w))], [.int (nI p), .int 29, .ref m0], M39)) rfl rfl rfl ?_
              refine pl_call (a := [.ref m0, .int 29, .int (nI p)]) (rest := []) rfl rfl rfl (rd_wrong (x1 := 29) (x2 := (nI p)) hR41) (fun v168 M169 q170 => ?_)
              obtain ⟨I171, R172, rfl, hR173, hI174, hX175, hi176, hi177⟩ := q170
              have hi178 := (hI174 51 (by decide)).trans hi44
              have hi179 := (hI174 52 (by decide)).trans hi45
              have hi180 := (hI174 53 (by decide)).trans hi46
              have hi181 := (hI174 58 (by decide)).trans hi47
              have hi182 := (hI174 71 (by decide)).trans hi48
              have hi183 := (hI174 66 (by decide)).trans hi42
              have hF_184 := hF_49.mono (cIx hI174 (by decide)) (cRx hX175 (by decide))
              have hY_185 := hY_50.mono (cIx hI174 (by decide)) (cRx hX175 (by decide))
              have hP_186 := hP_51.mono (cIx hI174 (by decide)) (cRx hX175 (by decide))
              have hK_187 := hK_52.mono (cIx hI174 (by decide)) (cRx hX175 (by decide))
              have hEI188 := hEI53.tr hI174 (by decide)
              have hER189 := hER1.tr hX175 (by decide)
              show pl _ _ _ (209, [(0, .ref m0), (2, .int 4), (3, .int (nI x)), (4, .int (nI (by2 f p1))), (5, .int (nI p)), (6, .int (nI s3)), (7, .int (nI i)), (8, .int (nI (by4 f (p + 2)))), (10, .int (nI w))], [.int 0], M169) _
              refine ps_st (S' := (210, [(0, .ref m0), (2, .int 4), (3, .int (nI x)), (4, .int (nI (by2 f p1))), (5, .int (nI p)), (6, .int (nI s3)), (7, .int (nI i)), (8, .int (nI (by4 f (p + 2)))), (10, .int (nI w))], [], M169)) rfl rfl rfl ?_
              refine ps_st (S' := (211, [(0, .ref m0), (2, .int 4), (3, .int (nI x)), (4, .int (nI (by2 f p1))), (5, .int (nI p)), (6, .int (nI s3)), (7, .int (nI i)), (8, .int (nI (by4 f (p + 2)))), (10, .int (nI w))], [.int (-1)], M169)) rfl rfl rfl ?_
              exact ps_ret rfl rfl (Or.inl ⟨(29, p), I171, R172, by
                  rw [← hs9, clS_29 (i := i) (p := p) (s := s2) hi0 h1 hsm hw2.1 (by omega)], rfl, hR173, hEI188, hER189, hi176, hi177⟩)
        · have c_86 : ¬ ((nI 10) ≤ (nI k)) := of_decide_eq_false c_86
          have n_86 : ¬ (10 ≤ k) := fun h9 => c_86 ((le_nI (p := 10) (n := k) (by decide) (by omega)).mpr h9)
          refine ps_st (S' := (90, [(0, .ref m0), (2, .int 4), (3, .int (nI x)), (4, .int (nI (by2 f p1))), (5, .int (nI p)), (6, .int (nI s3)), (7, .int (nI i)), (8, .int (nI (by4 f (p + 2)))), (9, .int (nI t)), (10, .int (gI (kb mj 4 (tX f n E (by2 f p)) k))), (11, .int (nI k))], [.ref m0], M1)) rfl rfl rfl ?_
          refine pr_ref (j := 63) (S' := (93, [(0, .ref m0), (2, .int 4), (3, .int (nI x)), (4, .int (nI (by2 f p1))), (5, .int (nI p)), (6, .int (nI s3)), (7, .int (nI i)), (8, .int (nI (by4 f (p + 2)))), (9, .int (nI t)), (10, .int (gI (kb mj 4 (tX f n E (by2 f p)) k))), (11, .int (nI k))], [.ref (q 63)], M1)) rfl hR1 rfl rfl ?_
          refine ps_st (S' := (95, [(0, .ref m0), (2, .int 4), (3, .int (nI x)), (4, .int (nI (by2 f p1))), (5, .int (nI p)), (6, .int (nI s3)), (7, .int (nI i)), (8, .int (nI (by4 f (p + 2)))), (9, .int (nI t)), (10, .int (gI (kb mj 4 (tX f n E (by2 f p)) k))), (11, .int (nI k))], [.int (nI k), .ref (q 63)], M1)) rfl rfl rfl ?_
          have hki_95 := kiN_lt k
          refine pr_ld (a := 63) (j := k) (y := (nI (kiN k))) (S' := (96, [(0, .ref m0), (2, .int 4), (3, .int (nI x)), (4, .int (nI (by2 f p1))), (5, .int (nI p)), (6, .int (nI s3)), (7, .int (nI i)), (8, .int (nI (by4 f (p + 2)))), (9, .int (nI t)), (10, .int (gI (kb mj 4 (tX f n E (by2 f p)) k))), (11, .int (nI k))], [.int (nI (kiN k))], M1)) rfl hR1 rfl (by omega) (fun _ => (hK1 k (by omega)).1) rfl (fun i1_95 => ?_)
          refine ps_st (S' := (97, [(0, .ref m0), (2, .int 4), (3, .int (nI x)), (4, .int (nI (by2 f p1))), (5, .int (nI p)), (6, .int (nI s3)), (7, .int (nI i)), (8, .int (nI (by4 f (p + 2)))), (9, .int (nI t)), (10, .int (gI (kb mj 4 (tX f n E (by2 f p)) k))), (11, .int (nI k))], [.int 4, .int (nI (kiN k))], M1)) rfl rfl rfl ?_
          refine ps_if2 (S1 := (134, [(0, .ref m0), (2, .int 4), (3, .int (nI x)), (4, .int (nI (by2 f p1))), (5, .int (nI p)), (6, .int (nI s3)), (7, .int (nI i)), (8, .int (nI (by4 f (p + 2)))), (9, .int (nI t)), (10, .int (gI (kb mj 4 (tX f n E (by2 f p)) k))), (11, .int (nI k))], [], M1)) (S2 := (100, [(0, .ref m0), (2, .int 4), (3, .int (nI x)), (4, .int (nI (by2 f p1))), (5, .int (nI p)), (6, .int (nI s3)), (7, .int (nI i)), (8, .int (nI (by4 f (p + 2)))), (9, .int (nI t)), (10, .int (gI (kb mj 4 (tX f n E (by2 f p)) k))), (11, .int (nI k))], [], M1)) rfl rfl rfl (fun c_97 => ?_) (fun c_97 => ?_)
          · have c_97 : ¬ (nI (kiN k)) = 4 := of_decide_eq_true c_97
            have n_97 : ¬ (kiN k = 4) := fun h9 => c_97 ((eq_nI (p := kiN k) (n := 4) (Nat.lt_trans (kiN_lt _) (by decide)) (by decide)).mpr h9)
            refine ps_st (S' := (137, [(11, .int ((nI k) + 1)), (0, .ref m0), (2, .int 4), (3, .int (nI x)), (4, .int (nI (by2 f p1))), (5, .int (nI p)), (6, .int (nI s3)), (7, .int (nI i)), (8, .int (nI (by4 f (p + 2)))), (9, .int (nI t)), (10, .int (gI (kb mj 4 (tX f n E (by2 f p)) k)))], [], M1)) rfl rfl rfl ?_
            rw [nI_add1 (p := k) (k := 1) (x := 1) rfl (by omega)]
            show pl _ _ _ (_, [(11, .int (nI (k + 1))), (0, .ref m0), (2, .int 4), (3, .int (nI x)), (4, .int (nI (by2 f p1))), (5, .int (nI p)), (6, .int (nI s3)), (7, .int (nI i)), (8, .int (nI (by4 f (p + 2)))), (9, .int (nI t)), (10, .int (gI (kb mj 4 (tX f n E (by2 f p)) k)))], [], M1) _
            refine ps_st (S' := (79, [(0, .ref m0), (2, .int 4), (3, .int (nI x)), (4, .int (nI (by2 f p1))), (5, .int (nI p)), (6, .int (nI s3)), (7, .int (nI i)), (8, .int (nI (by4 f (p + 2)))), (9, .int (nI t)), (10, .int (gI (kb mj 4 (tX f n E (by2 f p)) k))), (11, .int (nI (k + 1)))], [], M1)) rfl rfl rfl ?_
            have hkb : (gI (kb mj 4 (tX f n E (by2 f p)) k)) = gI (kb mj 4 (tX f n E (by2 f p)) (k + 1)) := by
              conv => rhs; unfold kb
              rw [if_neg (by omega)]
            rw [hkb]
            exact ih.2 (i) (p) (s2) (s3) (k + 1) (t) (bc) (nk) M1 I1 R1 hR1 hEI1 hER1 hl51 hl52 hl53 hl58 hl71 hl66 hF1 hY1 hP1 hK1 (hi0) (hl) (hb) (ha) (hs9) (by omega) (h1) (hsy)
          · have c_97 : ¬ (¬ (nI (kiN k)) = 4) := of_decide_eq_false c_97
            have n_97 : kiN k = 4 := (eq_nI (p := kiN k) (n := 4) (Nat.lt_trans (kiN_lt _) (by decide)) (by decide)).mp (Decidable.not_not.mp c_97)
            refine ps_st (S' := (101, [(0, .ref m0), (2, .int 4), (3, .int (nI x)), (4, .int (nI (by2 f p1))), (5, .int (nI p)), (6, .int (nI s3)), (7, .int (nI i)), (8, .int (nI (by4 f (p + 2)))), (9, .int (nI t)), (10, .int (gI (kb mj 4 (tX f n E (by2 f p)) k))), (11, .int (nI k))], [.ref m0], M1)) rfl rfl rfl ?_
            refine pr_int (j := 53) (S' := (104, [(0, .ref m0), (2, .int 4), (3, .int (nI x)), (4, .int (nI (by2 f p1))), (5, .int (nI p)), (6, .int (nI s3)), (7, .int (nI i)), (8, .int (nI (by4 f (p + 2)))), (9, .int (nI t)), (10, .int (gI (kb mj 4 (tX f n E (by2 f p)) k))), (11, .int (nI k))], [.int (nI mj)], M1)) rfl hR1 rfl hl53 rfl ?_
            refine ps_st (S' := (105, [(0, .ref m0), (2, .int 4), (3, .int (nI x)), (4, .int (nI (by2 f p1))), (5, .int (nI p)), (6, .int (nI s3)), (7, .int (nI i)), (8, .int (nI (by4 f (p + 2)))), (9, .int (nI t)), (10, .int (gI (kb mj 4 (tX f n E (by2 f p)) k))), (11, .int (nI k))], [.ref m0, .int (nI mj)], M1)) rfl rfl rfl ?_
            refine pr_ref (j := 64) (S' := (108, [(0, .ref m0), (2, .int 4), (3, .int (nI x)), (4, .int (nI (by2 f p1))), (5, .int (nI p)), (6, .int (nI s3)), (7, .int (nI i)), (8, .int (nI (by4 f (p + 2)))), (9, .int (nI t)), (10, .int (gI (kb mj 4 (tX f n E (by2 f p)) k))), (11, .int (nI k))], [.ref (q 64), .int (nI mj)], M1)) rfl hR1 rfl rfl ?_
            refine ps_st (S' := (110, [(0, .ref m0), (2, .int 4), (3, .int (nI x)), (4, .int (nI (by2 f p1))), (5, .int (nI p)), (6, .int (nI s3)), (7, .int (nI i)), (8, .int (nI (by4 f (p + 2)))), (9, .int (nI t)), (10, .int (gI (kb mj 4 (tX f n E (by2 f p)) k))), (11, .int (nI k))], [.int (nI k), .ref (q 64), .int (nI mj)], M1)) rfl rfl rfl ?_
            have hkf_110 := kfN_lt k
            refine pr_ld (a := 64) (j := k) (y := (nI (kfN k))) (S' := (111, [(0, .ref m0), (2, .int 4), (3, .int (nI x)), (4, .int (nI (by2 f p1))), (5, .int (nI p)), (6, .int (nI s3)), (7, .int (nI i)), (8, .int (nI (by4 f (p + 2)))), (9, .int (nI t)), (10, .int (gI (kb mj 4 (tX f n E (by2 f p)) k))), (11, .int (nI k))], [.int (nI (kfN k)), .int (nI mj)], M1)) rfl hR1 rfl (by omega) (fun _ => (hK1 k (by omega)).2) rfl (fun i1_110 => ?_)
            refine ps_if2 (S1 := (134, [(0, .ref m0), (2, .int 4), (3, .int (nI x)), (4, .int (nI (by2 f p1))), (5, .int (nI p)), (6, .int (nI s3)), (7, .int (nI i)), (8, .int (nI (by4 f (p + 2)))), (9, .int (nI t)), (10, .int (gI (kb mj 4 (tX f n E (by2 f p)) k))), (11, .int (nI k))], [], M1)) (S2 := (114, [(0, .ref m0), (2, .int 4), (3, .int (nI x)), (4, .int (nI (by2 f p1))), (5, .int (nI p)), (6, .int (nI s3)), (7, .int (nI i)), (8, .int (nI (by4 f (p + 2)))), (9, .int (nI t)), (10, .int (gI (kb mj 4 (tX f n E (by2 f p)) k))), (11, .int (nI k))], [], M1)) rfl rfl rfl (fun c_111 => ?_) (fun c_111 => ?_)
            · have c_111 : (nI mj) < (nI (kfN k)) := of_decide_eq_true c_111
              have n_111 : mj < kfN k := (lt_nI (p := mj) (n := kfN k) (by omega) (Nat.lt_trans (kfN_lt _) (by decide))).mp c_111
              refine ps_st (S' := (137, [(11, .int ((nI k) + 1)), (0, .ref m0), (2, .int 4), (3, .int (nI x)), (4, .int (nI (by2 f p1))), (5, .int (nI p)), (6, .int (nI s3)), (7, .int (nI i)), (8, .int (nI (by4 f (p + 2)))), (9, .int (nI t)), (10, .int (gI (kb mj 4 (tX f n E (by2 f p)) k)))], [], M1)) rfl rfl rfl ?_
              rw [nI_add1 (p := k) (k := 1) (x := 1) rfl (by omega)]
              show pl _ _ _ (_, [(11, .int (nI (k + 1))), (0, .ref m0), (2, .int 4), (3, .int (nI x)), (4, .int (nI (by2 f p1))), (5, .int (nI p)), (6, .int (nI s3)), (7, .int (nI i)), (8, .int (nI (by4 f (p + 2)))), (9, .int (nI t)), (10, .int (gI (kb mj 4 (tX f n E (by2 f p)) k)))], [], M1) _
              refine ps_st (S' := (79, [(0, .ref m0), (2, .int 4), (3, .int (nI x)), (4, .int (nI (by2 f p1))), (5, .int (nI p)), (6, .int (nI s3)), (7, .int (nI i)), (8, .int (nI (by4 f (p + 2)))), (9, .int (nI t)), (10, .int (gI (kb mj 4 (tX f n E (by2 f p)) k))), (11, .int (nI (k + 1)))], [], M1)) rfl rfl rfl ?_
              have hkb : (gI (kb mj 4 (tX f n E (by2 f p)) k)) = gI (kb mj 4 (tX f n E (by2 f p)) (k + 1)) := by
                conv => rhs; unfold kb
                rw [if_neg (by omega)]
              rw [hkb]
              exact ih.2 (i) (p) (s2) (s3) (k + 1) (t) (bc) (nk) M1 I1 R1 hR1 hEI1 hER1 hl51 hl52 hl53 hl58 hl71 hl66 hF1 hY1 hP1 hK1 (hi0) (hl) (hb) (ha) (hs9) (by omega) (h1) (hsy)
            · have c_111 : ¬ ((nI mj) < (nI (kfN k))) := of_decide_eq_false c_111
              have n_111 : ¬ (mj < kfN k) := fun h9 => c_111 ((lt_nI (p := mj) (n := kfN k) (by omega) (Nat.lt_trans (kfN_lt _) (by decide))).mpr h9)
              refine ps_st (S' := (115, [(0, .ref m0), (2, .int 4), (3, .int (nI x)), (4, .int (nI (by2 f p1))), (5, .int (nI p)), (6, .int (nI s3)), (7, .int (nI i)), (8, .int (nI (by4 f (p + 2)))), (9, .int (nI t)), (10, .int (gI (kb mj 4 (tX f n E (by2 f p)) k))), (11, .int (nI k))], [.ref m0], M1)) rfl rfl rfl ?_
              refine ps_st (S' := (117, [(0, .ref m0), (2, .int 4), (3, .int (nI x)), (4, .int (nI (by2 f p1))), (5, .int (nI p)), (6, .int (nI s3)), (7, .int (nI i)), (8, .int (nI (by4 f (p + 2)))), (9, .int (nI t)), (10, .int (gI (kb mj 4 (tX f n E (by2 f p)) k))), (11, .int (nI k))], [.int (nI t), .ref m0], M1)) rfl rfl rfl ?_
              refine ps_st (S' := (118, [(0, .ref m0), (2, .int 4), (3, .int (nI x)), (4, .int (nI (by2 f p1))), (5, .int (nI p)), (6, .int (nI s3)), (7, .int (nI i)), (8, .int (nI (by4 f (p + 2)))), (9, .int (nI t)), (10, .int (gI (kb mj 4 (tX f n E (by2 f p)) k))), (11, .int (nI k))], [.ref m0, .int (nI t), .ref m0], M1)) rfl rfl rfl ?_
              refine pr_ref (j := 62) (S' := (121, [(0, .ref m0), (2, .int 4), (3, .int (nI x)), (4, .int (nI (by2 f p1))), (5, .int (nI p)), (6, .int (nI s3)), (7, .int (nI i)), (8, .int (nI (by4 f (p + 2)))), (9, .int (nI t)), (10, .int (gI (kb mj 4 (tX f n E (by2 f p)) k))), (11, .int (nI k))], [.ref (q 62), .int (nI t), .ref m0], M1)) rfl hR1 rfl rfl ?_
              refine ps_st (S' := (123, [(0, .ref m0), (2, .int 4), (3, .int (nI x)), (4, .int (nI (by2 f p1))), (5, .int (nI p)), (6, .int (nI s3)), (7, .int (nI i)), (8, .int (nI (by4 f (p + 2)))), (9, .int (nI t)), (10, .int (gI (kb mj 4 (tX f n E (by2 f p)) k))), (11, .int (nI k))], [.int (nI k), .ref (q 62), .int (nI t), .ref m0], M1)) rfl rfl rfl ?_
              refine pr_kn (j := k) (S' := (124, [(0, .ref m0), (2, .int 4), (3, .int (nI x)), (4, .int (nI (by2 f p1))), (5, .int (nI p)), (6, .int (nI s3)), (7, .int (nI i)), (8, .int (nI (by4 f (p + 2)))), (9, .int (nI t)), (10, .int (gI (kb mj 4 (tX f n E (by2 f p)) k))), (11, .int (nI k))], [.ref (g.2.1 (15 + k)), .int (nI t), .ref m0], M1)) rfl hR1 (by omega) rfl ?_
              refine pl_call (a := [.ref m0, .int (nI t), .ref (g.2.1 (15 + k))]) (rest := []) rfl rfl rfl (rd_is (tx := tx) (cN := cN) (A := A) (s := t) (l := (tX f n E (by2 f p))) (lk := (15 + k)) hR1 hY1 (hsy) (⟨by omega, by omega⟩)) (fun v190 M191 q192 => ?_)
              obtain ⟨rfl, rfl⟩ := q192
              show pl _ _ _ (127, [(0, .ref m0), (2, .int 4), (3, .int (nI x)), (4, .int (nI (by2 f p1))), (5, .int (nI p)), (6, .int (nI s3)), (7, .int (nI i)), (8, .int (nI (by4 f (p + 2)))), (9, .int (nI t)), (10, .int (gI (kb mj 4 (tX f n E (by2 f p)) k))), (11, .int (nI k))], [.int (nI (eqN (tX f n E (by2 f p)) (ltx (15 + k))))], M1) _
              refine ps_if (S1 := (134, [(0, .ref m0), (2, .int 4), (3, .int (nI x)), (4, .int (nI (by2 f p1))), (5, .int (nI p)), (6, .int (nI s3)), (7, .int (nI i)), (8, .int (nI (by4 f (p + 2)))), (9, .int (nI t)), (10, .int (gI (kb mj 4 (tX f n E (by2 f p)) k))), (11, .int (nI k))], [], M1)) (S2 := (130, [(0, .ref m0), (2, .int 4), (3, .int (nI x)), (4, .int (nI (by2 f p1))), (5, .int (nI p)), (6, .int (nI s3)), (7, .int (nI i)), (8, .int (nI (by4 f (p + 2)))), (9, .int (nI t)), (10, .int (gI (kb mj 4 (tX f n E (by2 f p)) k))), (11, .int (nI k))], [], M1)) rfl rfl rfl (fun c_127 => ?_) (fun c_127 => ?_)
              · have c_127 : (nI (eqN (tX f n E (by2 f p)) (ltx (15 + k)))) = 0 := of_decide_eq_true c_127
                have n_127 : eqN (tX f n E (by2 f p)) (ltx (15 + k)) = 0 := (eq_nI (p := eqN (tX f n E (by2 f p)) (ltx (15 + k))) (n := 0) (Nat.lt_trans (le1_eq _ _) (by decide)) (by decide)).mp c_127
                refine ps_st (S' := (137, [(11, .int ((nI k) + 1)), (0, .ref m0), (2, .int 4), (3, .int (nI x)), (4, .int (nI (by2 f p1))), (5, .int (nI p)), (6, .int (nI s3)), (7, .int (nI i)), (8, .int (nI (by4 f (p + 2)))), (9, .int (nI t)), (10, .int (gI (kb mj 4 (tX f n E (by2 f p)) k)))], [], M1)) rfl rfl rfl ?_
                rw [nI_add1 (p := k) (k := 1) (x := 1) rfl (by omega)]
                show pl _ _ _ (_, [(11, .int (nI (k + 1))), (0, .ref m0), (2, .int 4), (3, .int (nI x)), (4, .int (nI (by2 f p1))), (5, .int (nI p)), (6, .int (nI s3)), (7, .int (nI i)), (8, .int (nI (by4 f (p + 2)))), (9, .int (nI t)), (10, .int (gI (kb mj 4 (tX f n E (by2 f p)) k)))], [], M1) _
                refine ps_st (S' := (79, [(0, .ref m0), (2, .int 4), (3, .int (nI x)), (4, .int (nI (by2 f p1))), (5, .int (nI p)), (6, .int (nI s3)), (7, .int (nI i)), (8, .int (nI (by4 f (p + 2)))), (9, .int (nI t)), (10, .int (gI (kb mj 4 (tX f n E (by2 f p)) k))), (11, .int (nI (k + 1)))], [], M1)) rfl rfl rfl ?_
                have hkb : (gI (kb mj 4 (tX f n E (by2 f p)) k)) = gI (kb mj 4 (tX f n E (by2 f p)) (k + 1)) := by
                  conv => rhs; unfold kb
                  rw [if_neg (by omega)]
                rw [hkb]
                exact ih.2 (i) (p) (s2) (s3) (k + 1) (t) (bc) (nk) M1 I1 R1 hR1 hEI1 hER1 hl51 hl52 hl53 hl58 hl71 hl66 hF1 hY1 hP1 hK1 (hi0) (hl) (hb) (ha) (hs9) (by omega) (h1) (hsy)
              · have c_127 : ¬ ((nI (eqN (tX f n E (by2 f p)) (ltx (15 + k)))) = 0) := of_decide_eq_false c_127
                have n_127 : ¬ (eqN (tX f n E (by2 f p)) (ltx (15 + k)) = 0) := fun h9 => c_127 ((eq_nI (p := eqN (tX f n E (by2 f p)) (ltx (15 + k))) (n := 0) (Nat.lt_trans (le1_eq _ _) (by decide)) (by decide)).mpr h9)
                refine ps_st (S' := (132, [(0, .ref m0), (2, .int 4), (3, .int (nI x)), (4, .int (nI (by2 f p1))), (5, .int (nI p)), (6, .int (nI s3)), (7, .int (nI i)), (8, .int (nI (by4 f (p + 2)))), (9, .int (nI t)), (10, .int (gI (kb mj 4 (tX f n E (by2 f p)) k))), (11, .int (nI k))], [.int (nI k)], M1)) rfl rfl rfl ?_
                refine ps_st (S' := (134, [(0, .ref m0), (2, .int 4), (3, .int (nI x)), (4, .int (nI (by2 f p1))), (5, .int (nI p)), (6, .int (nI s3)), (7, .int (nI i)), (8, .int (nI (by4 f (p + 2)))), (9, .int (nI t)), (10, .int (nI k)), (11, .int (nI k))], [], M1)) rfl rfl rfl ?_
                refine ps_st (S' := (137, [(11, .int ((nI k) + 1)), (0, .ref m0), (2, .int 4), (3, .int (nI x)), (4, .int (nI (by2 f p1))), (5, .int (nI p)), (6, .int (nI s3)), (7, .int (nI i)), (8, .int (nI (by4 f (p + 2)))), (9, .int (nI t)), (10, .int (nI k))], [], M1)) rfl rfl rfl ?_
                rw [nI_add1 (p := k) (k := 1) (x := 1) rfl (by omega)]
                show pl _ _ _ (_, [(11, .int (nI (k + 1))), (0, .ref m0), (2, .int 4), (3, .int (nI x)), (4, .int (nI (by2 f p1))), (5, .int (nI p)), (6, .int (nI s3)), (7, .int (nI i)), (8, .int (nI (by4 f (p + 2)))), (9, .int (nI t)), (10, .int (nI k))], [], M1) _
                refine ps_st (S' := (79, [(0, .ref m0), (2, .int 4), (3, .int (nI x)), (4, .int (nI (by2 f p1))), (5, .int (nI p)), (6, .int (nI s3)), (7, .int (nI i)), (8, .int (nI (by4 f (p + 2)))), (9, .int (nI t)), (10, .int (nI k)), (11, .int (nI (k + 1)))], [], M1)) rfl rfl rfl ?_
                have hkb : (nI k) = gI (kb mj 4 (tX f n E (by2 f p)) (k + 1)) := by
                  conv => rhs; unfold kb
                  rw [if_pos ⟨by omega, by omega, by omega⟩]
                  rfl
                rw [hkb]
                exact ih.2 (i) (p) (s2) (s3) (k + 1) (t) (bc) (nk) M1 I1 R1 hR1 hEI1 hER1 hl51 hl52 hl53 hl58 hl71 hl66 hF1 hY1 hP1 hK1 (hi0) (hl) (hb) (ha) (hs9) (by omega) (h1) (hsy)
  refine ps_st (S' := (1, [(0, .ref m0), (1, .int (nI p1)), (2, .int 4), (3, .int (nI x))], [.ref m0], M)) rfl rfl rfl ?_
  refine ps_st (S' := (2, [(0, .ref m0), (1, .int (nI p1)), (2, .int 4), (3, .int (nI x))], [.int (nI p1), .ref m0], M)) rfl rfl rfl ?_
  refine pl_call (a := [.ref m0, .int (nI p1)]) (rest := []) rfl rfl rfl (rd_u2 (n := n) (f := f) (p := p1) hR hF (by omega)) (fun v193 M194 q195 => ?_)
  obtain ⟨rfl, rfl⟩ := q195
  show pl _ _ _ (5, [(0, .ref m0), (1, .int (nI p1)), (2, .int 4), (3, .int (nI x))], [.int (nI (by2 f p1))], M) _
  have hu_2 := by2_lt f p1
  refine ps_st (S' := (7, [(4, .int (nI (by2 f p1))), (0, .ref m0), (1, .int (nI p1)), (2, .int 4), (3, .int (nI x))], [], M)) rfl rfl rfl ?_
  refine ps_st (S' := (8, [(4, .int (nI (by2 f p1))), (0, .ref m0), (1, .int (nI p1)), (2, .int 4), (3, .int (nI x))], [.int (nI p1)], M)) rfl rfl rfl ?_
  refine ps_st (S' := (9, [(4, .int (nI (by2 f p1))), (0, .ref m0), (1, .int (nI p1)), (2, .int 4), (3, .int (nI x))], [.int 2, .int (nI p1)], M)) rfl rfl rfl ?_
  refine ps_st (S' := (10, [(4, .int (nI (by2 f p1))), (0, .ref m0), (1, .int (nI p1)), (2, .int 4), (3, .int (nI x))], [.int ((nI p1) + 2)], M)) rfl rfl rfl ?_
  rw [nI_add1 (p := p1) (k := 2) (x := 2) rfl (by omega)]
  show pl _ _ _ (_, [(4, .int (nI (by2 f p1))), (0, .ref m0), (1, .int (nI p1)), (2, .int 4), (3, .int (nI x))], [.int (nI (p1 + 2))], M) _
  refine ps_st (S' := (12, [(5, .int (nI (p1 + 2))), (4, .int (nI (by2 f p1))), (0, .ref m0), (1, .int (nI p1)), (2, .int 4), (3, .int (nI x))], [], M)) rfl rfl rfl ?_
  refine ps_st (S' := (13, [(5, .int (nI (p1 + 2))), (4, .int (nI (by2 f p1))), (0, .ref m0), (1, .int (nI p1)), (2, .int 4), (3, .int (nI x))], [.int 0], M)) rfl rfl rfl ?_
  refine ps_st (S' := (15, [(6, .int 0), (5, .int (nI (p1 + 2))), (4, .int (nI (by2 f p1))), (0, .ref m0), (1, .int (nI p1)), (2, .int 4), (3, .int (nI x))], [], M)) rfl rfl rfl ?_
  refine ps_st (S' := (16, [(6, .int 0), (5, .int (nI (p1 + 2))), (4, .int (nI (by2 f p1))), (0, .ref m0), (1, .int (nI p1)), (2, .int 4), (3, .int (nI x))], [.int 0], M)) rfl rfl rfl ?_
  refine ps_st (S' := (18, [(0, .ref m0), (2, .int 4), (3, .int (nI x)), (4, .int (nI (by2 f p1))), (5, .int (nI (p1 + 2))), (6, .int 0), (7, .int 0)], [], M)) rfl rfl rfl ?_
  exact (LL kf).1 (0) (p1 + 2) (0) (0) (0) (nk0) M I R hR hEI hER hi51 hi52 hi53 hi58 hi71 hi66 hF hY hP hK (by omega) (by decide) (fun w _ _ => by rw [sb_0, sb_0]) (hat) (rfl)
end
section
/-! a method's attributes, as the reference checks them (laid by wip/p4/e16.py) -/
def CX (h x : Nat) (I : rI) (R : rR) : Prop := if h = 0 then R 37 x = some (-1) else ∃ c, c < 70000 ∧ R 37 x = some (nI c)
theorem CX.mono {h x : Nat} {I I' : rI} {R R' : rR} (hc : CX h x I R) (hI : ∀ k, k ∈ ([] : List Nat) → I' k = I k) (hR : ∀ k, k ∈ [37] → R' k = R k) : CX h x I' R' := by
  unfold CX
  rw [hR 37 (by decide)]
  exact hc
section MAS
variable {f : Nat → Int32} {n : Nat} {E : List (Nat × Nat)} {mj wa c i p s h w : Nat}
variable (f n E mj wa) in
/-- what a method's attribute of the reference's number w (1: code, 2: exceptions) at p says -/
def mbS (w p : Nat) : (Nat × Nat) ⊕ Nat := if w = 1 then cdS f n E mj wa p 0 else if clA f E (p + 6 + 2) (by2 f (p + 6)) 0 = 0 then .inl (32, p) else .inr 0
theorem caS_any : ∀ {r p s s0 : Nat}, sb s 4 = sb s0 4 → (∀ e, caS f n E mj r p s0 = .inl e → caS f n E mj r p s = .inl e) ∧ (∀ s1, caS f n E mj r p s0 = .inr s1 → ∃ s', caS f n E mj r p s = .inr s' ∧ ∀ j, ¬ j = 4 → sb s' j = sb s j) := by
  intro r
  induction r with
  | zero =>
    intro p s s0 _
    exact ⟨fun e h9 => (by cases h9), fun s1 _ => ⟨s, rfl, fun _ _ => rfl⟩⟩
  | succ r ih =>
    intro p s s0 hs
    have hk : smN4 f n E mj (by2 f p) = 0 ∨ smN4 f n E mj (by2 f p) = 4 := by
      unfold smN4
      split
      · exact Or.inr rfl
      · exact Or.inl rfl
    unfold caS
    by_cases ht : ¬ tg f E (by2 f p) = 1
    · have e1 : ∀ s k, nwS f E s k p = .inl (28, p) := fun s k => by unfold nwS; rw [if_pos ht]
      rw [e1, e1]
      exact ⟨fun e h9 => h9, fun s1 h9 => (by cases h9)⟩
    · rcases hk with hk | hk
      · have e1 : ∀ s, nwS f E s 0 p = .inr s := fun s => by unfold nwS; rw [if_neg ht, if_pos rfl]
        rw [hk, e1, e1]
        exact ih hs
      · by_cases h4 : ¬ sb s 4 = 0
        · have e1 : ∀ s, ¬ sb s 4 = 0 → nwS f E s 4 p = .inl (29, p) := fun s h => by unfold nwS; rw [if_neg ht, if_neg (by decide), if_pos h]
          rw [hk, e1 s h4, e1 s0 (by omega)]
          exact ⟨fun e h9 => h9, fun s1 h9 => (by cases h9)⟩
        · have e1 : ∀ s, ¬ ¬ sb s 4 = 0 → nwS f E s 4 p = .inr (so s 4) := fun s h => by unfold nwS; rw [if_neg ht, if_neg (by decide), if_neg h]
          rw [hk, e1 s h4, e1 s0 (by omega)]
          have h9 := ih (p := p + 6 + by4 f (p + 2)) (s := so s 4) (s0 := so s0 4) (by rw [sb_so, sb_so, if_pos rfl, if_pos rfl])
          refine ⟨h9.1, fun s1 h8 => ?_⟩
          obtain ⟨s', h7, h6⟩ := h9.2 s1 h8
          exact ⟨s', h7, fun j hj => by rw [h6 j hj, sb_so, if_neg hj]⟩
theorem cdS_any (hs : sb s 4 = 0) : (∀ e, cdS f n E mj wa p 0 = .inl e → cdS f n E mj wa p s = .inl e) ∧ (∀ s1, cdS f n E mj wa p 0 = .inr s1 → ∃ s', cdS f n E mj wa p s = .inr s' ∧ ∀ j, ¬ j = 4 → sb s' j = sb s j) := by
  unfold cdS
  split
  · exact ⟨fun e h9 => h9, fun s1 h9 => (by cases h9)⟩
  · split
    · exact ⟨fun e h9 => h9, fun s1 h9 => (by cases h9)⟩
    · split
      · exact ⟨fun e h9 => h9, fun s1 h9 => (by cases h9)⟩
      · exact caS_any (by rw [hs, sb_0])
theorem maS_28 (hi : i < c) (ht : ¬ tg f E (by2 f p) = 1) : maS f n E mj wa (c - i) p s h = .inl (28, p) := by
  rw [maS_st hi, show nwS f E s (mkN f n E (by2 f p)) p = .inl (28, p) by unfold nwS; rw [if_pos ht]]
theorem maS_29 (hi : i < c) (ht : tg f E (by2 f p) = 1) (hk : mkN f n E (by2 f p) = w + 1) (hs : ¬ sb s (w + 1) = 0) : maS f n E mj wa (c - i) p s h = .inl (29, p) := by
  rw [maS_st hi, hk, show nwS f E s (w + 1) p = .inl (29, p) by unfold nwS; rw [if_neg (fun h9 => h9 ht), if_neg (by omega), if_pos hs]]
theorem maS_u (hi : i < c) (ht : tg f E (by2 f p) = 1) (hk : mkN f n E (by2 f p) = 0) : maS f n E mj wa (c - i) p s h = maS f n E mj wa (c - (i + 1)) (p + 6 + by4 f (p + 2)) s h := by
  rw [maS_st hi, hk, show nwS f E s 0 p = .inr s by unfold nwS; rw [if_neg (fun h9 => h9 ht), if_pos rfl]]
  dsimp only
  rw [if_neg (fun h9 => h9.1 rfl), if_neg (by decide), if_neg (fun h9 => absurd h9.1 (by decide))]
theorem nw_k (ht : tg f E (by2 f p) = 1) (hs : sb s (w + 1) = 0) : nwS f E s (w + 1) p = .inr (so s (w + 1)) := by
  unfold nwS
  rw [if_neg (fun h9 => h9 ht), if_neg (by omega), if_neg (fun h9 => h9 hs)]
theorem maS_30 (hi : i < c) (ht : tg f E (by2 f p) = 1) (hk : mkN f n E (by2 f p) = w + 1) (hs : sb s (w + 1) = 0) (hf : ¬ s_fe f (w + 1) (p + 6) (p + 6 + by4 f (p + 2)) = some (p + 6 + by4 f (p + 2))) : maS f n E mj wa (c - i) p s h = .inl (30, p) := by
  rw [maS_st hi, hk, nw_k ht hs]
  dsimp only
  rw [if_pos ⟨by omega, hf⟩]
theorem maS_kb {e : Nat × Nat} (hi : i < c) (ht : tg f E (by2 f p) = 1) (hk : mkN f n E (by2 f p) = w + 1) (hw : w = 1 ∨ w = 2) (hs : sb s (w + 1) = 0) (h4 : sb s 2 = 0 → sb s 4 = 0) (hf : s_fe f (w + 1) (p + 6) (p + 6 + by4 f (p + 2)) = some (p + 6 + by4 f (p + 2))) (hm : mbS f n E mj wa w p = .inl e) : maS f n E mj wa (c - i) p s h = .inl e := by
  rw [maS_st hi, hk, nw_k ht hs]
  dsimp only
  rw [if_neg (fun h9 => h9.2 hf)]
  rcases hw with rfl | rfl
  · unfold mbS at hm
    rw [if_pos rfl] at hm
    rw [if_pos (by decide), (cdS_any (s := so s (1 + 1)) (by rw [sb_so, if_neg (by decide)]; exact h4 hs)).1 e hm]
  · unfold mbS at hm
    rw [if_neg (by decide)] at hm
    split at hm
    · rename_i h9
      cases hm
      rw [if_neg (by decide), if_pos ⟨by decide, h9⟩]
    · cases hm
theorem maS_kg {s1 : Nat} (hi : i < c) (ht : tg f E (by2 f p) = 1) (hk : mkN f n E (by2 f p) = w + 1) (hw : w = 1 ∨ w = 2) (hs : sb s (w + 1) = 0) (h4 : sb s 2 = 0 → sb s 4 = 0) (hf : s_fe f (w + 1) (p + 6) (p + 6 + by4 f (p + 2)) = some (p + 6 + by4 f (p + 2))) (hm : mbS f n E mj wa w p = .inr s1) :
    ∃ s', maS f n E mj wa (c - i) p s h = maS f n E mj wa (c - (i + 1)) (p + 6 + by4 f (p + 2)) s' (if w = 1 then 1 else h) ∧ (∀ j, ¬ j = 4 → sb s' j = sb (so s (w + 1)) j) ∧ (w = 2 → s' = so s 3) := by
  rw [maS_st hi, hk, nw_k ht hs]
  dsimp only
  rw [if_neg (fun h9 => h9.2 hf)]
  rcases hw with rfl | rfl
  · unfold mbS at hm
    rw [if_pos rfl] at hm
    obtain ⟨s', h9, h8⟩ := (cdS_any (s := so s (1 + 1)) (by rw [sb_so, if_neg (by decide)]; exact h4 hs)).2 s1 hm
    refine ⟨s', ?_, h8, fun h7 => absurd h7 (by decide)⟩
    rw [if_pos (by decide), h9, if_pos rfl]
  · unfold mbS at hm
    rw [if_neg (by decide)] at hm
    split at hm
    · cases hm
    · rename_i h9
      refine ⟨so s 3, ?_, fun _ _ => rfl, fun _ => rfl⟩
      rw [if_neg (by decide), if_neg (fun h8 => h9 h8.2), if_neg (by decide)]
theorem mk_b {s3 s4 : Nat} (hw : w = 1 ∨ w = 2) (hb : sb s3 1 = sb s 2 ∧ sb s3 2 = sb s 3 ∧ (sb s 2 = 0 → sb s 4 = 0)) (hf : ∀ j, ¬ j = 4 → sb s4 j = sb (so s (w + 1)) j) (hg : w = 2 → s4 = so s 3) : sb (so s3 w) 1 = sb s4 2 ∧ sb (so s3 w) 2 = sb s4 3 ∧ (sb s4 2 = 0 → sb s4 4 = 0) := by
  rw [hf 2 (by decide), hf 3 (by decide)]
  rcases hw with rfl | rfl
  · rw [sb_so, sb_so, sb_so, sb_so]
    exact ⟨rfl, hb.2.1, fun h9 => absurd h9 (by rw [if_pos rfl]; decide)⟩
  · rw [hg rfl, sb_so, sb_so, sb_so, sb_so, sb_so]
    exact ⟨hb.1, rfl, hb.2.2⟩
end MAS
theorem kb_2 {mj : Nat} {l : List Nat} : kb mj 2 l 10 = if ¬ eqN l (ltx 17) = 0 then some 2 else if ¬ eqN l (ltx 16) = 0 then some 1 else none := by
  simp only [kb, kiN, kfN]
  simp
theorem lt_2 : ltx 1 = ltx 16 ∧ ltx 2 = ltx 17 := by decide +kernel
theorem lt_21 : ¬ ltx 16 = ltx 17 := by decide +kernel
theorem mk_kb {f : Nat → Int32} {n mj x : Nat} {E : List (Nat × Nat)} : (kb mj 2 (tX f n E x) 10 = none ∧ mkN f n E x = 0) ∨ ∃ w, kb mj 2 (tX f n E x) 10 = some w ∧ (w = 1 ∨ w = 2) ∧ mkN f n E x = w + 1 := by
  rw [kb_2]
  unfold mkN
  rw [lt_2.1, lt_2.2]
  generalize tX f n E x = l
  by_cases h1 : l = ltx 16
  · have e1 : eqN l (ltx 16) = 1 := by unfold eqN; rw [if_pos h1]
    have e2 : eqN l (ltx 17) = 0 := by unfold eqN; rw [if_neg (fun h => lt_21 (h1.symm.trans h))]
    rw [e1, e2]
    exact Or.inr ⟨1, rfl, Or.inl rfl, rfl⟩
  · have e1 : eqN l (ltx 16) = 0 := by unfold eqN; rw [if_neg h1]
    rw [e1]
    by_cases h2 : ¬ eqN l (ltx 17) = 0
    · exact Or.inr ⟨2, by rw [if_pos h2], Or.inr rfl, by rw [if_neg (by decide), if_pos h2]⟩
    · exact Or.inl ⟨by rw [if_neg h2, if_neg (by decide)], by rw [if_neg (by decide), if_neg h2]⟩
theorem mk_y {f : Nat → Int32} {n mj x : Nat} {E : List (Nat × Nat)} (h : ¬ (gI (kb mj 2 (tX f n E x) 10) < 0)) : ∃ w, kb mj 2 (tX f n E x) 10 = some w ∧ (w = 1 ∨ w = 2) ∧ mkN f n E x = w + 1 := by
  rcases mk_kb (f := f) (n := n) (E := E) (x := x) (mj := mj) with h9 | h9
  · rw [h9.1] at h
    exact absurd (by decide) h
  · exact h9
theorem mk_n {f : Nat → Int32} {n mj x : Nat} {E : List (Nat × Nat)} (h : gI (kb mj 2 (tX f n E x) 10) < 0) : mkN f n E x = 0 := by
  rcases mk_kb (f := f) (n := n) (E := E) (x := x) (mj := mj) with h9 | ⟨w, h8, h7, h6⟩
  · exact h9.2
  · rw [h8] at h
    exfalso
    have h2 : nI w < nI 0 := h
    have h3 := (lt_nI (p := w) (n := 0) (by omega) (by decide)).mp h2
    omega
set_option maxHeartbeats 1000000 in
theorem rd_attrM {g : xe_G} {m0 : Nat} {q : Nat → Nat} {z : Nat × Nat} {I : rI} {R : rR} {M : mi_H} {n : Nat} {f : Nat → Int32} {tx : List (List Nat)} {cN : Nat} {A : Nat → Nat} {N mj : Nat} {E : List (Nat × Nat)} {p e x s3 w fl ds wa h : Nat} {l : List Nat} {t : Int32} (hR : RS g m0 q z I R M) (hi51 : I 51 = some 0) (hi52 : I 52 = some (nI N)) (hi53 : I 53 = some (nI mj)) (hF : FK n f I R) (hY : SYT tx cN A I R) (hP : RPV f n E tx N I R) (hK : KX I R) (hX : MX fl ds x I R) (hC : CX h x I R) (hEP : EP f n E) (hN : N < 65536) (hmj : mj < 65536) (he : p + 6 ≤ e ∧ e ≤ n) (hs3 : s3 < 2048) (hx : x < 8300) (hdt : ds < tx.length ∧ tx.getD ds [] = l) (hmt : ¬ mthN l = 0) (hf6 : fl < 65536) (hwa : wa = argN l + (if aN fl 8 = 0 then 1 else 0)) (hw : w = 1 ∨ w = 2) : pt (mT g) 177 [.ref m0, .int (nI w), .int t, .int (nI (p + 6)), .int (nI e), .int (nI x), .int (nI s3)] M (fun v M' => (∃  (I' : rI) (R' : rR), (¬ s_fe f (w + 1) (p + 6) e = some e) ∧ v = some (.int 30) ∧ RS g m0 q z I' R' M' ∧ eqI [47, 48] I I' ∧ eqR [37, 38, 39, 40, 41, 42, 44] R R') ∨ (∃ (r : Nat) (I' : rI) (R' : rR), (s_fe f (w + 1) (p + 6) e = some e) ∧ (mbS f n E mj wa w p = .inl (r, p)) ∧ (32 ≤ r ∧ r ≤ 43) ∧ v = some (.int (nI r)) ∧ RS g m0 q z I' R' M' ∧ eqI [47, 48] I I' ∧ eqR [37, 38, 39, 40, 41, 42, 44] R R') ∨ (∃ (e9 : Nat × Nat) (I' : rI) (R' : rR), (s_fe f (w + 1) (p + 6) e = some e) ∧ (mbS f n E mj wa w p = .inl e9) ∧ v = some (.int (-1)) ∧ RS g m0 q z I' R' M' ∧ eqI [47, 48] I I' ∧ eqR [37, 38, 39, 40, 41, 42, 44] R R' ∧ I' 47 = some (nI e9.1) ∧ I' 48 = some (nI e9.2)) ∨ (∃ (s' : Nat) (I' : rI) (R' : rR), (s_fe f (w + 1) (p + 6) e = some e) ∧ (mbS f n E mj wa w p = .inr s') ∧ v = some (.int 0) ∧ RS g m0 q z I' R' M' ∧ eqI [47, 48] I I' ∧ eqR [37, 38, 39, 40, 41, 42, 44] R R' ∧ CX (if w = 1 then 1 else h) x I' R')) := by
  rcases hw with rfl | rfl
  · refine pt.mono (rd_attr1 (w := wa) (s3 := s3) (t := t) hR hi51 hi52 hi53 hF hY hP hK hEP hN hmj he hx hX.1 hX.2 hdt hmt hf6 hwa) (fun v M' h9 => ?_)
    rcases h9 with ⟨I', R', hs, hv, hR', hI', hX'⟩ | ⟨r, I', R', hs, hb, hl, hv, hR', hI', hX'⟩ | ⟨e9, I', R', hs, hb, hv, hR', hI', hX', h47, h48⟩ | ⟨s', I', R', hs, hb, hc, hv, hR', hI', hX'⟩
    · exact Or.inl ⟨I', R', hs, hv, hR', eqI.rf.tr hI' (by decide), eqR.rf.tr hX' (by decide)⟩
    · exact Or.inr (Or.inl ⟨r, I', R', hs, by unfold mbS; rw [if_pos rfl]; exact hb, by omega, hv, hR', eqI.rf.tr hI' (by decide), eqR.rf.tr hX' (by decide)⟩)
    · exact Or.inr (Or.inr (Or.inl ⟨e9, I', R', hs, by unfold mbS; rw [if_pos rfl]; exact hb, hv, hR', eqI.rf.tr hI' (by decide), eqR.rf.tr hX' (by decide), h47, h48⟩))
    · exact Or.inr (Or.inr (Or.inr ⟨s', I', R', hs, by unfold mbS; rw [if_pos rfl]; exact hb, hv, hR', eqI.rf.tr hI' (by decide), eqR.rf.tr hX' (by decide), by (unfold CX; rw [if_pos rfl, if_neg (by decide)]; exact ⟨p + 14, by have := hF.1; omega, hc⟩)⟩))
  · refine pt.mono (rd_attr2 (p0 := p + 6) hR hi51 hi52 hi53 hF hY hP hEP hN hmj he hs3 hx) (fun v M' h9 => ?_)
    rcases h9 with ⟨I', R', hs, hv, hR', hI', hX'⟩ | ⟨I', R', hs, hb, hv, hR', hI', hX'⟩ | ⟨I', R', hs, hb, hv, hR', hI', hX'⟩
    · exact Or.inl ⟨I', R', hs, hv, hR', eqI.rf.tr hI' (by decide), eqR.rf.tr hX' (by decide)⟩
    · exact Or.inr (Or.inl ⟨32, I', R', hs, by unfold mbS; rw [if_neg (by decide), if_pos hb], by decide, hv, hR', eqI.rf.tr hI' (by decide), eqR.rf.tr hX' (by decide)⟩)
    · exact Or.inr (Or.inr (Or.inr ⟨0, I', R', hs, by unfold mbS; rw [if_neg (by decide), if_neg hb], hv, hR', eqI.rf.tr hI' (by decide), eqR.rf.tr hX' (by decide), by (rw [if_neg (by decide)]; exact hC.mono (fun _ h => absurd h (List.not_mem_nil)) (cRx hX' (by decide)))⟩))
set_option maxHeartbeats 4000000 in
theorem rd_checkAttributes2 {g : xe_G} {m0 : Nat} {q : Nat → Nat} {z : Nat × Nat} {I : rI} {R : rR} {M : mi_H} {n : Nat} {f : Nat → Int32} {tx : List (List Nat)} {cN : Nat} {A : Nat → Nat} {N mj : Nat} {E : List (Nat × Nat)} {p1 e x fl ds wa : Nat} {l : List Nat} (hR : RS g m0 q z I R M) (hi51 : I 51 = some 0) (hi52 : I 52 = some (nI N)) (hi53 : I 53 = some (nI mj)) (hF : FK n f I R) (hY : SYT tx cN A I R) (hP : RPV f n E tx N I R) (hK : KX I R) (hX : MX fl ds x I R) (hC : CX 0 x I R) (hEP : EP f n E) (hN : N < 65536) (hmj : mj < 65536) (hin : p1 + 2 ≤ e ∧ e ≤ n) (hat : s_atE f e (by2 f p1) (p1 + 2) = some e) (hx : x < 8300) (hdt : ds < tx.length ∧ tx.getD ds [] = l) (hmt : ¬ mthN l = 0) (hf6 : fl < 65536) (hwa : wa = argN l + (if aN fl 8 = 0 then 1 else 0)) : pt (mT g) 187 [.ref m0, .int (nI p1), .int 2, .int (nI x)] M (fun v M' => (∃ (e9 : Nat × Nat) (I' : rI) (R' : rR), (maS f n E mj wa (by2 f p1) (p1 + 2) 0 0 = .inl e9) ∧ v = some (.int (-1)) ∧ RS g m0 q z I' R' M' ∧ eqI [47, 48] I I' ∧ eqR [37, 38, 39, 40, 41, 42, 43, 44] R R' ∧ I' 47 = some (nI e9.1) ∧ I' 48 = some (nI e9.2)) ∨ (∃ (h9 : Nat) (I' : rI) (R' : rR), (maS f n E mj wa (by2 f p1) (p1 + 2) 0 0 = .inr h9) ∧ v = some (.int (nI e)) ∧ RS g m0 q z I' R' M' ∧ eqI [47, 48] I I' ∧ eqR [37, 38, 39, 40, 41, 42, 43, 44] R R' ∧ CX h9 x I' R')) := by
  refine pt_in (b := mb_187 g) rfl (fun kf => ?_)
  show pl (mT g) kf (mb_187 g).2 (0, [(0, .ref m0), (1, .int (nI p1)), (2, .int 2), (3, .int (nI x))], [], M) _
  have hEI : eqI [47, 48] I I := eqI.rf
  have hER : eqR [37, 38, 39, 40, 41, 42, 43, 44] R R := eqR.rf
  have hn := hF.1
  have LL : ∀ (kf : Nat), (∀ (i p s2 s3 : Nat) (h : Nat) (M1 : mi_H) (I1 : rI) (R1 : rR), (RS g m0 q z I1 R1 M1) → (eqI [47, 48] I I1) → (eqR [37, 38, 39, 40, 41, 42, 43, 44] R R1) → (I1 51 = some 0) → (I1 52 = some (nI N)) → (I1 53 = some (nI mj)) → (FK n f I1 R1) → (SYT tx cN A I1 R1) → (RPV f n E tx N I1 R1) → (KX I1 R1) → (MX fl ds x I1 R1) → (CX h x I1 R1) → (i ≤ by2 f p1) → (s3 < 2048) → (sb s3 1 = sb s2 2 ∧ sb s3 2 = sb s2 3 ∧ (sb s2 2 = 0 → sb s2 4 = 0)) → (s_atE f e (by2 f p1 - i) p = some e) → (maS f n E mj wa (by2 f p1 - i) p s2 h = maS f n E mj wa (by2 f p1) (p1 + 2) 0 0) →  pl (mT g) kf (mb_187 g).2 (18, [(0, .ref m0), (2, .int 2), (3, .int (nI x)), (4, .int (nI (by2 f p1))), (5, .int (nI p)), (6, .int (nI s3)), (7, .int (nI i))], [], M1) (fun v M' => (∃ (e9 : Nat × Nat) (I' : rI) (R' : rR), (maS f n E mj wa (by2 f p1) (p1 + 2) 0 0 = .inl e9) ∧ v = some (.int (-1)) ∧ RS g m0 q z I' R' M' ∧ eqI [47, 48] I I' ∧ eqR [37, 38, 39, 40, 41, 42, 43, 44] R R' ∧ I' 47 = some (nI e9.1) ∧ I' 48 = some (nI e9.2)) ∨ (∃ (h9 : Nat) (I' : rI) (R' : rR), (maS f n E mj wa (by2 f p1) (p1 + 2) 0 0 = .inr h9) ∧ v = some (.int (nI e)) ∧ RS g m0 q z I' R' M' ∧ eqI [47, 48] I I' ∧ eqR [37, 38, 39, 40, 41, 42, 43, 44] R R' ∧ CX h9 x I' R'))) ∧ (∀ (i p s2 s3 k t : Nat) (h : Nat) (M1 : mi_H) (I1 : rI) (R1 : rR), (RS g m0 q z I1 R1 M1) → (eqI [47, 48] I I1) → (eqR [37, 38, 39, 40, 41, 42, 43, 44] R R1) → (I1 51 = some 0) → (I1 52 = some (nI N)) → (I1 53 = some (nI mj)) → (FK n f I1 R1) → (SYT tx cN A I1 R1) → (RPV f n E tx N I1 R1) → (KX I1 R1) → (MX fl ds x I1 R1) → (CX h x I1 R1) → (i < by2 f p1) → (s3 < 2048) → (sb s3 1 = sb s2 2 ∧ sb s3 2 = sb s2 3 ∧ (sb s2 2 = 0 → sb s2 4 = 0)) → (s_atE f e (by2 f p1 - i) p = some e) → (maS f n E mj wa (by2 f p1 - i) p s2 h = maS f n E mj wa (by2 f p1) (p1 + 2) 0 0) → (k ≤ 10) → (tg f E (by2 f p) = 1) → (t < tx.length ∧ tx.getD t [] = tX f n E (by2 f p)) →  pl (mT g) kf (mb_187 g).2 (79, [(0, .ref m0), (2, .int 2), (3, .int (nI x)), (4, .int (nI (by2 f p1))), (5, .int (nI p)), (6, .int (nI s3)), (7, .int (nI i)), (8, .int (nI (by4 f (p + 2)))), (9, .int (nI t)), (10, .int (gI (kb mj 2 (tX f n E (by2 f p)) k))), (11, .int (nI k))], [], M1) (fun v M' => (∃ (e9 : Nat × Nat) (I' : rI) (R' : rR), (maS f n E mj wa (by2 f p1) (p1 + 2) 0 0 = .inl e9) ∧ v = some (.int (-1)) ∧ RS g m0 q z I' R' M' ∧ eqI [47, 48] I I' ∧ eqR [37, 38, 39, 40, 41, 42, 43, 44] R R' ∧ I' 47 = some (nI e9.1) ∧ I' 48 = some (nI e9.2)) ∨ (∃ (h9 : Nat) (I' : rI) (R' : rR), (maS f n E mj wa (by2 f p1) (p1 + 2) 0 0 = .inr h9) ∧ v = some (.int (nI e)) ∧ RS g m0 q z I' R' M' ∧ eqI [47, 48] I I' ∧ eqR [37, 38, 39, 40, 41, 42, 43, 44] R R' ∧ CX h9 x I' R'))) := by
    intro kf
    induction kf with
    | zero => exact ⟨by intros; exact pl_0, by intros; exact pl_0⟩
    | succ kf ih =>
      refine ⟨?_, ?_⟩
      · skip
        intro i p s2 s3 h M1 I1 R1 hR1 hEI1 hER1 hl51 hl52 hl53 hF1 hY1 hP1 hK1 hX1 hC1 hi hl hb ha hs9
        have hn := hF1.1
        have hu9 := by2_lt f p1
        have htl := hY1.1.2.2.1
        refine ps_st1 (S' := (20, [(0, .ref m0), (2, .int 2), (3, .int (nI x)), (4, .int (nI (by2 f p1))), (5, .int (nI p)), (6, .int (nI s3)), (7, .int (nI i))], [.int (nI i)], M1)) rfl rfl rfl ?_
        refine ps_st (S' := (22, [(0, .ref m0), (2, .int 2), (3, .int (nI x)), (4, .int (nI (by2 f p1))), (5, .int (nI p)), (6, .int (nI s3)), (7, .int (nI i))], [.int (nI (by2 f p1)), .int (nI i)], M1)) rfl rfl rfl ?_
        refine ps_if2 (S1 := (284, [(0, .ref m0), (2, .int 2), (3, .int (nI x)), (4, .int (nI (by2 f p1))), (5, .int (nI p)), (6, .int (nI s3)), (7, .int (nI i))], [], M1)) (S2 := (25, [(0, .ref m0), (2, .int 2), (3, .int (nI x)), (4, .int (nI (by2 f p1))), (5, .int (nI p)), (6, .int (nI s3)), (7, .int (nI i))], [], M1)) rfl rfl rfl (fun c_22 => ?_) (fun c_22 => ?_)
        · have c_22 : (nI (by2 f p1)) ≤ (nI i) := of_decide_eq_true c_22
          have n_22 : by2 f p1 ≤ i := (le_nI (p := by2 f p1) (n := i) (Nat.lt_trans (by2_lt _ _) (by decide)) (by omega)).mp c_22
          refine ps_st (S' := (286, [(0, .ref m0), (2, .int 2), (3, .int (nI x)), (4, .int (nI (by2 f p1))), (5, .int (nI p)), (6, .int (nI s3)), (7, .int (nI i))], [.int (nI p)], M1)) rfl rfl rfl ?_
          exact ps_reti rfl (Or.inr ⟨h, I1, R1, by rw [← hs9, show by2 f p1 - i = 0 by omega]; rfl, by rw [show e = p by (rw [show by2 f p1 - i = 0 by omega] at ha; exact (Option.some.inj ha).symm)], hR1, hEI1, hER1, hC1⟩)
        · have c_22 : ¬ ((nI (by2 f p1)) ≤ (nI i)) := of_decide_eq_false c_22
          have n_22 : ¬ (by2 f p1 ≤ i) := fun h9 => c_22 ((le_nI (p := by2 f p1) (n := i) (Nat.lt_trans (by2_lt _ _) (by decide)) (by omega)).mpr h9)
          obtain ⟨hq5, hq6, hq7⟩ := s_atE_in (i := i) (p := p) ha (by omega)
          refine ps_st (S' := (26, [(0, .ref m0), (2, .int 2), (3, .int (nI x)), (4, .int (nI (by2 f p1))), (5, .int (nI p)), (6, .int (nI s3)), (7, .int (nI i))], [.ref m0], M1)) rfl rfl rfl ?_
          refine ps_st (S' := (28, [(0, .ref m0), (2, .int 2), (3, .int (nI x)), (4, .int (nI (by2 f p1))), (5, .int (nI p)), (6, .int (nI s3)), (7, .int (nI i))], [.int (nI p), .ref m0], M1)) rfl rfl rfl ?_
          refine ps_st (S' := (29, [(0, .ref m0), (2, .int 2), (3, .int (nI x)), (4, .int (nI (by2 f p1))), (5, .int (nI p)), (6, .int (nI s3)), (7, .int (nI i))], [.int 2, .int (nI p), .ref m0], M1)) rfl rfl rfl ?_
          refine ps_st (S' := (30, [(0, .ref m0), (2, .int 2), (3, .int (nI x)), (4, .int (nI (by2 f p1))), (5, .int (nI p)), (6, .int (nI s3)), (7, .int (nI i))], [.int ((nI p) + 2), .ref m0], M1)) rfl rfl rfl ?_
          rw [nI_add1 (p := p) (k := 2) (x := 2) rfl (by omega)]
          show pl _ _ _ (_, [(0, .ref m0), (2, .int 2), (3, .int (nI x)), (4, .int (nI (by2 f p1))), (5, .int (nI p)), (6, .int (nI s3)), (7, .int (nI i))], [.int (nI (p + 2)), .ref m0], M1) _
          refine pl_call (a := [.ref m0, .int (nI (p + 2))]) (rest := []) rfl rfl rfl (rd_u4 (n := n) (f := f) (p := (p + 2)) hR1 hF1 (by omega)) (fun v1 M2 q3 => ?_)
          obtain ⟨rfl, rfl⟩ := q3
          show pl _ _ _ (33, [(0, .ref m0), (2, .int 2), (3, .int (nI x)), (4, .int (nI (by2 f p1))), (5, .int (nI p)), (6, .int (nI s3)), (7, .int (nI i))], [.long (nL (by4 f (p + 2)))], M1) _
          have hu_30 := by4_lt f (p + 2)
          refine ps_st (S' := (34, [(0, .ref m0), (2, .int 2), (3, .int (nI x)), (4, .int (nI (by2 f p1))), (5, .int (nI p)), (6, .int (nI s3)), (7, .int (nI i))], [.int (Int64.toInt32 (nL (by4 f (p + 2))))], M1)) rfl rfl rfl ?_
          rw [l2i_nL (p := by4 f (p + 2)) (by omega)]
          show pl _ _ _ (_, [(0, .ref m0), (2, .int 2), (3, .int (nI x)), (4, .int (nI (by2 f p1))), (5, .int (nI p)), (6, .int (nI s3)), (7, .int (nI i))], [.int (nI (by4 f (p + 2)))], M1) _
          refine ps_st (S' := (36, [(8, .int (nI (by4 f (p + 2)))), (0, .ref m0), (2, .int 2), (3, .int (nI x)), (4, .int (nI (by2 f p1))), (5, .int (nI p)), (6, .int (nI s3)), (7, .int (nI i))], [], M1)) rfl rfl rfl ?_
          refine ps_st (S' := (37, [(8, .int (nI (by4 f (p + 2)))), (0, .ref m0), (2, .int 2), (3, .int (nI x)), (4, .int (nI (by2 f p1))), (5, .int (nI p)), (6, .int (nI s3)), (7, .int (nI i))], [.ref m0], M1)) rfl rfl rfl ?_
          refine ps_st (S' := (38, [(8, .int (nI (by4 f (p + 2)))), (0, .ref m0), (2, .int 2), (3, .int (nI x)), (4, .int (nI (by2 f p1))), (5, .int (nI p)), (6, .int (nI s3)), (7, .int (nI i))], [.ref m0, .ref m0], M1)) rfl rfl rfl ?_
          refine ps_st (S' := (40, [(8, .int (nI (by4 f (p + 2)))), (0, .ref m0), (2, .int 2), (3, .int (nI x)), (4, .int (nI (by2 f p1))), (5, .int (nI p)), (6, .int (nI s3)), (7, .int (nI i))], [.int (nI p), .ref m0, .ref m0], M1)) rfl rfl rfl ?_
          refine pl_call (a := [.ref m0, .int (nI p)]) (rest := [.ref m0]) rfl rfl rfl (rd_u2 (n := n) (f := f) (p := p) hR1 hF1 (by omega)) (fun v4 M5 q6 => ?_)
          obtain ⟨rfl, rfl⟩ := q6
          show pl _ _ _ (43, [(8, .int (nI (by4 f (p + 2)))), (0, .ref m0), (2, .int 2), (3, .int (nI x)), (4, .int (nI (by2 f p1))), (5, .int (nI p)), (6, .int (nI s3)), (7, .int (nI i))], [.int (nI (by2 f p)), .ref m0], M1) _
          have hu_40 := by2_lt f p
          refine pl_call (a := [.ref m0, .int (nI (by2 f p))]) (rest := []) rfl rfl rfl (rd_tag (n := n) (f := f) (tx := tx) (cN := cN) (A := A) (N := N) (mj := mj) (E := E) (k := (by2 f p)) hR1 hl51 hl52 hl53 hF1 hY1 hP1 (hEP) (hN) (hmj) (by2_lt _ _)) (fun v7 M8 q9 => ?_)
          obtain ⟨rfl, rfl⟩ := q9
          show pl _ _ _ (46, [(8, .int (nI (by4 f (p + 2)))), (0, .ref m0), (2, .int 2), (3, .int (nI x)), (4, .int (nI (by2 f p1))), (5, .int (nI p)), (6, .int (nI s3)), (7, .int (nI i))], [.int (nI (tg f E (by2 f p)))], M1) _
          have htg_43 := tg_lt f E (by2 f p)
          refine ps_st (S' := (47, [(8, .int (nI (by4 f (p + 2)))), (0, .ref m0), (2, .int 2), (3, .int (nI x)), (4, .int (nI (by2 f p1))), (5, .int (nI p)), (6, .int (nI s3)), (7, .int (nI i))], [.int 1, .int (nI (tg f E (by2 f p)))], M1)) rfl rfl rfl ?_
          refine ps_if2 (S1 := (61, [(8, .int (nI (by4 f (p + 2)))), (0, .ref m0), (2, .int 2), (3, .int (nI x)), (4, .int (nI (by2 f p1))), (5, .int (nI p)), (6, .int (nI s3)), (7, .int (nI i))], [], M1)) (S2 := (50, [(8, .int (nI (by4 f (p + 2)))), (0, .ref m0), (2, .int 2), (3, .int (nI x)), (4, .int (nI (by2 f p1))), (5, .int (nI p)), (6, .int (nI s3)), (7, .int (nI i))], [], M1)) rfl rfl rfl (fun c_47 => ?_) (fun c_47 => ?_)
          · have c_47 : (nI (tg f E (by2 f p))) = 1 := of_decide_eq_true c_47
            have n_47 : tg f E (by2 f p) = 1 := (eq_nI (p := tg f E (by2 f p)) (n := 1) (Nat.lt_trans (tg_lt _ _ _) (by decide)) (by decide)).mp c_47
            refine ps_st (S' := (62, [(8, .int (nI (by4 f (p + 2)))), (0, .ref m0), (2, .int 2), (3, .int (nI x)), (4, .int (nI (by2 f p1))), (5, .int (nI p)), (6, .int (nI s3)), (7, .int (nI i))], [.ref m0], M1)) rfl rfl rfl ?_
            refine ps_st (S' := (63, [(8, .int (nI (by4 f (p + 2)))), (0, .ref m0), (2, .int 2), (3, .int (nI x)), (4, .int (nI (by2 f p1))), (5, .int (nI p)), (6, .int (nI s3)), (7, .int (nI i))], [.ref m0, .ref m0], M1)) rfl rfl rfl ?_
            refine ps_st (S' := (65, [(8, .int (nI (by4 f (p + 2)))), (0, .ref m0), (2, .int 2), (3, .int (nI x)), (4, .int (nI (by2 f p1))), (5, .int (nI p)), (6, .int (nI s3)), (7, .int (nI i))], [.int (nI p), .ref m0, .ref m0], M1)) rfl rfl rfl ?_
            refine pl_call (a := [.ref m0, .int (nI p)]) (rest := [.ref m0]) rfl rfl rfl (rd_u2 (n := n) (f := f) (p := p) hR1 hF1 (by omega)) (fun v10 M11 q12 => ?_)
            obtain ⟨rfl, rfl⟩ := q12
            show pl _ _ _ (68, [(8, .int (nI (by4 f (p + 2)))), (0, .ref m0), (2, .int 2), (3, .int (nI x)), (4, .int (nI (by2 f p1))), (5, .int (nI p)), (6, .int (nI s3)), (7, .int (nI i))], [.int (nI (by2 f p)), .ref m0], M1) _
            have hu_65 := by2_lt f p
            refine pl_call (a := [.ref m0, .int (nI (by2 f p))]) (rest := []) rfl rfl rfl (rd_symOf (n := n) (f := f) (tx := tx) (cN := cN) (A := A) (N := N) (mj := mj) (E := E) (k := (by2 f p)) hR1 hl51 hl52 hl53 hF1 hY1 hP1 (hEP) (hN) (hmj) (by omega)) (fun v13 M14 q15 => ?_)
            obtain ⟨s16, q68_s, rfl, rfl⟩ := q15
            show pl _ _ _ (71, [(8, .int (nI (by4 f (p + 2)))), (0, .ref m0), (2, .int 2), (3, .int (nI x)), (4, .int (nI (by2 f p1))), (5, .int (nI p)), (6, .int (nI s3)), (7, .int (nI i))], [.int (nI s16)], M1) _
            have hsl_68 := q68_s.1
            have htl_68 := hY1.1.2.2.1
            refine ps_st (S' := (73, [(9, .int (nI s16)), (8, .int (nI (by4 f (p + 2)))), (0, .ref m0), (2, .int 2), (3, .int (nI x)), (4, .int (nI (by2 f p1))), (5, .int (nI p)), (6, .int (nI s3)), (7, .int (nI i))], [], M1)) rfl rfl rfl ?_
            refine ps_st (S' := (74, [(9, .int (nI s16)), (8, .int (nI (by4 f (p + 2)))), (0, .ref m0), (2, .int 2), (3, .int (nI x)), (4, .int (nI (by2 f p1))), (5, .int (nI p)), (6, .int (nI s3)), (7, .int (nI i))], [.int (-1)], M1)) rfl rfl rfl ?_
            refine ps_st (S' := (76, [(10, .int (-1)), (9, .int (nI s16)), (8, .int (nI (by4 f (p + 2)))), (0, .ref m0), (2, .int 2), (3, .int (nI x)), (4, .int (nI (by2 f p1))), (5, .int (nI p)), (6, .int (nI s3)), (7, .int (nI i))], [], M1)) rfl rfl rfl ?_
            refine ps_st (S' := (77, [(10, .int (-1)), (9, .int (nI s16)), (8, .int (nI (by4 f (p + 2)))), (0, .ref m0), (2, .int 2), (3, .int (nI x)), (4, .int (nI (by2 f p1))), (5, .int (nI p)), (6, .int (nI s3)), (7, .int (nI i))], [.int 0], M1)) rfl rfl rfl ?_
            refine ps_st (S' := (79, [(0, .ref m0), (2, .int 2), (3, .int (nI x)), (4, .int (nI (by2 f p1))), (5, .int (nI p)), (6, .int (nI s3)), (7, .int (nI i)), (8, .int (nI (by4 f (p + 2)))), (9, .int (nI s16)), (10, .int (-1)), (11, .int 0)], [], M1)) rfl rfl rfl ?_
            exact ih.2 (i) (p) (s2) (s3) (0) (s16) (h) M1 I1 R1 hR1 hEI1 hER1 hl51 hl52 hl53 hF1 hY1 hP1 hK1 hX1 hC1 (by omega) (hl) (hb) (ha) (hs9) (by omega) (by omega) (q68_s)
          · have c_47 : ¬ ((nI (tg f E (by2 f p))) = 1) := of_decide_eq_false c_47
            have n_47 : ¬ (tg f E (by2 f p) = 1) := fun h9 => c_47 ((eq_nI (p := tg f E (by2 f p)) (n := 1) (Nat.lt_trans (tg_lt _ _ _) (by decide)) (by decide)).mpr h9)
            refine ps_st (S' := (51, [(8, .int (nI (by4 f (p + 2)))), (0, .ref m0), (2, .int 2), (3, .int (nI x)), (4, .int (nI (by2 f p1))), (5, .int (nI p)), (6, .int (nI s3)), (7, .int (nI i))], [.ref m0], M1)) rfl rfl rfl ?_
            refine ps_st (S' := (53, [(8, .int (nI (by4 f (p + 2)))), (0, .ref m0), (2, .int 2), (3, .int (nI x)), (4, .int (nI (by2 f p1))), (5, .int (nI p)), (6, .int (nI s3)), (7, .int (nI i))], [.int 28, .ref m0], M1)) rfl rfl rfl ?_
            refine ps_st (S' := (55, [(8, .int (nI (by4 f (p + 2)))), (0, .ref m0), (2, .int 2), (3, .int (nI x)), (4, .int (nI (by2 f p1))), (5, .int (nI p)), (6, .int (nI s3)), (7, .int (nI i))], [.int (nI p), .int 28, .ref m0], M1)) rfl rfl rfl ?_
            refine pl_call (a := [.ref m0, .int 28, .int (nI p)]) (rest := []) rfl rfl rfl (rd_wrong (x1 := 28) (x2 := (nI p)) hR1) (fun v17 M18 q19 => ?_)
            obtain ⟨I20, R21, rfl, hR22, hI23, hX24, hi25, hi26⟩ := q19
            have hi27 := (hI23 51 (by decide)).trans hl51
            have hi28 := (hI23 52 (by decide)).trans hl52
            have hi29 := (hI23 53 (by decide)).trans hl53
            have hF_30 := hF1.mono (cIx hI23 (by decide)) (cRx hX24 (by decide))
            have hY_31 := hY1.mono (cIx hI23 (by decide)) (cRx hX24 (by decide))
            have hP_32 := hP1.mono (cIx hI23 (by decide)) (cRx hX24 (by decide))
            have hK_33 := hK1.mono (cIx hI23 (by decide)) (cRx hX24 (by decide))
            have hX_34 := hX1.mono (cIx hI23 (by decide)) (cRx hX24 (by decide))
            have hC_35 := hC1.mono (cIx hI23 (by decide)) (cRx hX24 (by decide))
            have hEI36 := hEI1.tr hI23 (by decide)
            have hER37 := hER1.tr hX24 (by decide)
            show pl _ _ _ (58, [(8, .int (nI (by4 f (p + 2)))), (0, .ref m0), (2, .int 2), (3, .int (nI x)), (4, .int (nI (by2 f p1))), (5, .int (nI p)), (6, .int (nI s3)), (7, .int (nI i))], [.int 0], M18) _
            refine ps_st (S' := (59, [(8, .int (nI (by4 f (p + 2)))), (0, .ref m0), (2, .int 2), (3, .int (nI x)), (4, .int (nI (by2 f p1))), (5, .int (nI p)), (6, .int (nI s3)), (7, .int (nI i))], [], M18)) rfl rfl rfl ?_
            refine ps_st (S' := (60, [(8, .int (nI (by4 f (p + 2)))), (0, .ref m0), (2, .int 2), (3, .int (nI x)), (4, .int (nI (by2 f p1))), (5, .int (nI p)), (6, .int (nI s3)), (7, .int (nI i))], [.int (-1)], M18)) rfl rfl rfl ?_
            exact ps_ret rfl rfl (Or.inl ⟨(28, p), I20, R21, by
                rw [← hs9, maS_28 (i := i) (p := p) (s := s2) (by omega) (by omega)], rfl, hR22, hEI36, hER37, hi25, hi26⟩)
      · skip
        intro i p s2 s3 k t h M1 I1 R1 hR1 hEI1 hER1 hl51 hl52 hl53 hF1 hY1 hP1 hK1 hX1 hC1 hi0 hl hb ha hs9 hk h1 hsy
        have hn := hF1.1
        have hu9 := by2_lt f p1
        have htl := hY1.1.2.2.1
        obtain ⟨hq5, hq6, hq7⟩ := s_atE_in (i := i) (p := p) ha hi0
        refine ps_st1 (S' := (81, [(0, .ref m0), (2, .int 2), (3, .int (nI x)), (4, .int (nI (by2 f p1))), (5, .int (nI p)), (6, .int (nI s3)), (7, .int (nI i)), (8, .int (nI (by4 f (p + 2)))), (9, .int (nI t)), (10, .int (gI (kb mj 2 (tX f n E (by2 f p)) k))), (11, .int (nI k))], [.int (nI k)], M1)) rfl rfl rfl ?_
        refine ps_st (S' := (82, [(0, .ref m0), (2, .int 2), (3, .int (nI x)), (4, .int (nI (by2 f p1))), (5, .int (nI p)), (6, .int (nI s3)), (7, .int (nI i)), (8, .int (nI (by4 f (p + 2)))), (9, .int (nI t)), (10, .int (gI (kb mj 2 (tX f n E (by2 f p)) k))), (11, .int (nI k))], [.ref m0, .int (nI k)], M1)) rfl rfl rfl ?_
        refine pr_ref (j := 62) (S' := (85, [(0, .ref m0), (2, .int 2), (3, .int (nI x)), (4, .int (nI (by2 f p1))), (5, .int (nI p)), (6, .int (nI s3)), (7, .int (nI i)), (8, .int (nI (by4 f (p + 2)))), (9, .int (nI t)), (10, .int (gI (kb mj 2 (tX f n E (by2 f p)) k))), (11, .int (nI k))], [.ref (q 62), .int (nI k)], M1)) rfl hR1 rfl rfl ?_
        refine pr_knl (S' := (86, [(0, .ref m0), (2, .int 2), (3, .int (nI x)), (4, .int (nI (by2 f p1))), (5, .int (nI p)), (6, .int (nI s3)), (7, .int (nI i)), (8, .int (nI (by4 f (p + 2)))), (9, .int (nI t)), (10, .int (gI (kb mj 2 (tX f n E (by2 f p)) k))), (11, .int (nI k))], [.int (nI 10), .int (nI k)], M1)) rfl hR1 rfl ?_
        refine ps_if2 (S1 := (140, [(0, .ref m0), (2, .int 2), (3, .int (nI x)), (4, .int (nI (by2 f p1))), (5, .int (nI p)), (6, .int (nI s3)), (7, .int (nI i)), (8, .int (nI (by4 f (p + 2)))), (9, .int (nI t)), (10, .int (gI (kb mj 2 (tX f n E (by2 f p)) k))), (11, .int (nI k))], [], M1)) (S2 := (89, [(0, .ref m0), (2, .int 2), (3, .int (nI x)), (4, .int (nI (by2 f p1))), (5, .int (nI p)), (6, .int (nI s3)), (7, .int (nI i)), (8, .int (nI (by4 f (p + 2)))), (9, .int (nI t)), (10, .int (gI (kb mj 2 (tX f n E (by2 f p)) k))), (11, .int (nI k))], [], M1)) rfl rfl rfl (fun c_86 => ?_) (fun c_86 => ?_)
        · have c_86 : (nI 10) ≤ (nI k) := of_decide_eq_true c_86
          have n_86 : 10 ≤ k := (le_nI (p := 10) (n := k) (by decide) (by omega)).mp c_86
          have ek : k = 10 := by omega
          refine ps_st (S' := (142, [(0, .ref m0), (2, .int 2), (3, .int (nI x)), (4, .int (nI (by2 f p1))), (5, .int (nI p)), (6, .int (nI s3)), (7, .int (nI i)), (8, .int (nI (by4 f (p + 2)))), (9, .int (nI t)), (10, .int (gI (kb mj 2 (tX f n E (by2 f p)) k))), (11, .int (nI k))], [.int (gI (kb mj 2 (tX f n E (by2 f p)) k))], M1)) rfl rfl rfl ?_
          refine ps_if (S1 := (268, [(0, .ref m0), (2, .int 2), (3, .int (nI x)), (4, .int (nI (by2 f p1))), (5, .int (nI p)), (6, .int (nI s3)), (7, .int (nI i)), (8, .int (nI (by4 f (p + 2))))], [], M1)) (S2 := (145, [(0, .ref m0), (2, .int 2), (3, .int (nI x)), (4, .int (nI (by2 f p1))), (5, .int (nI p)), (6, .int (nI s3)), (7, .int (nI i)), (8, .int (nI (by4 f (p + 2)))), (9, .int (nI t)), (10, .int (gI (kb mj 2 (tX f n E (by2 f p)) k))), (11, .int (nI k))], [], M1)) rfl rfl rfl (fun c_142 => ?_) (fun c_142 => ?_)
          · have c_142 : (gI (kb mj 2 (tX f n E (by2 f p)) k)) < 0 := of_decide_eq_true c_142
            rw [ek] at c_142
            have hsm := mk_n c_142
            refine ps_st (S' := (270, [(0, .ref m0), (2, .int 2), (3, .int (nI x)), (4, .int (nI (by2 f p1))), (5, .int (nI p)), (6, .int (nI s3)), (7, .int (nI i)), (8, .int (nI (by4 f (p + 2))))], [.int (nI p)], M1)) rfl rfl rfl ?_
            refine ps_st (S' := (272, [(0, .ref m0), (2, .int 2), (3, .int (nI x)), (4, .int (nI (by2 f p1))), (5, .int (nI p)), (6, .int (nI s3)), (7, .int (nI i)), (8, .int (nI (by4 f (p + 2))))], [.int 6, .int (nI p)], M1)) rfl rfl rfl ?_
            refine ps_st (S' := (274, [(0, .ref m0), (2, .int 2), (3, .int (nI x)), (4, .int (nI (by2 f p1))), (5, .int (nI p)), (6, .int (nI s3)), (7, .int (nI i)), (8, .int (nI (by4 f (p + 2))))], [.int (nI (by4 f (p + 2))), .int 6, .int (nI p)], M1)) rfl rfl rfl ?_
            refine ps_st (S' := (275, [(0, .ref m0), (2, .int 2), (3, .int (nI x)), (4, .int (nI (by2 f p1))), (5, .int (nI p)), (6, .int (nI s3)), (7, .int (nI i)), (8, .int (nI (by4 f (p + 2))))], [.int (6 + (nI (by4 f (p + 2)))), .int (nI p)], M1)) rfl rfl rfl ?_
            rw [nI_add2 (p := 6) (k := by4 f (p + 2)) (x := 6) (y := (nI (by4 f (p + 2)))) rfl rfl (by omega)]
            show pl _ _ _ (_, [(0, .ref m0), (2, .int 2), (3, .int (nI x)), (4, .int (nI (by2 f p1))), (5, .int (nI p)), (6, .int (nI s3)), (7, .int (nI i)), (8, .int (nI (by4 f (p + 2))))], [.int (nI (6 + by4 f (p + 2))), .int (nI p)], M1) _
            refine ps_st (S' := (276, [(0, .ref m0), (2, .int 2), (3, .int (nI x)), (4, .int (nI (by2 f p1))), (5, .int (nI p)), (6, .int (nI s3)), (7, .int (nI i)), (8, .int (nI (by4 f (p + 2))))], [.int ((nI p) + (nI (6 + by4 f (p + 2))))], M1)) rfl rfl rfl ?_
            rw [nI_add1 (p := p) (k := 6 + by4 f (p + 2)) (x := (nI (6 + by4 f (p + 2)))) rfl (by omega)]
            rw [show nI (p + (6 + by4 f (p + 2))) = nI (p + 6 + by4 f (p + 2)) from congrArg nI (by omega)]
            show pl _ _ _ (_, [(0, .ref m0), (2, .int 2), (3, .int (nI x)), (4, .int (nI (by2 f p1))), (5, .int (nI p)), (6, .int (nI s3)), (7, .int (nI i)), (8, .int (nI (by4 f (p + 2))))], [.int (nI (p + 6 + by4 f (p + 2)))], M1) _
            refine ps_st (S' := (278, [(5, .int (nI (p + 6 + by4 f (p + 2)))), (0, .ref m0), (2, .int 2), (3, .int (nI x)), (4, .int (nI (by2 f p1))), (6, .int (nI s3)), (7, .int (nI i)), (8, .int (nI (by4 f (p + 2))))], [], M1)) rfl rfl rfl ?_
            refine ps_st (S' := (281, [(7, .int ((nI i) + 1)), (5, .int (nI (p + 6 + by4 f (p + 2)))), (0, .ref m0), (2, .int 2), (3, .int (nI x)), (4, .int (nI (by2 f p1))), (6, .int (nI s3)), (8, .int (nI (by4 f (p + 2))))], [], M1)) rfl rfl rfl ?_
            rw [nI_add1 (p := i) (k := 1) (x := 1) rfl (by omega)]
            show pl _ _ _ (_, [(7, .int (nI (i + 1))), (5, .int (nI (p + 6 + by4 f (p + 2)))), (0, .ref m0), (2, .int 2), (3, .int (nI x)), (4, .int (nI (by2 f p1))), (6, .int (nI s3)), (8, .int (nI (by4 f (p + 2))))], [], M1) _
            refine ps_st (S' := (18, [(0, .ref m0), (2, .int 2), (3, .int (nI x)), (4, .int (nI (by2 f p1))), (5, .int (nI (p + 6 + by4 f (p + 2)))), (6, .int (nI s3)), (7, .int (nI (i + 1)))], [], M1)) rfl rfl rfl ?_
            exact ih.1 (i + 1) (p + 6 + by4 f (p + 2)) (s2) (s3) (h) M1 I1 R1 hR1 hEI1 hER1 hl51 hl52 hl53 hF1 hY1 hP1 hK1 hX1 hC1 (by omega) (hl) (hb) (hq7) (by
                rw [← hs9, maS_u (i := i) (p := p) (s := s2) hi0 h1 hsm])
          · have c_142 : ¬ ((gI (kb mj 2 (tX f n E (by2 f p)) k)) < 0) := of_decide_eq_false c_142
            rw [ek] at c_142
            obtain ⟨w, hw1, hw2, hsm⟩ := mk_y c_142
            have hws : sb s3 w = sb s2 (w + 1) := by rcases hw2 with rfl | rfl; exact hb.1; exact hb.2.1
            have hb2 := sb_lt s3 w
            rw [show gI (kb mj 2 (tX f n E (by2 f p)) k) = nI w by rw [ek, hw1]; rfl]
            show pl _ _ _ (145, [(0, .ref m0), (2, .int 2), (3, .int (nI x)), (4, .int (nI (by2 f p1))), (5, .int (nI p)), (6, .int (nI s3)), (7, .int (nI i)), (8, .int (nI (by4 f (p + 2)))), (9, .int (nI t)), (10, .int (nI w)), (11, .int (nI k))], [], M1) _
            refine ps_st (S' := (146, [(0, .ref m0), (2, .int 2), (3, .int (nI x)), (4, .int (nI (by2 f p1))), (5, .int (nI p)), (6, .int (nI s3)), (7, .int (nI i)), (8, .int (nI (by4 f (p + 2)))), (9, .int (nI t)), (10, .int (nI w)), (11, .int (nI k))], [.int 2], M1)) rfl rfl rfl ?_
            refine ps_st (S' := (147, [(0, .ref m0), (2, .int 2), (3, .int (nI x)), (4, .int (nI (by2 f p1))), (5, .int (nI p)), (6, .int (nI s3)), (7, .int (nI i)), (8, .int (nI (by4 f (p + 2)))), (9, .int (nI t)), (10, .int (nI w)), (11, .int (nI k))], [.int 1, .int 2], M1)) rfl rfl rfl ?_
            refine ps_if2 (S1 := (160, [(0, .ref m0), (2, .int 2), (3, .int (nI x)), (4, .int (nI (by2 f p1))), (5, .int (nI p)), (6, .int (nI s3)), (7, .int (nI i)), (8, .int (nI (by4 f (p + 2)))), (10, .int (nI w))], [], M1)) (S2 := (150, [(0, .ref m0), (2, .int 2), (3, .int (nI x)), (4, .int (nI (by2 f p1))), (5, .int (nI p)), (6, .int (nI s3)), (7, .int (nI i)), (8, .int (nI (by4 f (p + 2)))), (9, .int (nI t)), (10, .int (nI w)), (11, .int (nI k))], [], M1)) rfl rfl rfl (fun c_147 => ?_) (fun c_147 => ?_)
            rotate_left
            · exact absurd (by decide) (of_decide_eq_false c_147)
            refine ps_st (S' := (161, [(0, .ref m0), (2, .int 2), (3, .int (nI x)), (4, .int (nI (by2 f p1))), (5, .int (nI p)), (6, .int (nI s3)), (7, .int (nI i)), (8, .int (nI (by4 f (p + 2)))), (10, .int (nI w))], [.int 2], M1)) rfl rfl rfl ?_
            refine ps_st (S' := (162, [(0, .ref m0), (2, .int 2), (3, .int (nI x)), (4, .int (nI (by2 f p1))), (5, .int (nI p)), (6, .int (nI s3)), (7, .int (nI i)), (8, .int (nI (by4 f (p + 2)))), (10, .int (nI w))], [.int 2, .int 2], M1)) rfl rfl rfl ?_
            refine ps_if2 (S1 := (175, [(0, .ref m0), (2, .int 2), (3, .int (nI x)), (4, .int (nI (by2 f p1))), (5, .int (nI p)), (6, .int (nI s3)), (7, .int (nI i)), (8, .int (nI (by4 f (p + 2)))), (10, .int (nI w))], [], M1)) (S2 := (165, [(0, .ref m0), (2, .int 2), (3, .int (nI x)), (4, .int (nI (by2 f p1))), (5, .int (nI p)), (6, .int (nI s3)), (7, .int (nI i)), (8, .int (nI (by4 f (p + 2)))), (10, .int (nI w))], [], M1)) rfl rfl rfl (fun c_162 => ?_) (fun c_162 => ?_)
            · exact absurd (of_decide_eq_true c_162) (by decide)
            refine ps_st (S' := (166, [(0, .ref m0), (2, .int 2), (3, .int (nI x)), (4, .int (nI (by2 f p1))), (5, .int (nI p)), (6, .int (nI s3)), (7, .int (nI i)), (8, .int (nI (by4 f (p + 2)))), (10, .int (nI w))], [.ref m0], M1)) rfl rfl rfl ?_
            refine pr_ref (j := 43) (S' := (169, [(0, .ref m0), (2, .int 2), (3, .int (nI x)), (4, .int (nI (by2 f p1))), (5, .int (nI p)), (6, .int (nI s3)), (7, .int (nI i)), (8, .int (nI (by4 f (p + 2)))), (10, .int (nI w))], [.ref (q 43)], M1)) rfl hR1 rfl rfl ?_
            refine ps_st (S' := (170, [(0, .ref m0), (2, .int 2), (3, .int (nI x)), (4, .int (nI (by2 f p1))), (5, .int (nI p)), (6, .int (nI s3)), (7, .int (nI i)), (8, .int (nI (by4 f (p + 2)))), (10, .int (nI w))], [.int (nI x), .ref (q 43)], M1)) rfl rfl rfl ?_
            refine ps_st (S' := (171, [(0, .ref m0), (2, .int 2), (3, .int (nI x)), (4, .int (nI (by2 f p1))), (5, .int (nI p)), (6, .int (nI s3)), (7, .int (nI i)), (8, .int (nI (by4 f (p + 2)))), (10, .int (nI w))], [.int (nI x), .ref (q 43), .int (nI x), .ref (q 43)], M1)) rfl rfl rfl ?_
            refine pr_ldu (a := 43) rfl hR1 rfl (fun y_171 i0_171 i1_171 hy_171 => ?_)
            show pl _ _ _ (172, [(0, .ref m0), (2, .int 2), (3, .int (nI x)), (4, .int (nI (by2 f p1))), (5, .int (nI p)), (6, .int (nI s3)), (7, .int (nI i)), (8, .int (nI (by4 f (p + 2)))), (10, .int (nI w))], [.int y_171, .int (nI x), .ref (q 43)], M1) _
            rw [nI_toNat (by omega)] at i1_171 hy_171
            refine ps_st (S' := (173, [(0, .ref m0), (2, .int 2), (3, .int (nI x)), (4, .int (nI (by2 f p1))), (5, .int (nI p)), (6, .int (nI s3)), (7, .int (nI i)), (8, .int (nI (by4 f (p + 2)))), (10, .int (nI w))], [.int 1, .int y_171, .int (nI x), .ref (q 43)], M1)) rfl rfl rfl ?_
            refine ps_st (S' := (174, [(0, .ref m0), (2, .int 2), (3, .int (nI x)), (4, .int (nI (by2 f p1))), (5, .int (nI p)), (6, .int (nI s3)), (7, .int (nI i)), (8, .int (nI (by4 f (p + 2)))), (10, .int (nI w))], [.int (y_171 + 1), .int (nI x), .ref (q 43)], M1)) rfl rfl rfl ?_
            refine pr_st (a := 43) (j := x) rfl hR1 rfl (by omega) (fun M38 R39 i1_174 hR40 hS41 => ?_)
            have hF_42 := hF1.mono (fun _ _ => rfl) (rRx hS41 (by decide))
            have hY_43 := hY1.mono (fun _ _ => rfl) (rRx hS41 (by decide))
            have hP_44 := hP1.mono (fun _ _ => rfl) (rRx hS41 (by decide))
            have hK_45 := hK1.mono (fun _ _ => rfl) (rRx hS41 (by decide))
            have hX_46 := hX1.mono (fun _ _ => rfl) (rRx hS41 (by decide))
            have hC_47 := hC1.mono (fun _ _ => rfl) (rRx hS41 (by decide))
            have hER48 := hER1.st hS41 (by decide)
            show pl _ _ _ (175, [(0, .ref m0), (2, .int 2), (3, .int (nI x)), (4, .int (nI (by2 f p1))), (5, .int (nI p)), (6, .int (nI s3)), (7, .int (nI i)), (8, .int (nI (by4 f (p + 2)))), (10, .int (nI w))], [], M38) _
            refine ps_st (S' := (176, [(0, .ref m0), (2, .int 2), (3, .int (nI x)), (4, .int (nI (by2 f p1))), (5, .int (nI p)), (6, .int (nI s3)), (7, .int (nI i)), (8, .int (nI (by4 f (p + 2)))), (10, .int (nI w))], [.int 2], M38)) rfl rfl rfl ?_
            refine ps_st (S' := (177, [(0, .ref m0), (2, .int 2), (3, .int (nI x)), (4, .int (nI (by2 f p1))), (5, .int (nI p)), (6, .int (nI s3)), (7, .int (nI i)), (8, .int (nI (by4 f (p + 2)))), (10, .int (nI w))], [.int 4, .int 2], M38)) rfl rfl rfl ?_
            refine ps_if2 (S1 := (190, [(0, .ref m0), (2, .int 2), (3, .int (nI x)), (4, .int (nI (by2 f p1))), (5, .int (nI p)), (6, .int (nI s3)), (7, .int (nI i)), (8, .int (nI (by4 f (p + 2)))), (10, .int (nI w))], [], M38)) (S2 := (180, [(0, .ref m0), (2, .int 2), (3, .int (nI x)), (4, .int (nI (by2 f p1))), (5, .int (nI p)), (6, .int (nI s3)), (7, .int (nI i)), (8, .int (nI (by4 f (p + 2)))), (10, .int (nI w))], [], M38)) rfl rfl rfl (fun c_177 => ?_) (fun c_177 => ?_)
            rotate_left
            · exact absurd (by decide) (of_decide_eq_false c_177)
            refine ps_st (S' := (192, [(0, .ref m0), (2, .int 2), (3, .int (nI x)), (4, .int (nI (by2 f p1))), (5, .int (nI p)), (6, .int (nI s3)), (7, .int (nI i)), (8, .int (nI (by4 f (p + 2)))), (10, .int (nI w))], [.int (nI s3)], M38)) rfl rfl rfl ?_
            refine ps_st (S' := (194, [(0, .ref m0), (2, .int 2), (3, .int (nI x)), (4, .int (nI (by2 f p1))), (5, .int (nI p)), (6, .int (nI s3)), (7, .int (nI i)), (8, .int (nI (by4 f (p + 2)))), (10, .int (nI w))], [.int (nI w), .int (nI s3)], M38)) rfl rfl rfl ?_
            refine ps_st (S' := (195, [(0, .ref m0), (2, .int 2), (3, .int (nI x)), (4, .int (nI (by2 f p1))), (5, .int (nI p)), (6, .int (nI s3)), (7, .int (nI i)), (8, .int (nI (by4 f (p + 2)))), (10, .int (nI w))], [.int ((nI s3) >>> ((nI w) &&& 31))], M38)) rfl rfl rfl ?_
            refine ps_st (S' := (196, [(0, .ref m0), (2, .int 2), (3, .int (nI x)), (4, .int (nI (by2 f p1))), (5, .int (nI p)), (6, .int (nI s3)), (7, .int (nI i)), (8, .int (nI (by4 f (p + 2)))), (10, .int (nI w))], [.int 1, .int ((nI s3) >>> ((nI w) &&& 31))], M38)) rfl rfl rfl ?_
            refine ps_st (S' := (197, [(0, .ref m0), (2, .int 2), (3, .int (nI x)), (4, .int (nI (by2 f p1))), (5, .int (nI p)), (6, .int (nI s3)), (7, .int (nI i)), (8, .int (nI (by4 f (p + 2)))), (10, .int (nI w))], [.int (((nI s3) >>> ((nI w) &&& 31)) &&& 1)], M38)) rfl rfl rfl ?_
            rw [shr_k s3 (by omega) w (by omega)]
            show pl _ _ _ (_, [(0, .ref m0), (2, .int 2), (3, .int (nI x)), (4, .int (nI (by2 f p1))), (5, .int (nI p)), (6, .int (nI s3)), (7, .int (nI i)), (8, .int (nI (by4 f (p + 2)))), (10, .int (nI w))], [.int (nI (sb s3 w))], M38) _
            refine ps_st (S' := (198, [(0, .ref m0), (2, .int 2), (3, .int (nI x)), (4, .int (nI (by2 f p1))), (5, .int (nI p)), (6, .int (nI s3)), (7, .int (nI i)), (8, .int (nI (by4 f (p + 2)))), (10, .int (nI w))], [.int 1, .int (nI (sb s3 w))], M38)) rfl rfl rfl ?_
            refine ps_if2 (S1 := (212, [(0, .ref m0), (2, .int 2), (3, .int (nI x)), (4, .int (nI (by2 f p1))), (5, .int (nI p)), (6, .int (nI s3)), (7, .int (nI i)), (8, .int (nI (by4 f (p + 2)))), (10, .int (nI w))], [], M38)) (S2 := (201, [(0, .ref m0), (2, .int 2), (3, .int (nI x)), (4, .int (nI (by2 f p1))), (5, .int (nI p)), (6, .int (nI s3)), (7, .int (nI i)), (8, .int (nI (by4 f (p + 2)))), (10, .int (nI w))], [], M38)) rfl rfl rfl (fun c_198 => ?_) (fun c_198 => ?_)
            · have c_198 : ¬ (nI (sb s3 w)) = 1 := of_decide_eq_true c_198
              have n_198 : ¬ (sb s3 w = 1) := fun h9 => c_198 ((eq_nI (p := sb s3 w) (n := 1) (Nat.lt_trans (sb_lt _ _) (by decide)) (by decide)).mpr h9)
              refine ps_st (S' := (213, [(0, .ref m0), (2, .int 2), (3, .int (nI x)), (4, .int (nI (by2 f p1))), (5, .int (nI p)), (6, .int (nI s3)), (7, .int (nI i)), (8, .int (nI (by4 f (p + 2)))), (10, .int (nI w))], [.ref m0], M38)) rfl rfl rfl ?_
              refine ps_st (S' := (215, [(0, .ref m0), (2, .int 2), (3, .int (nI x)), (4, .int (nI (by2 f p1))), (5, .int (nI p)), (6, .int (nI s3)), (7, .int (nI i)), (8, .int (nI (by4 f (p + 2)))), (10, .int (nI w))], [.int (nI w), .ref m0], M38)) rfl rfl rfl ?_
              refine ps_st (S' := (217, [(0, .ref m0), (2, .int 2), (3, .int (nI x)), (4, .int (nI (by2 f p1))), (5, .int (nI p)), (6, .int (nI s3)), (7, .int (nI i)), (8, .int (nI (by4 f (p + 2)))), (10, .int (nI w))], [.int (nI p), .int (nI w), .ref m0], M38)) rfl rfl rfl ?_
              refine ps_st (S' := (219, [(0, .ref m0), (2, .int 2), (3, .int (nI x)), (4, .int (nI (by2 f p1))), (5, .int (nI p)), (6, .int (nI s3)), (7, .int (nI i)), (8, .int (nI (by4 f (p + 2)))), (10, .int (nI w))], [.int (nI p), .int (nI p), .int (nI w), .ref m0], M38)) rfl rfl rfl ?_
              refine ps_st (S' := (221, [(0, .ref m0), (2, .int 2), (3, .int (nI x)), (4, .int (nI (by2 f p1))), (5, .int (nI p)), (6, .int (nI s3)), (7, .int (nI i)), (8, .int (nI (by4 f (p + 2)))), (10, .int (nI w))], [.int 6, .int (nI p), .int (nI p), .int (nI w), .ref m0], M38)) rfl rfl rfl ?_
              refine ps_st (S' := (222, [(0, .ref m0), (2, .int 2), (3, .int (nI x)), (4, .int (nI (by2 f p1))), (5, .int (nI p)), (6, .int (nI s3)), (7, .int (nI i)), (8, .int (nI (by4 f (p + 2)))), (10, .int (nI w))], [.int ((nI p) + 6), .int (nI p), .int (nI w), .ref m0], M38)) rfl rfl rfl ?_
              rw [nI_add1 (p := p) (k := 6) (x := 6) rfl (by omega)]
              show pl _ _ _ (_, [(0, .ref m0), (2, .int 2), (3, .int (nI x)), (4, .int (nI (by2 f p1))), (5, .int (nI p)), (6, .int (nI s3)), (7, .int (nI i)), (8, .int (nI (by4 f (p + 2)))), (10, .int (nI w))], [.int (nI (p + 6)), .int (nI p), .int (nI w), .ref m0], M38) _
              refine ps_st (S' := (224, [(0, .ref m0), (2, .int 2), (3, .int (nI x)), (4, .int (nI (by2 f p1))), (5, .int (nI p)), (6, .int (nI s3)), (7, .int (nI i)), (8, .int (nI (by4 f (p + 2)))), (10, .int (nI w))], [.int (nI p), .int (nI (p + 6)), .int (nI p), .int (nI w), .ref m0], M38)) rfl rfl rfl ?_
              refine ps_st (S' := (226, [(0, .ref m0), (2, .int 2), (3, .int (nI x)), (4, .int (nI (by2 f p1))), (5, .int (nI p)), (6, .int (nI s3)), (7, .int (nI i)), (8, .int (nI (by4 f (p + 2)))), (10, .int (nI w))], [.int 6, .int (nI p), .int (nI (p + 6)), .int (nI p), .int (nI w), .ref m0], M38)) rfl rfl rfl ?_
              refine ps_st (S' := (227, [(0, .ref m0), (2, .int 2), (3, .int (nI x)), (4, .int (nI (by2 f p1))), (5, .int (nI p)), (6, .int (nI s3)), (7, .int (nI i)), (8, .int (nI (by4 f (p + 2)))), (10, .int (nI w))], [.int ((nI p) + 6), .int (nI (p + 6)), .int (nI p), .int (nI w), .ref m0], M38)) rfl rfl rfl ?_
              rw [nI_add1 (p := p) (k := 6) (x := 6) rfl (by omega)]
              show pl _ _ _ (_, [(0, .ref m0), (2, .int 2), (3, .int (nI x)), (4, .int (nI (by2 f p1))), (5, .int (nI p)), (6, .int (nI s3)), (7, .int (nI i)), (8, .int (nI (by4 f (p + 2)))), (10, .int (nI w))], [.int (nI (p + 6)), .int (nI (p + 6)), .int (nI p), .int (nI w), .ref m0], M38) _
              refine ps_st (S' := (229, [(0, .ref m0), (2, .int 2), (3, .int (nI x)), (4, .int (nI (by2 f p1))), (5, .int (nI p)), (6, .int (nI s3)), (7, .int (nI i)), (8, .int (nI (by4 f (p + 2)))), (10, .int (nI w))], [.int (nI (by4 f (p + 2))), .int (nI (p + 6)), .int (nI (p + 6)), .int (nI p), .int (nI w), .ref m0], M38)) rfl rfl rfl ?_
              refine ps_st (S' := (230, [(0, .ref m0), (2, .int 2), (3, .int (nI x)), (4, .int (nI (by2 f p1))), (5, .int (nI p)), (6, .int (nI s3)), (7, .int (nI i)), (8, .int (nI (by4 f (p + 2)))), (10, .int (nI w))], [.int ((nI (p + 6)) + (nI (by4 f (p + 2)))), .int (nI (p + 6)), .int (nI p), .int (nI w), .ref m0], M38)) rfl rfl rfl ?_
              rw [nI_add1 (p := p + 6) (k := by4 f (p + 2)) (x := (nI (by4 f (p + 2)))) rfl (by omega)]
              show pl _ _ _ (_, [(0, .ref m0), (2, .int 2), (3, .int (nI x)), (4, .int (nI (by2 f p1))), (5, .int (nI p)), (6, .int (nI s3)), (7, .int (nI i)), (8, .int (nI (by4 f (p + 2)))), (10, .int (nI w))], [.int (nI (p + 6 + by4 f (p + 2))), .int (nI (p + 6)), .int (nI p), .int (nI w), .ref m0], M38) _
              refine ps_st (S' := (231, [(0, .ref m0), (2, .int 2), (3, .int (nI x)), (4, .int (nI (by2 f p1))), (5, .int (nI p)), (6, .int (nI s3)), (7, .int (nI i)), (8, .int (nI (by4 f (p + 2)))), (10, .int (nI w))], [.int (nI x), .int (nI (p + 6 + by4 f (p + 2))), .int (nI (p + 6)), .int (nI p), .int (nI w), .ref m0], M38)) rfl rfl rfl ?_
              refine ps_st (S' := (233, [(0, .ref m0), (2, .int 2), (3, .int (nI x)), (4, .int (nI (by2 f p1))), (5, .int (nI p)), (6, .int (nI s3)), (7, .int (nI i)), (8, .int (nI (by4 f (p + 2)))), (10, .int (nI w))], [.int (nI s3), .int (nI x), .int (nI (p + 6 + by4 f (p + 2))), .int (nI (p + 6)), .int (nI p), .int (nI w), .ref m0], M38)) rfl rfl rfl ?_
              have hs0 : sb s2 (w + 1) = 0 := by omega
              refine pl_call (a := [.ref m0, .int (nI w), .int (nI p), .int (nI (p + 6)), .int (nI (p + 6 + by4 f (p + 2))), .int (nI x), .int (nI s3)]) (rest := []) rfl rfl rfl (rd_attrM (n := n) (f := f) (tx := tx) (cN := cN) (A := A) (N := N) (mj := mj) (E := E) (p := p) (e := (p + 6 + by4 f (p + 2))) (x := x) (s3 := s3) (w := w) (fl := fl) (ds := ds) (wa := wa) (h := h) (l := l) (t := (nI p)) hR40 hl51 hl52 hl53 hF_42 hY_43 hP_44 hK_45 hX_46 hC_47 (hEP) (hN) (hmj) (⟨by omega, by omega⟩) (hl) (hx) (hdt) (hmt) (hf6) (hwa) (hw2)) (fun v49 M50 q51 => ?_)
              rcases q51 with q51 | q51 | q51 | q51
              · skip
                obtain ⟨I52, R53, q233_s, rfl, hR54, hI55, hX56⟩ := q51
                have hi57 := (hI55 51 (by decide)).trans hl51
                have hi58 := (hI55 52 (by decide)).trans hl52
                have hi59 := (hI55 53 (by decide)).trans hl53
                have hF_60 := hF_42.mono (cIx hI55 (by decide)) (cRx hX56 (by decide))
                have hY_61 := hY_43.mono (cIx hI55 (by decide)) (cRx hX56 (by decide))
                have hP_62 := hP_44.mono (cIx hI55 (by decide)) (cRx hX56 (by decide))
                have hK_63 := hK_45.mono (cIx hI55 (by decide)) (cRx hX56 (by decide))
                have hX_64 := hX_46.mono (cIx hI55 (by decide)) (cRx hX56 (by decide))
                have hEI65 := hEI1.tr hI55 (by decide)
                have hER66 := hER48.tr hX56 (by decide)
                show pl _ _ _ (236, [(0, .ref m0), (2, .int 2), (3, .int (nI x)), (4, .int (nI (by2 f p1))), (5, .int (nI p)), (6, .int (nI s3)), (7, .int (nI i)), (8, .int (nI (by4 f (p + 2)))), (10, .int (nI w))], [.int 30], M50) _
                refine ps_st (S' := (238, [(11, .int 30), (0, .ref m0), (2, .int 2), (3, .int (nI x)), (4, .int (nI (by2 f p1))), (5, .int (nI p)), (6, .int (nI s3)), (7, .int (nI i)), (8, .int (nI (by4 f (p + 2)))), (10, .int (nI w))], [], M50)) rfl rfl rfl ?_
                refine ps_st (S' := (240, [(11, .int 30), (0, .ref m0), (2, .int 2), (3, .int (nI x)), (4, .int (nI (by2 f p1))), (5, .int (nI p)), (6, .int (nI s3)), (7, .int (nI i)), (8, .int (nI (by4 f (p + 2)))), (10, .int (nI w))], [.int (nI s3)], M50)) rfl rfl rfl ?_
                refine ps_st (S' := (241, [(11, .int 30), (0, .ref m0), (2, .int 2), (3, .int (nI x)), (4, .int (nI (by2 f p1))), (5, .int (nI p)), (6, .int (nI s3)), (7, .int (nI i)), (8, .int (nI (by4 f (p + 2)))), (10, .int (nI w))], [.int 1, .int (nI s3)], M50)) rfl rfl rfl ?_
                refine ps_st (S' := (243, [(11, .int 30), (0, .ref m0), (2, .int 2), (3, .int (nI x)), (4, .int (nI (by2 f p1))), (5, .int (nI p)), (6, .int (nI s3)), (7, .int (nI i)), (8, .int (nI (by4 f (p + 2)))), (10, .int (nI w))], [.int (nI w), .int 1, .int (nI s3)], M50)) rfl rfl rfl ?_
                refine ps_st (S' := (244, [(11, .int 30), (0, .ref m0), (2, .int 2), (3, .int (nI x)), (4, .int (nI (by2 f p1))), (5, .int (nI p)), (6, .int (nI s3)), (7, .int (nI i)), (8, .int (nI (by4 f (p + 2)))), (10, .int (nI w))], [.int (1 <<< ((nI w) &&& 31)), .int (nI s3)], M50)) rfl rfl rfl ?_
                refine ps_st (S' := (245, [(11, .int 30), (0, .ref m0), (2, .int 2), (3, .int (nI x)), (4, .int (nI (by2 f p1))), (5, .int (nI p)), (6, .int (nI s3)), (7, .int (nI i)), (8, .int (nI (by4 f (p + 2)))), (10, .int (nI w))], [.int ((nI s3) ||| (1 <<< ((nI w) &&& 31)))], M50)) rfl rfl rfl ?_
                rw [or_k s3 w (by omega)]
                show pl _ _ _ (_, [(11, .int 30), (0, .ref m0), (2, .int 2), (3, .int (nI x)), (4, .int (nI (by2 f p1))), (5, .int (nI p)), (6, .int (nI s3)), (7, .int (nI i)), (8, .int (nI (by4 f (p + 2)))), (10, .int (nI w))], [.int (nI (so s3 w))], M50) _
                refine ps_st (S' := (247, [(6, .int (nI (so s3 w))), (11, .int 30), (0, .ref m0), (2, .int 2), (3, .int (nI x)), (4, .int (nI (by2 f p1))), (5, .int (nI p)), (7, .int (nI i)), (8, .int (nI (by4 f (p + 2)))), (10, .int (nI w))], [], M50)) rfl rfl rfl ?_
                refine ps_st (S' := (249, [(6, .int (nI (so s3 w))), (11, .int 30), (0, .ref m0), (2, .int 2), (3, .int (nI x)), (4, .int (nI (by2 f p1))), (5, .int (nI p)), (7, .int (nI i)), (8, .int (nI (by4 f (p + 2)))), (10, .int (nI w))], [.int 30], M50)) rfl rfl rfl ?_
                refine ps_if (S1 := (261, [(0, .ref m0), (2, .int 2), (3, .int (nI x)), (4, .int (nI (by2 f p1))), (5, .int (nI p)), (6, .int (nI (so s3 w))), (7, .int (nI i)), (8, .int (nI (by4 f (p + 2)))), (11, .int 30)], [], M50)) (S2 := (252, [(6, .int (nI (so s3 w))), (11, .int 30), (0, .ref m0), (2, .int 2), (3, .int (nI x)), (4, .int (nI (by2 f p1))), (5, .int (nI p)), (7, .int (nI i)), (8, .int (nI (by4 f (p + 2)))), (10, .int (nI w))], [], M50)) rfl rfl rfl (fun c_249 => ?_) (fun c_249 => ?_)
                · exact absurd (of_decide_eq_true c_249) (by decide)
                refine ps_st (S' := (253, [(6, .int (nI (so s3 w))), (11, .int 30), (0, .ref m0), (2, .int 2), (3, .int (nI x)), (4, .int (nI (by2 f p1))), (5, .int (nI p)), (7, .int (nI i)), (8, .int (nI (by4 f (p + 2)))), (10, .int (nI w))], [.ref m0], M50)) rfl rfl rfl ?_
                refine ps_st (S' := (255, [(6, .int (nI (so s3 w))), (11, .int 30), (0, .ref m0), (2, .int 2), (3, .int (nI x)), (4, .int (nI (by2 f p1))), (5, .int (nI p)), (7, .int (nI i)), (8, .int (nI (by4 f (p + 2)))), (10, .int (nI w))], [.int 30, .ref m0], M50)) rfl rfl rfl ?_
                refine ps_st (S' := (257, [(6, .int (nI (so s3 w))), (11, .int 30), (0, .ref m0), (2, .int 2), (3, .int (nI x)), (4, .int (nI (by2 f p1))), (5, .int (nI p)), (7, .int (nI i)), (8, .int (nI (by4 f (p + 2)))), (10, .int (nI w))], [.int (nI p), .int 30, .ref m0], M50)) rfl rfl rfl ?_
                refine pl_call (a := [.ref m0, .int 30, .int (nI p)]) (rest := []) rfl rfl rfl (rd_wrong (x1 := 30) (x2 := (nI p)) hR54) (fun v67 M68 q69 => ?_)
                obtain ⟨I70, R71, rfl, hR72, hI73, hX74, hi75, hi76⟩ := q69
                have hi77 := (hI73 51 (by decide)).trans hi57
                have hi78 := (hI73 52 (by decide)).trans hi58
                have hi79 := (hI73 53 (by decide)).trans hi59
                have hF_80 := hF_60.mono (cIx hI73 (by decide)) (cRx hX74 (by decide))
                have hY_81 := hY_61.mono (cIx hI73 (by decide)) (cRx hX74 (by decide))
                have hP_82 := hP_62.mono (cIx hI73 (by decide)) (cRx hX74 (by decide))
                have hK_83 := hK_63.mono (cIx hI73 (by decide)) (cRx hX74 (by decide))
                have hX_84 := hX_64.mono (cIx hI73 (by decide)) (cRx hX74 (by decide))
                have hEI85 := hEI65.tr hI73 (by decide)
                have hER86 := hER66.tr hX74 (by decide)
                show pl _ _ _ (260, [(6, .int (nI (so s3 w))), (11, .int 30), (0, .ref m0), (2, .int 2), (3, .int (nI x)), (4, .int (nI (by2 f p1))), (5, .int (nI p)), (7, .int (nI i)), (8, .int (nI (by4 f (p + 2)))), (10, .int (nI w))], [.int 0], M68) _
                refine ps_st (S' := (261, [(0, .ref m0), (2, .int 2), (3, .int (nI x)), (4, .int (nI (by2 f p1))), (5, .int (nI p)), (6, .int (nI (so s3 w))), (7, .int (nI i)), (8, .int (nI (by4 f (p + 2)))), (11, .int 30)], [], M68)) rfl rfl rfl ?_
                refine ps_st (S' := (263, [(0, .ref m0), (2, .int 2), (3, .int (nI x)), (4, .int (nI (by2 f p1))), (5, .int (nI p)), (6, .int (nI (so s3 w))), (7, .int (nI i)), (8, .int (nI (by4 f (p + 2)))), (11, .int 30)], [.int 30], M68)) rfl rfl rfl ?_
                refine ps_if (S1 := (268, [(0, .ref m0), (2, .int 2), (3, .int (nI x)), (4, .int (nI (by2 f p1))), (5, .int (nI p)), (6, .int (nI (so s3 w))), (7, .int (nI i)), (8, .int (nI (by4 f (p + 2))))], [], M68)) (S2 := (266, [(0, .ref m0), (2, .int 2), (3, .int (nI x)), (4, .int (nI (by2 f p1))), (5, .int (nI p)), (6, .int (nI (so s3 w))), (7, .int (nI i)), (8, .int (nI (by4 f (p + 2)))), (11, .int 30)], [], M68)) rfl rfl rfl (fun c_263 => ?_) (fun c_263 => ?_)
                · exact absurd (of_decide_eq_true c_263) (by decide)
                refine ps_st (S' := (267, [(0, .ref m0), (2, .int 2), (3, .int (nI x)), (4, .int (nI (by2 f p1))), (5, .int (nI p)), (6, .int (nI (so s3 w))), (7, .int (nI i)), (8, .int (nI (by4 f (p + 2)))), (11, .int 30)], [.int (-1)], M68)) rfl rfl rfl ?_
                exact ps_ret rfl rfl (Or.inl ⟨(30, p), I70, R71, by
                    rw [← hs9, maS_30 (i := i) (p := p) (s := s2) hi0 h1 hsm hs0 q233_s], rfl, hR72, hEI85, hER86, hi75, hi76⟩)
              · skip
                obtain ⟨r87, I88, R89, q233_s, q233_b, q233_l, rfl, hR90, hI91, hX92⟩ := q51
                have hi93 := (hI91 51 (by decide)).trans hl51
                have hi94 := (hI91 52 (by decide)).trans hl52
                have hi95 := (hI91 53 (by decide)).trans hl53
                have hF_96 := hF_42.mono (cIx hI91 (by decide)) (cRx hX92 (by decide))
                have hY_97 := hY_43.mono (cIx hI91 (by decide)) (cRx hX92 (by decide))
                have hP_98 := hP_44.mono (cIx hI91 (by decide)) (cRx hX92 (by decide))
                have hK_99 := hK_45.mono (cIx hI91 (by decide)) (cRx hX92 (by decide))
                have hX_100 := hX_46.mono (cIx hI91 (by decide)) (cRx hX92 (by decide))
                have hEI101 := hEI1.tr hI91 (by decide)
                have hER102 := hER48.tr hX92 (by decide)
                show pl _ _ _ (236, [(0, .ref m0), (2, .int 2), (3, .int (nI x)), (4, .int (nI (by2 f p1))), (5, .int (nI p)), (6, .int (nI s3)), (7, .int (nI i)), (8, .int (nI (by4 f (p + 2)))), (10, .int (nI w))], [.int (nI r87)], M50) _
                refine ps_st (S' := (238, [(11, .int (nI r87)), (0, .ref m0), (2, .int 2), (3, .int (nI x)), (4, .int (nI (by2 f p1))), (5, .int (nI p)), (6, .int (nI s3)), (7, .int (nI i)), (8, .int (nI (by4 f (p + 2)))), (10, .int (nI w))], [], M50)) rfl rfl rfl ?_
                refine ps_st (S' := (240, [(11, .int (nI r87)), (0, .ref m0), (2, .int 2), (3, .int (nI x)), (4, .int (nI (by2 f p1))), (5, .int (nI p)), (6, .int (nI s3)), (7, .int (nI i)), (8, .int (nI (by4 f (p + 2)))), (10, .int (nI w))], [.int (nI s3)], M50)) rfl rfl rfl ?_
                refine ps_st (S' := (241, [(11, .int (nI r87)), (0, .ref m0), (2, .int 2), (3, .int (nI x)), (4, .int (nI (by2 f p1))), (5, .int (nI p)), (6, .int (nI s3)), (7, .int (nI i)), (8, .int (nI (by4 f (p + 2)))), (10, .int (nI w))], [.int 1, .int (nI s3)], M50)) rfl rfl rfl ?_
                refine ps_st (S' := (243, [(11, .int (nI r87)), (0, .ref m0), (2, .int 2), (3, .int (nI x)), (4, .int (nI (by2 f p1))), (5, .int (nI p)), (6, .int (nI s3)), (7, .int (nI i)), (8, .int (nI (by4 f (p + 2)))), (10, .int (nI w))], [.int (nI w), .int 1, .int (nI s3)], M50)) rfl rfl rfl ?_
                refine ps_st (S' := (244, [(11, .int (nI r87)), (0, .ref m0), (2, .int 2), (3, .int (nI x)), (4, .int (nI (by2 f p1))), (5, .int (nI p)), (6, .int (nI s3)), (7, .int (nI i)), (8, .int (nI (by4 f (p + 2)))), (10, .int (nI w))], [.int (1 <<< ((nI w) &&& 31)), .int (nI s3)], M50)) rfl rfl rfl ?_
                refine ps_st (S' := (245, [(11, .int (nI r87)), (0, .ref m0), (2, .int 2), (3, .int (nI x)), (4, .int (nI (by2 f p1))), (5, .int (nI p)), (6, .int (nI s3)), (7, .int (nI i)), (8, .int (nI (by4 f (p + 2)))), (10, .int (nI w))], [.int ((nI s3) ||| (1 <<< ((nI w) &&& 31)))], M50)) rfl rfl rfl ?_
                rw [or_k s3 w (by omega)]
                show pl _ _ _ (_, [(11, .int (nI r87)), (0, .ref m0), (2, .int 2), (3, .int (nI x)), (4, .int (nI (by2 f p1))), (5, .int (nI p)), (6, .int (nI s3)), (7, .int (nI i)), (8, .int (nI (by4 f (p + 2)))), (10, .int (nI w))], [.int (nI (so s3 w))], M50) _
                refine ps_st (S' := (247, [(6, .int (nI (so s3 w))), (11, .int (nI r87)), (0, .ref m0), (2, .int 2), (3, .int (nI x)), (4, .int (nI (by2 f p1))), (5, .int (nI p)), (7, .int (nI i)), (8, .int (nI (by4 f (p + 2)))), (10, .int (nI w))], [], M50)) rfl rfl rfl ?_
                refine ps_st (S' := (249, [(6, .int (nI (so s3 w))), (11, .int (nI r87)), (0, .ref m0), (2, .int 2), (3, .int (nI x)), (4, .int (nI (by2 f p1))), (5, .int (nI p)), (7, .int (nI i)), (8, .int (nI (by4 f (p + 2)))), (10, .int (nI w))], [.int (nI r87)], M50)) rfl rfl rfl ?_
                refine ps_if (S1 := (261, [(0, .ref m0), (2, .int 2), (3, .int (nI x)), (4, .int (nI (by2 f p1))), (5, .int (nI p)), (6, .int (nI (so s3 w))), (7, .int (nI i)), (8, .int (nI (by4 f (p + 2)))), (11, .int (nI r87))], [], M50)) (S2 := (252, [(6, .int (nI (so s3 w))), (11, .int (nI r87)), (0, .ref m0), (2, .int 2), (3, .int (nI x)), (4, .int (nI (by2 f p1))), (5, .int (nI p)), (7, .int (nI i)), (8, .int (nI (by4 f (p + 2)))), (10, .int (nI w))], [], M50)) rfl rfl rfl (fun c_249 => ?_) (fun c_249 => ?_)
                · exact absurd (of_decide_eq_true c_249) (show ¬ ((nI r87) ≤ 0) from fun h9 => absurd ((le_nI (p := r87) (n := 0) (by omega) (by decide)).mp h9) (by omega))
                refine ps_st (S' := (253, [(6, .int (nI (so s3 w))), (11, .int (nI r87)), (0, .ref m0), (2, .int 2), (3, .int (nI x)), (4, .int (nI (by2 f p1))), (5, .int (nI p)), (7, .int (nI i)), (8, .int (nI (by4 f (p + 2)))), (10, .int (nI w))], [.ref m0], M50)) rfl rfl rfl ?_
                refine ps_st (S' := (255, [(6, .int (nI (so s3 w))), (11, .int (nI r87)), (0, .ref m0), (2, .int 2), (3, .int (nI x)), (4, .int (nI (by2 f p1))), (5, .int (nI p)), (7, .int (nI i)), (8, .int (nI (by4 f (p + 2)))), (10, .int (nI w))], [.int (nI r87), .ref m0], M50)) rfl rfl rfl ?_
                refine ps_st (S' := (257, [(6, .int (nI (so s3 w))), (11, .int (nI r87)), (0, .ref m0), (2, .int 2), (3, .int (nI x)), (4, .int (nI (by2 f p1))), (5, .int (nI p)), (7, .int (nI i)), (8, .int (nI (by4 f (p + 2)))), (10, .int (nI w))], [.int (nI p), .int (nI r87), .ref m0], M50)) rfl rfl rfl ?_
                refine pl_call (a := [.ref m0, .int (nI r87), .int (nI p)]) (rest := []) rfl rfl rfl (rd_wrong (x1 := (nI r87)) (x2 := (nI p)) hR90) (fun v103 M104 q105 => ?_)
                obtain ⟨I106, R107, rfl, hR108, hI109, hX110, hi111, hi112⟩ := q105
                have hi113 := (hI109 51 (by decide)).trans hi93
                have hi114 := (hI109 52 (by decide)).trans hi94
                have hi115 := (hI109 53 (by decide)).trans hi95
                have hF_116 := hF_96.mono (cIx hI109 (by decide)) (cRx hX110 (by decide))
                have hY_117 := hY_97.mono (cIx hI109 (by decide)) (cRx hX110 (by decide))
                have hP_118 := hP_98.mono (cIx hI109 (by decide)) (cRx hX110 (by decide))
                have hK_119 := hK_99.mono (cIx hI109 (by decide)) (cRx hX110 (by decide))
                have hX_120 := hX_100.mono (cIx hI109 (by decide)) (cRx hX110 (by decide))
                have hEI121 := hEI101.tr hI109 (by decide)
                have hER122 := hER102.tr hX110 (by decide)
                show pl _ _ _ (260, [(6, .int (nI (so s3 w))), (11, .int (nI r87)), (0, .ref m0), (2, .int 2), (3, .int (nI x)), (4, .int (nI (by2 f p1))), (5, .int (nI p)), (7, .int (nI i)), (8, .int (nI (by4 f (p + 2)))), (10, .int (nI w))], [.int 0], M104) _
                refine ps_st (S' := (261, [(0, .ref m0), (2, .int 2), (3, .int (nI x)), (4, .int (nI (by2 f p1))), (5, .int (nI p)), (6, .int (nI (so s3 w))), (7, .int (nI i)), (8, .int (nI (by4 f (p + 2)))), (11, .int (nI r87))], [], M104)) rfl rfl rfl ?_
                refine ps_st (S' := (263, [(0, .ref m0), (2, .int 2), (3, .int (nI x)), (4, .int (nI (by2 f p1))), (5, .int (nI p)), (6, .int (nI (so s3 w))), (7, .int (nI i)), (8, .int (nI (by4 f (p + 2)))), (11, .int (nI r87))], [.int (nI r87)], M104)) rfl rfl rfl ?_
                refine ps_if (S1 := (268, [(0, .ref m0), (2, .int 2), (3, .int (nI x)), (4, .int (nI (by2 f p1))), (5, .int (nI p)), (6, .int (nI (so s3 w))), (7, .int (nI i)), (8, .int (nI (by4 f (p + 2))))], [], M104)) (S2 := (266, [(0, .ref m0), (2, .int 2), (3, .int (nI x)), (4, .int (nI (by2 f p1))), (5, .int (nI p)), (6, .int (nI (so s3 w))), (7, .int (nI i)), (8, .int (nI (by4 f (p + 2)))), (11, .int (nI r87))], [], M104)) rfl rfl rfl (fun c_263 => ?_) (fun c_263 => ?_)
                · exact absurd (of_decide_eq_true c_263) (show ¬ ((nI r87) = 0) from fun h9 => absurd ((eq_nI (p := r87) (n := 0) (by omega) (by decide)).mp h9) (by omega))
                refine ps_st (S' := (267, [(0, .ref m0), (2, .int 2), (3, .int (nI x)), (4, .int (nI (by2 f p1))), (5, .int (nI p)), (6, .int (nI (so s3 w))), (7, .int (nI i)), (8, .int (nI (by4 f (p + 2)))), (11, .int (nI r87))], [.int (-1)], M104)) rfl rfl rfl ?_
                exact ps_ret rfl rfl (Or.inl ⟨(r87, p), I106, R107, by
                    rw [← hs9, maS_kb (i := i) (p := p) (s := s2) hi0 h1 hsm hw2 hs0 hb.2.2 q233_s q233_b], rfl, hR108, hEI121, hER122, hi111, hi112⟩)
              · skip
                obtain ⟨e9123, I124, R125, q233_s, q233_b, rfl, hR126, hI127, hX128, hi129, hi130⟩ := q51
                have hi131 := (hI127 51 (by decide)).trans hl51
                have hi132 := (hI127 52 (by decide)).trans hl52
                have hi133 := (hI127 53 (by decide)).trans hl53
                have hF_134 := hF_42.mono (cIx hI127 (by decide)) (cRx hX128 (by decide))
                have hY_135 := hY_43.mono (cIx hI127 (by decide)) (cRx hX128 (by decide))
                have hP_136 := hP_44.mono (cIx hI127 (by decide)) (cRx hX128 (by decide))
                have hK_137 := hK_45.mono (cIx hI127 (by decide)) (cRx hX128 (by decide))
                have hX_138 := hX_46.mono (cIx hI127 (by decide)) (cRx hX128 (by decide))
                have hEI139 := hEI1.tr hI127 (by decide)
                have hER140 := hER48.tr hX128 (by decide)
                show pl _ _ _ (236, [(0, .ref m0), (2, .int 2), (3, .int (nI x)), (4, .int (nI (by2 f p1))), (5, .int (nI p)), (6, .int (nI s3)), (7, .int (nI i)), (8, .int (nI (by4 f (p + 2)))), (10, .int (nI w))], [.int (-1)], M50) _
                refine ps_st (S' := (238, [(11, .int (-1)), (0, .ref m0), (2, .int 2), (3, .int (nI x)), (4, .int (nI (by2 f p1))), (5, .int (nI p)), (6, .int (nI s3)), (7, .int (nI i)), (8, .int (nI (by4 f (p + 2)))), (10, .int (nI w))], [], M50)) rfl rfl rfl ?_
                refine ps_st (S' := (240, [(11, .int (-1)), (0, .ref m0), (2, .int 2), (3, .int (nI x)), (4, .int (nI (by2 f p1))), (5, .int (nI p)), (6, .int (nI s3)), (7, .int (nI i)), (8, .int (nI (by4 f (p + 2)))), (10, .int (nI w))], [.int (nI s3)], M50)) rfl rfl rfl ?_
                refine ps_st (S' := (241, [(11, .int (-1)), (0, .ref m0), (2, .int 2), (3, .int (nI x)), (4, .int (nI (by2 f p1))), (5, .int (nI p)), (6, .int (nI s3)), (7, .int (nI i)), (8, .int (nI (by4 f (p + 2)))), (10, .int (nI w))], [.int 1, .int (nI s3)], M50)) rfl rfl rfl ?_
                refine ps_st (S' := (243, [(11, .int (-1)), (0, .ref m0), (2, .int 2), (3, .int (nI x)), (4, .int (nI (by2 f p1))), (5, .int (nI p)), (6, .int (nI s3)), (7, .int (nI i)), (8, .int (nI (by4 f (p + 2)))), (10, .int (nI w))], [.int (nI w), .int 1, .int (nI s3)], M50)) rfl rfl rfl ?_
                refine ps_st (S' := (244, [(11, .int (-1)), (0, .ref m0), (2, .int 2), (3, .int (nI x)), (4, .int (nI (by2 f p1))), (5, .int (nI p)), (6, .int (nI s3)), (7, .int (nI i)), (8, .int (nI (by4 f (p + 2)))), (10, .int (nI w))], [.int (1 <<< ((nI w) &&& 31)), .int (nI s3)], M50)) rfl rfl rfl ?_
                refine ps_st (S' := (245, [(11, .int (-1)), (0, .ref m0), (2, .int 2), (3, .int (nI x)), (4, .int (nI (by2 f p1))), (5, .int (nI p)), (6, .int (nI s3)), (7, .int (nI i)), (8, .int (nI (by4 f (p + 2)))), (10, .int (nI w))], [.int ((nI s3) ||| (1 <<< ((nI w) &&& 31)))], M50)) rfl rfl rfl ?_
                rw [or_k s3 w (by omega)]
                show pl _ _ _ (_, [(11, .int (-1)), (0, .ref m0), (2, .int 2), (3, .int (nI x)), (4, .int (nI (by2 f p1))), (5, .int (nI p)), (6, .int (nI s3)), (7, .int (nI i)), (8, .int (nI (by4 f (p + 2)))), (10, .int (nI w))], [.int (nI (so s3 w))], M50) _
                refine ps_st (S' := (247, [(6, .int (nI (so s3 w))), (11, .int (-1)), (0, .ref m0), (2, .int 2), (3, .int (nI x)), (4, .int (nI (by2 f p1))), (5, .int (nI p)), (7, .int (nI i)), (8, .int (nI (by4 f (p + 2)))), (10, .int (nI w))], [], M50)) rfl rfl rfl ?_
                refine ps_st (S' := (249, [(6, .int (nI (so s3 w))), (11, .int (-1)), (0, .ref m0), (2, .int 2), (3, .int (nI x)), (4, .int (nI (by2 f p1))), (5, .int (nI p)), (7, .int (nI i)), (8, .int (nI (by4 f (p + 2)))), (10, .int (nI w))], [.int (-1)], M50)) rfl rfl rfl ?_
                refine ps_if (S1 := (261, [(0, .ref m0), (2, .int 2), (3, .int (nI x)), (4, .int (nI (by2 f p1))), (5, .int (nI p)), (6, .int (nI (so s3 w))), (7, .int (nI i)), (8, .int (nI (by4 f (p + 2)))), (11, .int (-1))], [], M50)) (S2 := (252, [(6, .int (nI (so s3 w))), (11, .int (-1)), (0, .ref m0), (2, .int 2), (3, .int (nI x)), (4, .int (nI (by2 f p1))), (5, .int (nI p)), (7, .int (nI i)), (8, .int (nI (by4 f (p + 2)))), (10, .int (nI w))], [], M50)) rfl rfl rfl (fun c_249 => ?_) (fun c_249 => ?_)
                rotate_left
                · exact absurd (by decide) (of_decide_eq_false c_249)
                refine ps_st (S' := (263, [(0, .ref m0), (2, .int 2), (3, .int (nI x)), (4, .int (nI (by2 f p1))), (5, .int (nI p)), (6, .int (nI (so s3 w))), (7, .int (nI i)), (8, .int (nI (by4 f (p + 2)))), (11, .int (-1))], [.int (-1)], M50)) rfl rfl rfl ?_
                refine ps_if (S1 := (268, [(0, .ref m0), (2, .int 2), (3, .int (nI x)), (4, .int (nI (by2 f p1))), (5, .int (nI p)), (6, .int (nI (so s3 w))), (7, .int (nI i)), (8, .int (nI (by4 f (p + 2))))], [], M50)) (S2 := (266, [(0, .ref m0), (2, .int 2), (3, .int (nI x)), (4, .int (nI (by2 f p1))), (5, .int (nI p)), (6, .int (nI (so s3 w))), (7, .int (nI i)), (8, .int (nI (by4 f (p + 2)))), (11, .int (-1))], [], M50)) rfl rfl rfl (fun c_263 => ?_) (fun c_263 => ?_)
                · exact absurd (of_decide_eq_true c_263) (by decide)
                refine ps_st (S' := (267, [(0, .ref m0), (2, .int 2), (3, .int (nI x)), (4, .int (nI (by2 f p1))), (5, .int (nI p)), (6, .int (nI (so s3 w))), (7, .int (nI i)), (8, .int (nI (by4 f (p + 2)))), (11, .int (-1))], [.int (-1)], M50)) rfl rfl rfl ?_
                exact ps_ret rfl rfl (Or.inl ⟨e9123, I124, R125, by
                    rw [← hs9, maS_kb (i := i) (p := p) (s := s2) hi0 h1 hsm hw2 hs0 hb.2.2 q233_s q233_b], rfl, hR126, hEI139, hER140, hi129, hi130⟩)
              · skip
                obtain ⟨s'141, I142, R143, q233_s, q233_b, rfl, hR144, hI145, hX146, hC_147⟩ := q51
                have hi148 := (hI145 51 (by decide)).trans hl51
                have hi149 := (hI145 52 (by decide)).trans hl52
                have hi150 := (hI145 53 (by decide)).trans hl53
                have hF_151 := hF_42.mono (cIx hI145 (by decide)) (cRx hX146 (by decide))
                have hY_152 := hY_43.mono (cIx hI145 (by decide)) (cRx hX146 (by decide))
                have hP_153 := hP_44.mono (cIx hI145 (by decide)) (cRx hX146 (by decide))
                have hK_154 := hK_45.mono (cIx hI145 (by decide)) (cRx hX146 (by decide))
                have hX_155 := hX_46.mono (cIx hI145 (by decide)) (cRx hX146 (by decide))
                have hEI156 := hEI1.tr hI145 (by decide)
                have hER157 := hER48.tr hX146 (by decide)
                show pl _ _ _ (236, [(0, .ref m0), (2, .int 2), (3, .int (nI x)), (4, .int (nI (by2 f p1))), (5, .int (nI p)), (6, .int (nI s3)), (7, .int (nI i)), (8, .int (nI (by4 f (p + 2)))), (10, .int (nI w))], [.int 0], M50) _
                refine ps_st (S' := (238, [(11, .int 0), (0, .ref m0), (2, .int 2), (3, .int (nI x)), (4, .int (nI (by2 f p1))), (5, .int (nI p)), (6, .int (nI s3)), (7, .int (nI i)), (8, .int (nI (by4 f (p + 2)))), (10, .int (nI w))], [], M50)) rfl rfl rfl ?_
                refine ps_st (S' := (240, [(11, .int 0), (0, .ref m0), (2, .int 2), (3, .int (nI x)), (4, .int (nI (by2 f p1))), (5, .int (nI p)), (6, .int (nI s3)), (7, .int (nI i)), (8, .int (nI (by4 f (p + 2)))), (10, .int (nI w))], [.int (nI s3)], M50)) rfl rfl rfl ?_
                refine ps_st (S' := (241, [(11, .int 0), (0, .ref m0), (2, .int 2), (3, .int (nI x)), (4, .int (nI (by2 f p1))), (5, .int (nI p)), (6, .int (nI s3)), (7, .int (nI i)), (8, .int (nI (by4 f (p + 2)))), (10, .int (nI w))], [.int 1, .int (nI s3)], M50)) rfl rfl rfl ?_
                refine ps_st (S' := (243, [(11, .int 0), (0, .ref m0), (2, .int 2), (3, .int (nI x)), (4, .int (nI (by2 f p1))), (5, .int (nI p)), (6, .int (nI s3)), (7, .int (nI i)), (8, .int (nI (by4 f (p + 2)))), (10, .int (nI w))], [.int (nI w), .int 1, .int (nI s3)], M50)) rfl rfl rfl ?_
                refine ps_st (S' := (244, [(11, .int 0), (0, .ref m0), (2, .int 2), (3, .int (nI x)), (4, .int (nI (by2 f p1))), (5, .int (nI p)), (6, .int (nI s3)), (7, .int (nI i)), (8, .int (nI (by4 f (p + 2)))), (10, .int (nI w))], [.int (1 <<< ((nI w) &&& 31)), .int (nI s3)], M50)) rfl rfl rfl ?_
                refine ps_st (S' := (245, [(11, .int 0), (0, .ref m0), (2, .int 2), (3, .int (nI x)), (4, .int (nI (by2 f p1))), (5, .int (nI p)), (6, .int (nI s3)), (7, .int (nI i)), (8, .int (nI (by4 f (p + 2)))), (10, .int (nI w))], [.int ((nI s3) ||| (1 <<< ((nI w) &&& 31)))], M50)) rfl rfl rfl ?_
                rw [or_k s3 w (by omega)]
                show pl _ _ _ (_, [(11, .int 0), (0, .ref m0), (2, .int 2), (3, .int (nI x)), (4, .int (nI (by2 f p1))), (5, .int (nI p)), (6, .int (nI s3)), (7, .int (nI i)), (8, .int (nI (by4 f (p + 2)))), (10, .int (nI w))], [.int (nI (so s3 w))], M50) _
                refine ps_st (S' := (247, [(6, .int (nI (so s3 w))), (11, .int 0), (0, .ref m0), (2, .int 2), (3, .int (nI x)), (4, .int (nI (by2 f p1))), (5, .int (nI p)), (7, .int (nI i)), (8, .int (nI (by4 f (p + 2)))), (10, .int (nI w))], [], M50)) rfl rfl rfl ?_
                refine ps_st (S' := (249, [(6, .int (nI (so s3 w))), (11, .int 0), (0, .ref m0), (2, .int 2), (3, .int (nI x)), (4, .int (nI (by2 f p1))), (5, .int (nI p)), (7, .int (nI i)), (8, .int (nI (by4 f (p + 2)))), (10, .int (nI w))], [.int 0], M50)) rfl rfl rfl ?_
                refine ps_if (S1 := (261, [(0, .ref m0), (2, .int 2), (3, .int (nI x)), (4, .int (nI (by2 f p1))), (5, .int (nI p)), (6, .int (nI (so s3 w))), (7, .int (nI i)), (8, .int (nI (by4 f (p + 2)))), (11, .int 0)], [], M50)) (S2 := (252, [(6, .int (nI (so s3 w))), (11, .int 0), (0, .ref m0), (2, .int 2), (3, .int (nI x)), (4, .int (nI (by2 f p1))), (5, .int (nI p)), (7, .int (nI i)), (8, .int (nI (by4 f (p + 2)))), (10, .int (nI w))], [], M50)) rfl rfl rfl (fun c_249 => ?_) (fun c_249 => ?_)
                rotate_left
                · exact absurd (by decide) (of_decide_eq_false c_249)
                refine ps_st (S' := (263, [(0, .ref m0), (2, .int 2), (3, .int (nI x)), (4, .int (nI (by2 f p1))), (5, .int (nI p)), (6, .int (nI (so s3 w))), (7, .int (nI i)), (8, .int (nI (by4 f (p + 2)))), (11, .int 0)], [.int 0], M50)) rfl rfl rfl ?_
                refine ps_if (S1 := (268, [(0, .ref m0), (2, .int 2), (3, .int (nI x)), (4, .int (nI (by2 f p1))), (5, .int (nI p)), (6, .int (nI (so s3 w))), (7, .int (nI i)), (8, .int (nI (by4 f (p + 2))))], [], M50)) (S2 := (266, [(0, .ref m0), (2, .int 2), (3, .int (nI x)), (4, .int (nI (by2 f p1))), (5, .int (nI p)), (6, .int (nI (so s3 w))), (7, .int (nI i)), (8, .int (nI (by4 f (p + 2)))), (11, .int 0)], [], M50)) rfl rfl rfl (fun c_263 => ?_) (fun c_263 => ?_)
                rotate_left
                · exact absurd (by decide) (of_decide_eq_false c_263)
                refine ps_st (S' := (270, [(0, .ref m0), (2, .int 2), (3, .int (nI x)), (4, .int (nI (by2 f p1))), (5, .int (nI p)), (6, .int (nI (so s3 w))), (7, .int (nI i)), (8, .int (nI (by4 f (p + 2))))], [.int (nI p)], M50)) rfl rfl rfl ?_
                refine ps_st (S' := (272, [(0, .ref m0), (2, .int 2), (3, .int (nI x)), (4, .int (nI (by2 f p1))), (5, .int (nI p)), (6, .int (nI (so s3 w))), (7, .int (nI i)), (8, .int (nI (by4 f (p + 2))))], [.int 6, .int (nI p)], M50)) rfl rfl rfl ?_
                refine ps_st (S' := (274, [(0, .ref m0), (2, .int 2), (3, .int (nI x)), (4, .int (nI (by2 f p1))), (5, .int (nI p)), (6, .int (nI (so s3 w))), (7, .int (nI i)), (8, .int (nI (by4 f (p + 2))))], [.int (nI (by4 f (p + 2))), .int 6, .int (nI p)], M50)) rfl rfl rfl ?_
                refine ps_st (S' := (275, [(0, .ref m0), (2, .int 2), (3, .int (nI x)), (4, .int (nI (by2 f p1))), (5, .int (nI p)), (6, .int (nI (so s3 w))), (7, .int (nI i)), (8, .int (nI (by4 f (p + 2))))], [.int (6 + (nI (by4 f (p + 2)))), .int (nI p)], M50)) rfl rfl rfl ?_
                rw [nI_add2 (p := 6) (k := by4 f (p + 2)) (x := 6) (y := (nI (by4 f (p + 2)))) rfl rfl (by omega)]
                show pl _ _ _ (_, [(0, .ref m0), (2, .int 2), (3, .int (nI x)), (4, .int (nI (by2 f p1))), (5, .int (nI p)), (6, .int (nI (so s3 w))), (7, .int (nI i)), (8, .int (nI (by4 f (p + 2))))], [.int (nI (6 + by4 f (p + 2))), .int (nI p)], M50) _
                refine ps_st (S' := (276, [(0, .ref m0), (2, .int 2), (3, .int (nI x)), (4, .int (nI (by2 f p1))), (5, .int (nI p)), (6, .int (nI (so s3 w))), (7, .int (nI i)), (8, .int (nI (by4 f (p + 2))))], [.int ((nI p) + (nI (6 + by4 f (p + 2))))], M50)) rfl rfl rfl ?_
                rw [nI_add1 (p := p) (k := 6 + by4 f (p + 2)) (x := (nI (6 + by4 f (p + 2)))) rfl (by omega)]
                rw [show nI (p + (6 + by4 f (p + 2))) = nI (p + 6 + by4 f (p + 2)) from congrArg nI (by omega)]
                show pl _ _ _ (_, [(0, .ref m0), (2, .int 2), (3, .int (nI x)), (4, .int (nI (by2 f p1))), (5, .int (nI p)), (6, .int (nI (so s3 w))), (7, .int (nI i)), (8, .int (nI (by4 f (p + 2))))], [.int (nI (p + 6 + by4 f (p + 2)))], M50) _
                refine ps_st (S' := (278, [(5, .int (nI (p + 6 + by4 f (p + 2)))), (0, .ref m0), (2, .int 2), (3, .int (nI x)), (4, .int (nI (by2 f p1))), (6, .int (nI (so s3 w))), (7, .int (nI i)), (8, .int (nI (by4 f (p + 2))))], [], M50)) rfl rfl rfl ?_
                refine ps_st (S' := (281, [(7, .int ((nI i) + 1)), (5, .int (nI (p + 6 + by4 f (p + 2)))), (0, .ref m0), (2, .int 2), (3, .int (nI x)), (4, .int (nI (by2 f p1))), (6, .int (nI (so s3 w))), (8, .int (nI (by4 f (p + 2))))], [], M50)) rfl rfl rfl ?_
                rw [nI_add1 (p := i) (k := 1) (x := 1) rfl (by omega)]
                show pl _ _ _ (_, [(7, .int (nI (i + 1))), (5, .int (nI (p + 6 + by4 f (p + 2)))), (0, .ref m0), (2, .int 2), (3, .int (nI x)), (4, .int (nI (by2 f p1))), (6, .int (nI (so s3 w))), (8, .int (nI (by4 f (p + 2))))], [], M50) _
                refine ps_st (S' := (18, [(0, .ref m0), (2, .int 2), (3, .int (nI x)), (4, .int (nI (by2 f p1))), (5, .int (nI (p + 6 + by4 f (p + 2)))), (6, .int (nI (so s3 w))), (7, .int (nI (i + 1)))], [], M50)) rfl rfl rfl ?_
                obtain ⟨s4, e4, f4, g4⟩ := maS_kg (i := i) (p := p) (s := s2) hi0 h1 hsm hw2 hs0 hb.2.2 q233_s q233_b
                exact ih.1 (i + 1) (p + 6 + by4 f (p + 2)) (s4) (so s3 w) (if w = 1 then 1 else h) M50 I142 R143 hR144 hEI156 hER157 hi148 hi149 hi150 hF_151 hY_152 hP_153 hK_154 hX_155 hC_147 (by omega) (so_lt hl (by omega)) (mk_b hw2 hb f4 g4) (hq7) (by rw [← hs9, e4])
            · have c_198 : ¬ (¬ (nI (sb s3 w)) = 1) := of_decide_eq_false c_198
              have n_198 : sb s3 w = 1 := (eq_nI (p := sb s3 w) (n := 1) (Nat.lt_trans (sb_lt _ _) (by decide)) (by decide)).mp (Decidable.not_not.mp c_198)
              refine ps_st (S' := (202, [(0, .ref m0), (2, .int 2), (3, .int (nI x)), (4, .int (nI (by2 f p1))), (5, .int (nI p)), (6, .int (nI s3)), (7, .int (nI i)), (8, .int (nI (by4 f (p + 2)))), (10, .int (nI w))], [.ref m0], M38)) rfl rfl rfl ?_
              refine ps_st (S' := (204, [(0, .ref m0), (2, .int 2), (3, .int (nI x)), (4, .int (nI (by2 f p1))), (5, .int (nI p)), (6, .int (nI s3)), (7, .int (nI i)), (8, .int (nI (by4 f (p + 2)))), (10, .int (nI w))], [.int 29, .ref m0], M38)) rfl rfl rfl ?_
              refine ps_st (S' := (206, [(0, .ref m0), (2, .int 2), (3, .int (nI x)), (4, .int (nI (by2 f p1))), (5, .int (nI p)), (6, .int (nI s3)), (7, .int (nI i)), (8, .int (nI (by4 f (p + 2)))), (10, .int (nI w))], [.int (nI p), .int 29, .ref m0], M38)) rfl rfl rfl ?_
              refine pl_call (a := [.ref m0, .int 29, .int (nI p)]) (rest := []) rfl rfl rfl (rd_wrong (x1 := 29) (x2 := (nI p)) hR40) (fun v158 M159 q160 => ?_)
              obtain ⟨I161, R162, rfl, hR163, hI164, hX165, hi166, hi167⟩ := q160
              have hi168 := (hI164 51 (by decide)).trans hl51
              have hi169 := (hI164 52 (by decide)).trans hl52
              have hi170 := (hI164 53 (by decide)).trans hl53
              have hF_171 := hF_42.mono (cIx hI164 (by decide)) (cRx hX165 (by decide))
              have hY_172 := hY_43.mono (cIx hI164 (by decide)) (cRx hX165 (by decide))
              have hP_173 := hP_44.mono (cIx hI164 (by decide)) (cRx hX165 (by decide))
              have hK_174 := hK_45.mono (cIx hI164 (by decide)) (cRx hX165 (by decide))
              have hX_175 := hX_46.mono (cIx hI164 (by decide)) (cRx hX165 (by decide))
              have hC_176 := hC_47.mono (cIx hI164 (by decide)) (cRx hX165 (by decide))
              have hEI177 := hEI1.tr hI164 (by decide)
              have hER178 := hER48.tr hX165 (by decide)
              show pl _ _ _ (209, [(0, .ref m0), (2, .int 2), (3, .int (nI x)), (4, .int (nI (by2 f p1))), (5, .int (nI p)), (6, .int (nI s3)), (7, .int (nI i)), (8, .int (nI (by4 f (p + 2)))), (10, .int (nI w))], [.int 0], M159) _
              refine ps_st (S' := (210, [(0, .ref m0), (2, .int 2), (3, .int (nI x)), (4, .int (nI (by2 f p1))), (5, .int (nI p)), (6, .int (nI s3)), (7, .int (nI i)), (8, .int (nI (by4 f (p + 2)))), (10, .int (nI w))], [], M159)) rfl rfl rfl ?_
              refine ps_st (S' := (211, [(0, .ref m0), (2, .int 2), (3, .int (nI x)), (4, .int (nI (by2 f p1))), (5, .int (nI p)), (6, .int (nI s3)), (7, .int (nI i)), (8, .int (nI (by4 f (p + 2)))), (10, .int (nI w))], [.int (-1)], M159)) rfl rfl rfl ?_
              exact ps_ret rfl rfl (Or.inl ⟨(29, p), I161, R162, by
                  rw [← hs9, maS_29 (i := i) (p := p) (s := s2) hi0 h1 hsm (by omega)], rfl, hR163, hEI177, hER178, hi166, hi167⟩)
        · have c_86 : ¬ ((nI 10) ≤ (nI k)) := of_decide_eq_false c_86
          have n_86 : ¬ (10 ≤ k) := fun h9 => c_86 ((le_nI (p := 10) (n := k) (by decide) (by omega)).mpr h9)
          refine ps_st (S' := (90, [(0, .ref m0), (2, .int 2), (3, .int (nI x)), (4, .int (nI (by2 f p1))), (5, .int (nI p)), (6, .int (nI s3)), (7, .int (nI i)), (8, .int (nI (by4 f (p + 2)))), (9, .int (nI t)), (10, .int (gI (kb mj 2 (tX f n E (by2 f p)) k))), (11, .int (nI k))], [.ref m0], M1)) rfl rfl rfl ?_
          refine pr_ref (j := 63) (S' := (93, [(0, .ref m0), (2, .int 2), (3, .int (nI x)), (4, .int (nI (by2 f p1))), (5, .int (nI p)), (6, .int (nI s3)), (7, .int (nI i)), (8, .int (nI (by4 f (p + 2)))), (9, .int (nI t)), (10, .int (gI (kb mj 2 (tX f n E (by2 f p)) k))), (11, .int (nI k))], [.ref (q 63)], M1)) rfl hR1 rfl rfl ?_
          refine ps_st (S' := (95, [(0, .ref m0), (2, .int 2), (3, .int (nI x)), (4, .int (nI (by2 f p1))), (5, .int (nI p)), (6, .int (nI s3)), (7, .int (nI i)), (8, .int (nI (by4 f (p + 2)))), (9, .int (nI t)), (10, .int (gI (kb mj 2 (tX f n E (by2 f p)) k))), (11, .int (nI k))], [.int (nI k), .ref (q 63)], M1)) rfl rfl rfl ?_
          have hki_95 := kiN_lt k
          refine pr_ld (a := 63) (j := k) (y := (nI (kiN k))) (S' := (96, [(0, .ref m0), (2, .int 2), (3, .int (nI x)), (4, .int (nI (by2 f p1))), (5, .int (nI p)), (6, .int (nI s3)), (7, .int (nI i)), (8, .int (nI (by4 f (p + 2)))), (9, .int (nI t)), (10, .int (gI (kb mj 2 (tX f n E (by2 f p)) k))), (11, .int (nI k))], [.int (nI (kiN k))], M1)) rfl hR1 rfl (by omega) (fun _ => (hK1 k (by omega)).1) rfl (fun i1_95 => ?_)
          refine ps_st (S' := (97, [(0, .ref m0), (2, .int 2), (3, .int (nI x)), (4, .int (nI (by2 f p1))), (5, .int (nI p)), (6, .int (nI s3)), (7, .int (nI i)), (8, .int (nI (by4 f (p + 2)))), (9, .int (nI t)), (10, .int (gI (kb mj 2 (tX f n E (by2 f p)) k))), (11, .int (nI k))], [.int 2, .int (nI (kiN k))], M1)) rfl rfl rfl ?_
          refine ps_if2 (S1 := (134, [(0, .ref m0), (2, .int 2), (3, .int (nI x)), (4, .int (nI (by2 f p1))), (5, .int (nI p)), (6, .int (nI s3)), (7, .int (nI i)), (8, .int (nI (by4 f (p + 2)))), (9, .int (nI t)), (10, .int (gI (kb mj 2 (tX f n E (by2 f p)) k))), (11, .int (nI k))], [], M1)) (S2 := (100, [(0, .ref m0), (2, .int 2), (3, .int (nI x)), (4, .int (nI (by2 f p1))), (5, .int (nI p)), (6, .int (nI s3)), (7, .int (nI i)), (8, .int (nI (by4 f (p + 2)))), (9, .int (nI t)), (10, .int (gI (kb mj 2 (tX f n E (by2 f p)) k))), (11, .int (nI k))], [], M1)) rfl rfl rfl (fun c_97 => ?_) (fun c_97 => ?_)
          · have c_97 : ¬ (nI (kiN k)) = 2 := of_decide_eq_true c_97
            have n_97 : ¬ (kiN k = 2) := fun h9 => c_97 ((eq_nI (p := kiN k) (n := 2) (Nat.lt_trans (kiN_lt _) (by decide)) (by decide)).mpr h9)
            refine ps_st (S' := (137, [(11, .int ((nI k) + 1)), (0, .ref m0), (2, .int 2), (3, .int (nI x)), (4, .int (nI (by2 f p1))), (5, .int (nI p)), (6, .int (nI s3)), (7, .int (nI i)), (8, .int (nI (by4 f (p + 2)))), (9, .int (nI t)), (10, .int (gI (kb mj 2 (tX f n E (by2 f p)) k)))], [], M1)) rfl rfl rfl ?_
            rw [nI_add1 (p := k) (k := 1) (x := 1) rfl (by omega)]
            show pl _ _ _ (_, [(11, .int (nI (k + 1))), (0, .ref m0), (2, .int 2), (3, .int (nI x)), (4, .int (nI (by2 f p1))), (5, .int (nI p)), (6, .int (nI s3)), (7, .int (nI i)), (8, .int (nI (by4 f (p + 2)))), (9, .int (nI t)), (10, .int (gI (kb mj 2 (tX f n E (by2 f p)) k)))], [], M1) _
            refine ps_st (S' := (79, [(0, .ref m0), (2, .int 2), (3, .int (nI x)), (4, .int (nI (by2 f p1))), (5, .int (nI p)), (6, .int (nI s3)), (7, .int (nI i)), (8, .int (nI (by4 f (p + 2)))), (9, .int (nI t)), (10, .int (gI (kb mj 2 (tX f n E (by2 f p)) k))), (11, .int (nI (k + 1)))], [], M1)) rfl rfl rfl ?_
            have hkb : (gI (kb mj 2 (tX f n E (by2 f p)) k)) = gI (kb mj 2 (tX f n E (by2 f p)) (k + 1)) := by
              conv => rhs; unfold kb
              rw [if_neg (by omega)]
            rw [hkb]
            exact ih.2 (i) (p) (s2) (s3) (k + 1) (t) (h) M1 I1 R1 hR1 hEI1 hER1 hl51 hl52 hl53 hF1 hY1 hP1 hK1 hX1 hC1 (hi0) (hl) (hb) (ha) (hs9) (by omega) (h1) (hsy)
          · have c_97 : ¬ (¬ (nI (kiN k)) = 2) := of_decide_eq_false c_97
            have n_97 : kiN k = 2 := (eq_nI (p := kiN k) (n := 2) (Nat.lt_trans (kiN_lt _) (by decide)) (by decide)).mp (Decidable.not_not.mp c_97)
            refine ps_st (S' := (101, [(0, .ref m0), (2, .int 2), (3, .int (nI x)), (4, .int (nI (by2 f p1))), (5, .int (nI p)), (6, .int (nI s3)), (7, .int (nI i)), (8, .int (nI (by4 f (p + 2)))), (9, .int (nI t)), (10, .int (gI (kb mj 2 (tX f n E (by2 f p)) k))), (11, .int (nI k))], [.ref m0], M1)) rfl rfl rfl ?_
            refine pr_int (j := 53) (S' := (104, [(0, .ref m0), (2, .int 2), (3, .int (nI x)), (4, .int (nI (by2 f p1))), (5, .int (nI p)), (6, .int (nI s3)), (7, .int (nI i)), (8, .int (nI (by4 f (p + 2)))), (9, .int (nI t)), (10, .int (gI (kb mj 2 (tX f n E (by2 f p)) k))), (11, .int (nI k))], [.int (nI mj)], M1)) rfl hR1 rfl hl53 rfl ?_
            refine ps_st (S' := (105, [(0, .ref m0), (2, .int 2), (3, .int (nI x)), (4, .int (nI (by2 f p1))), (5, .int (nI p)), (6, .int (nI s3)), (7, .int (nI i)), (8, .int (nI (by4 f (p + 2)))), (9, .int (nI t)), (10, .int (gI (kb mj 2 (tX f n E (by2 f p)) k))), (11, .int (nI k))], [.ref m0, .int (nI mj)], M1)) rfl rfl rfl ?_
            refine pr_ref (j := 64) (S' := (108, [(0, .ref m0), (2, .int 2), (3, .int (nI x)), (4, .int (nI (by2 f p1))), (5, .int (nI p)), (6, .int (nI s3)), (7, .int (nI i)), (8, .int (nI (by4 f (p + 2)))), (9, .int (nI t)), (10, .int (gI (kb mj 2 (tX f n E (by2 f p)) k))), (11, .int (nI k))], [.ref (q 64), .int (nI mj)], M1)) rfl hR1 rfl rfl ?_
            refine ps_st (S' := (110, [(0, .ref m0), (2, .int 2), (3, .int (nI x)), (4, .int (nI (by2 f p1))), (5, .int (nI p)), (6, .int (nI s3)), (7, .int (nI i)), (8, .int (nI (by4 f (p + 2)))), (9, .int (nI t)), (10, .int (gI (kb mj 2 (tX f n E (by2 f p)) k))), (11, .int (nI k))], [.int (nI k), .ref (q 64), .int (nI mj)], M1)) rfl rfl rfl ?_
            have hkf_110 := kfN_lt k
            refine pr_ld (a := 64) (j := k) (y := (nI (kfN k))) (S' := (111, [(0, .ref m0), (2, .int 2), (3, .int (nI x)), (4, .int (nI (by2 f p1))), (5, .int (nI p)), (6, .int (nI s3)), (7, .int (nI i)), (8, .int (nI (by4 f (p + 2)))), (9, .int (nI t)), (10, .int (gI (kb mj 2 (tX f n E (by2 f p)) k))), (11, .int (nI k))], [.int (nI (kfN k)), .int (nI mj)], M1)) rfl hR1 rfl (by omega) (fun _ => (hK1 k (by omega)).2) rfl (fun i1_110 => ?_)
            refine ps_if2 (S1 := (134, [(0, .ref m0), (2, .int 2), (3, .int (nI x)), (4, .int (nI (by2 f p1))), (5, .int (nI p)), (6, .int (nI s3)), (7, .int (nI i)), (8, .int (nI (by4 f (p + 2)))), (9, .int (nI t)), (10, .int (gI (kb mj 2 (tX f n E (by2 f p)) k))), (11, .int (nI k))], [], M1)) (S2 := (114, [(0, .ref m0), (2, .int 2), (3, .int (nI x)), (4, .int (nI (by2 f p1))), (5, .int (nI p)), (6, .int (nI s3)), (7, .int (nI i)), (8, .int (nI (by4 f (p + 2)))), (9, .int (nI t)), (10, .int (gI (kb mj 2 (tX f n E (by2 f p)) k))), (11, .int (nI k))], [], M1)) rfl rfl rfl (fun c_111 => ?_) (fun c_111 => ?_)
            · have c_111 : (nI mj) < (nI (kfN k)) := of_decide_eq_true c_111
              have n_111 : mj < kfN k := (lt_nI (p := mj) (n := kfN k) (by omega) (Nat.lt_trans (kfN_lt _) (by decide))).mp c_111
              refine ps_st (S' := (137, [(11, .int ((nI k) + 1)), (0, .ref m0), (2, .int 2), (3, .int (nI x)), (4, .int (nI (by2 f p1))), (5, .int (nI p)), (6, .int (nI s3)), (7, .int (nI i)), (8, .int (nI (by4 f (p + 2)))), (9, .int (nI t)), (10, .int (gI (kb mj 2 (tX f n E (by2 f p)) k)))], [], M1)) rfl rfl rfl ?_
              rw [nI_add1 (p := k) (k := 1) (x := 1) rfl (by omega)]
              show pl _ _ _ (_, [(11, .int (nI (k + 1))), (0, .ref m0), (2, .int 2), (3, .int (nI x)), (4, .int (nI (by2 f p1))), (5, .int (nI p)), (6, .int (nI s3)), (7, .int (nI i)), (8, .int (nI (by4 f (p + 2)))), (9, .int (nI t)), (10, .int (gI (kb mj 2 (tX f n E (by2 f p)) k)))], [], M1) _
              refine ps_st (S' := (79, [(0, .ref m0), (2, .int 2), (3, .int (nI x)), (4, .int (nI (by2 f p1))), (5, .int (nI p)), (6, .int (nI s3)), (7, .int (nI i)), (8, .int (nI (by4 f (p + 2)))), (9, .int (nI t)), (10, .int (gI (kb mj 2 (tX f n E (by2 f p)) k))), (11, .int (nI (k + 1)))], [], M1)) rfl rfl rfl ?_
              have hkb : (gI (kb mj 2 (tX f n E (by2 f p)) k)) = gI (kb mj 2 (tX f n E (by2 f p)) (k + 1)) := by
                conv => rhs; unfold kb
                rw [if_neg (by omega)]
              rw [hkb]
              exact ih.2 (i) (p) (s2) (s3) (k + 1) (t) (h) M1 I1 R1 hR1 hEI1 hER1 hl51 hl52 hl53 hF1 hY1 hP1 hK1 hX1 hC1 (hi0) (hl) (hb) (ha) (hs9) (by omega) (h1) (hsy)
            · have c_111 : ¬ ((nI mj) < (nI (kfN k))) := of_decide_eq_false c_111
              have n_111 : ¬ (mj < kfN k) := fun h9 => c_111 ((lt_nI (p := mj) (n := kfN k) (by omega) (Nat.lt_trans (kfN_lt _) (by decide))).mpr h9)
              refine ps_st (S' := (115, [(0, .ref m0), (2, .int 2), (3, .int (nI x)), (4, .int (nI (by2 f p1))), (5, .int (nI p)), (6, .int (nI s3)), (7, .int (nI i)), (8, .int (nI (by4 f (p + 2)))), (9, .int (nI t)), (10, .int (gI (kb mj 2 (tX f n E (by2 f p)) k))), (11, .int (nI k))], [.ref m0], M1)) rfl rfl rfl ?_
              refine ps_st (S' := (117, [(0, .ref m0), (2, .int 2), (3, .int (nI x)), (4, .int (nI (by2 f p1))), (5, .int (nI p)), (6, .int (nI s3)), (7, .int (nI i)), (8, .int (nI (by4 f (p + 2)))), (9, .int (nI t)), (10, .int (gI (kb mj 2 (tX f n E (by2 f p)) k))), (11, .int (nI k))], [.int (nI t), .ref m0], M1)) rfl rfl rfl ?_
              refine ps_st (S' := (118, [(0, .ref m0), (2, .int 2), (3, .int (nI x)), (4, .int (nI (by2 f p1))), (5, .int (nI p)), (6, .int (nI s3)), (7, .int (nI i)), (8, .int (nI (by4 f (p + 2)))), (9, .int (nI t)), (10, .int (gI (kb mj 2 (tX f n E (by2 f p)) k))), (11, .int (nI k))], [.ref m0, .int (nI t), .ref m0], M1)) rfl rfl rfl ?_
              refine pr_ref (j := 62) (S' := (121, [(0, .ref m0), (2, .int 2), (3, .int (nI x)), (4, .int (nI (by2 f p1))), (5, .int (nI p)), (6, .int (nI s3)), (7, .int (nI i)), (8, .int (nI (by4 f (p + 2)))), (9, .int (nI t)), (10, .int (gI (kb mj 2 (tX f n E (by2 f p)) k))), (11, .int (nI k))], [.ref (q 62), .int (nI t), .ref m0], M1)) rfl hR1 rfl rfl ?_
              refine ps_st (S' := (123, [(0, .ref m0), (2, .int 2), (3, .int (nI x)), (4, .int (nI (by2 f p1))), (5, .int (nI p)), (6, .int (nI s3)), (7, .int (nI i)), (8, .int (nI (by4 f (p + 2)))), (9, .int (nI t)), (10, .int (gI (kb mj 2 (tX f n E (by2 f p)) k))), (11, .int (nI k))], [.int (nI k), .ref (q 62), .int (nI t), .ref m0], M1)) rfl rfl rfl ?_
              refine pr_kn (j := k) (S' := (124, [(0, .ref m0), (2, .int 2), (3, .int (nI x)), (4, .int (nI (by2 f p1))), (5, .int (nI p)), (6, .int (nI s3)), (7, .int (nI i)), (8, .int (nI (by4 f (p + 2)))), (9, .int (nI t)), (10, .int (gI (kb mj 2 (tX f n E (by2 f p)) k))), (11, .int (nI k))], [.ref (g.2.1 (15 + k)), .int (nI t), .ref m0], M1)) rfl hR1 (by omega) rfl ?_
              refine pl_call (a := [.ref m0, .int (nI t), .ref (g.2.1 (15 + k))]) (rest := []) rfl rfl rfl (rd_is (tx := tx) (cN := cN) (A := A) (s := t) (l := (tX f n E (by2 f p))) (lk := (15 + k)) hR1 hY1 (hsy) (⟨by omega, by omega⟩)) (fun v179 M180 q181 => ?_)
              obtain ⟨rfl, rfl⟩ := q181
              show pl _ _ _ (127, [(0, .ref m0), (2, .int 2), (3, .int (nI x)), (4, .int (nI (by2 f p1))), (5, .int (nI p)), (6, .int (nI s3)), (7, .int (nI i)), (8, .int (nI (by4 f (p + 2)))), (9, .int (nI t)), (10, .int (gI (kb mj 2 (tX f n E (by2 f p)) k))), (11, .int (nI k))], [.int (nI (eqN (tX f n E (by2 f p)) (ltx (15 + k))))], M1) _
              refine ps_if (S1 := (134, [(0, .ref m0), (2, .int 2), (3, .int (nI x)), (4, .int (nI (by2 f p1))), (5, .int (nI p)), (6, .int (nI s3)), (7, .int (nI i)), (8, .int (nI (by4 f (p + 2)))), (9, .int (nI t)), (10, .int (gI (kb mj 2 (tX f n E (by2 f p)) k))), (11, .int (nI k))], [], M1)) (S2 := (130, [(0, .ref m0), (2, .int 2), (3, .int (nI x)), (4, .int (nI (by2 f p1))), (5, .int (nI p)), (6, .int (nI s3)), (7, .int (nI i)), (8, .int (nI (by4 f (p + 2)))), (9, .int (nI t)), (10, .int (gI (kb mj 2 (tX f n E (by2 f p)) k))), (11, .int (nI k))], [], M1)) rfl rfl rfl (fun c_127 => ?_) (fun c_127 => ?_)
              · have c_127 : (nI (eqN (tX f n E (by2 f p)) (ltx (15 + k)))) = 0 := of_decide_eq_true c_127
                have n_127 : eqN (tX f n E (by2 f p)) (ltx (15 + k)) = 0 := (eq_nI (p := eqN (tX f n E (by2 f p)) (ltx (15 + k))) (n := 0) (Nat.lt_trans (le1_eq _ _) (by decide)) (by decide)).mp c_127
                refine ps_st (S' := (137, [(11, .int ((nI k) + 1)), (0, .ref m0), (2, .int 2), (3, .int (nI x)), (4, .int (nI (by2 f p1))), (5, .int (nI p)), (6, .int (nI s3)), (7, .int (nI i)), (8, .int (nI (by4 f (p + 2)))), (9, .int (nI t)), (10, .int (gI (kb mj 2 (tX f n E (by2 f p)) k)))], [], M1)) rfl rfl rfl ?_
                rw [nI_add1 (p := k) (k := 1) (x := 1) rfl (by omega)]
                show pl _ _ _ (_, [(11, .int (nI (k + 1))), (0, .ref m0), (2, .int 2), (3, .int (nI x)), (4, .int (nI (by2 f p1))), (5, .int (nI p)), (6, .int (nI s3)), (7, .int (nI i)), (8, .int (nI (by4 f (p + 2)))), (9, .int (nI t)), (10, .int (gI (kb mj 2 (tX f n E (by2 f p)) k)))], [], M1) _
                refine ps_st (S' := (79, [(0, .ref m0), (2, .int 2), (3, .int (nI x)), (4, .int (nI (by2 f p1))), (5, .int (nI p)), (6, .int (nI s3)), (7, .int (nI i)), (8, .int (nI (by4 f (p + 2)))), (9, .int (nI t)), (10, .int (gI (kb mj 2 (tX f n E (by2 f p)) k))), (11, .int (nI (k + 1)))], [], M1)) rfl rfl rfl ?_
                have hkb : (gI (kb mj 2 (tX f n E (by2 f p)) k)) = gI (kb mj 2 (tX f n E (by2 f p)) (k + 1)) := by
                  conv => rhs; unfold kb
                  rw [if_neg (by omega)]
                rw [hkb]
                exact ih.2 (i) (p) (s2) (s3) (k + 1) (t) (h) M1 I1 R1 hR1 hEI1 hER1 hl51 hl52 hl53 hF1 hY1 hP1 hK1 hX1 hC1 (hi0) (hl) (hb) (ha) (hs9) (by omega) (h1) (hsy)
              · have c_127 : ¬ ((nI (eqN (tX f n E (by2 f p)) (ltx (15 + k)))) = 0) := of_decide_eq_false c_127
                have n_127 : ¬ (eqN (tX f n E (by2 f p)) (ltx (15 + k)) = 0) := fun h9 => c_127 ((eq_nI (p := eqN (tX f n E (by2 f p)) (ltx (15 + k))) (n := 0) (Nat.lt_trans (le1_eq _ _) (by decide)) (by decide)).mpr h9)
                refine ps_st (S' := (132, [(0, .ref m0), (2, .int 2), (3, .int (nI x)), (4, .int (nI (by2 f p1))), (5, .int (nI p)), (6, .int (nI s3)), (7, .int (nI i)), (8, .int (nI (by4 f (p + 2)))), (9, .int (nI t)), (10, .int (gI (kb mj 2 (tX f n E (by2 f p)) k))), (11, .int (nI k))], [.int (nI k)], M1)) rfl rfl rfl ?_
                refine ps_st (S' := (134, [(0, .ref m0), (2, .int 2), (3, .int (nI x)), (4, .int (nI (by2 f p1))), (5, .int (nI p)), (6, .int (nI s3)), (7, .int (nI i)), (8, .int (nI (by4 f (p + 2)))), (9, .int (nI t)), (10, .int (nI k)), (11, .int (nI k))], [], M1)) rfl rfl rfl ?_
                refine ps_st (S' := (137, [(11, .int ((nI k) + 1)), (0, .ref m0), (2, .int 2), (3, .int (nI x)), (4, .int (nI (by2 f p1))), (5, .int (nI p)), (6, .int (nI s3)), (7, .int (nI i)), (8, .int (nI (by4 f (p + 2)))), (9, .int (nI t)), (10, .int (nI k))], [], M1)) rfl rfl rfl ?_
                rw [nI_add1 (p := k) (k := 1) (x := 1) rfl (by omega)]
                show pl _ _ _ (_, [(11, .int (nI (k + 1))), (0, .ref m0), (2, .int 2), (3, .int (nI x)), (4, .int (nI (by2 f p1))), (5, .int (nI p)), (6, .int (nI s3)), (7, .int (nI i)), (8, .int (nI (by4 f (p + 2)))), (9, .int (nI t)), (10, .int (nI k))], [], M1) _
                refine ps_st (S' := (79, [(0, .ref m0), (2, .int 2), (3, .int (nI x)), (4, .int (nI (by2 f p1))), (5, .int (nI p)), (6, .int (nI s3)), (7, .int (nI i)), (8, .int (nI (by4 f (p + 2)))), (9, .int (nI t)), (10, .int (nI k)), (11, .int (nI (k + 1)))], [], M1)) rfl rfl rfl ?_
                have hkb : (nI k) = gI (kb mj 2 (tX f n E (by2 f p)) (k + 1)) := by
                  conv => rhs; unfold kb
                  rw [if_pos ⟨by omega, by omega, by omega⟩]
                  rfl
                rw [hkb]
                exact ih.2 (i) (p) (s2) (s3) (k + 1) (t) (h) M1 I1 R1 hR1 hEI1 hER1 hl51 hl52 hl53 hF1 hY1 hP1 hK1 hX1 hC1 (hi0) (hl) (hb) (ha) (hs9) (by omega) (h1) (hsy)
  refine ps_st (S' := (1, [(0, .ref m0), (1, .int (nI p1)), (2, .int 2), (3, .int (nI x))], [.ref m0], M)) rfl rfl rfl ?_
  refine ps_st (S' := (2, [(0, .ref m0), (1, .int (nI p1)), (2, .int 2), (3, .int (nI x))], [.int (nI p1), .ref m0], M)) rfl rfl rfl ?_
  refine pl_call (a := [.ref m0, .int (nI p1)]) (rest := []) rfl rfl rfl (rd_u2 (n := n) (f := f) (p := p1) hR hF (by omega)) (fun v182 M183 q184 => ?_)
  obtain ⟨rfl, rfl⟩ := q184
  show pl _ _ _ (5, [(0, .ref m0), (1, .int (nI p1)), (2, .int 2), (3, .int (nI x))], [.int (nI (by2 f p1))], M) _
  have hu_2 := by2_lt f p1
  refine ps_st (S' := (7, [(4, .int (nI (by2 f p1))), (0, .ref m0), (1, .int (nI p1)), (2, .int 2), (3, .int (nI x))], [], M)) rfl rfl rfl ?_
  refine ps_st (S' := (8, [(4, .int (nI (by2 f p1))), (0, .ref m0), (1, .int (nI p1)), (2, .int 2), (3, .int (nI x))], [.int (nI p1)], M)) rfl rfl rfl ?_
  refine ps_st (S' := (9, [(4, .int (nI (by2 f p1))), (0, .ref m0), (1, .int (nI p1)), (2, .int 2), (3, .int (nI x))], [.int 2, .int (nI p1)], M)) rfl rfl rfl ?_
  refine ps_st (S' := (10, [(4, .int (nI (by2 f p1))), (0, .ref m0), (1, .int (nI p1)), (2, .int 2), (3, .int (nI x))], [.int ((nI p1) + 2)], M)) rfl rfl rfl ?_
  rw [nI_add1 (p := p1) (k := 2) (x := 2) rfl (by omega)]
  show pl _ _ _ (_, [(4, .int (nI (by2 f p1))), (0, .ref m0), (1, .int (nI p1)), (2, .int 2), (3, .int (nI x))], [.int (nI (p1 + 2))], M) _
  refine ps_st (S' := (12, [(5, .int (nI (p1 + 2))), (4, .int (nI (by2 f p1))), (0, .ref m0), (1, .int (nI p1)), (2, .int 2), (3, .int (nI x))], [], M)) rfl rfl rfl ?_
  refine ps_st (S' := (13, [(5, .int (nI (p1 + 2))), (4, .int (nI (by2 f p1))), (0, .ref m0), (1, .int (nI p1)), (2, .int 2), (3, .int (nI x))], [.int 0], M)) rfl rfl rfl ?_
  refine ps_st (S' := (15, [(6, .int 0), (5, .int (nI (p1 + 2))), (4, .int (nI (by2 f p1))), (0, .ref m0), (1, .int (nI p1)), (2, .int 2), (3, .int (nI x))], [], M)) rfl rfl rfl ?_
  refine ps_st (S' := (16, [(6, .int 0), (5, .int (nI (p1 + 2))), (4, .int (nI (by2 f p1))), (0, .ref m0), (1, .int (nI p1)), (2, .int 2), (3, .int (nI x))], [.int 0], M)) rfl rfl rfl ?_
  refine ps_st (S' := (18, [(0, .ref m0), (2, .int 2), (3, .int (nI x)), (4, .int (nI (by2 f p1))), (5, .int (nI (p1 + 2))), (6, .int 0), (7, .int 0)], [], M)) rfl rfl rfl ?_
  exact (LL kf).1 (0) (p1 + 2) (0) (0) (0) M I R hR hEI hER hi51 hi52 hi53 hF hY hP hK hX hC (by omega) (by decide) (⟨rfl, rfl, fun _ => sb_0⟩) (hat) (rfl)
end
section
/-! fields and methods in the reference's rows (my own text) -/
/-- a cell of a row -/
def CE (a x : Nat) (v : Int32) (I : rI) (R : rR) : Prop := R a x = some v
theorem CE.mono {a x : Nat} {v : Int32} {I I' : rI} {R R' : rR} (h : CE a x v I R) (hI : ∀ k, k ∈ ([] : List Nat) → I' k = I k) (hR : ∀ k, k ∈ [a] → R' k = R k) : CE a x v I' R' := by
  unfold CE
  rw [hR a List.mem_cons_self]
  exact h
theorem CE.st {a x : Nat} {v : Int32} {I : rI} {R R' : rR} (h : R' = rset R a x v) : CE a x v I R' := by
  unfold CE
  rw [h, rset_at]
/-- members' heads: where they begin, where they end -/
def MBS (f : Nat → Int32) (n : Nat) (B : List Nat) (p : Nat) (E1 : Nat → Nat) : Prop := B.length = by2 f p ∧ p + 2 ≤ n ∧ (0 < B.length → B.getD 0 0 = p + 2) ∧
  ∀ i, i < B.length → B.getD i 0 + 8 ≤ E1 i ∧ E1 i ≤ n ∧ s_atE f (E1 i) (by2 f (B.getD i 0 + 6)) (B.getD i 0 + 8) = some (E1 i) ∧ (i + 1 < B.length → B.getD (i + 1) 0 = E1 i)
/-- names and descriptors of the members that were kept, in the rows a and b from number f0 on -/
def FN (a b : Nat) (f : Nat → Int32) (n : Nat) (E : List (Nat × Nat)) (tx : List (List Nat)) (B : List Nat) (f0 k : Nat) (I : rI) (R : rR) : Prop := ∀ j, j < k → ∃ s d, R a (f0 + j) = some (nI s) ∧ R b (f0 + j) = some (nI d) ∧
  (s < tx.length ∧ tx.getD s [] = tX f n E (by2 f (B.getD j 0 + 2))) ∧ (d < tx.length ∧ tx.getD d [] = tX f n E (by2 f (B.getD j 0 + 4))) ∧ tg f E (by2 f (B.getD j 0 + 2)) = 1 ∧ tg f E (by2 f (B.getD j 0 + 4)) = 1
theorem FN.mono {a b : Nat} {f : Nat → Int32} {n : Nat} {E : List (Nat × Nat)} {tx : List (List Nat)} {B : List Nat} {f0 k : Nat} {I I' : rI} {R R' : rR} (h : FN a b f n E tx B f0 k I R) (hI : ∀ k, k ∈ ([] : List Nat) → I' k = I k) (hR : ∀ k, k ∈ [a, b] → R' k = R k) : FN a b f n E tx B f0 k I' R' := by
  unfold FN
  rw [hR a (by simp), hR b (by simp)]
  exact h
theorem FN.st {a b c x : Nat} {v : Int32} {f : Nat → Int32} {n : Nat} {E : List (Nat × Nat)} {tx : List (List Nat)} {B : List Nat} {f0 k : Nat} {I I' : rI} {R R' : rR} (h : FN a b f n E tx B f0 k I R) (hs : R' = rset R c x v) (hx : x = f0 + k) : FN a b f n E tx B f0 k I' R' := fun j hj => by
  obtain ⟨s, d, h1, h2, h3⟩ := h j hj
  refine ⟨s, d, ?_, ?_, h3⟩
  · rw [hs]
    by_cases e : a = c
    · rw [e] at h1 ⊢
      rw [rset_el (by omega)]
      exact h1
    · rw [rset_ne e]
      exact h1
  · rw [hs]
    by_cases e : b = c
    · rw [e] at h2 ⊢
      rw [rset_el (by omega)]
      exact h2
    · rw [rset_ne e]
      exact h2
theorem FN.more {a b s d p : Nat} {f : Nat → Int32} {n : Nat} {E : List (Nat × Nat)} {tx : List (List Nat)} {B : List Nat} {f0 k : Nat} {I : rI} {R : rR} (h : FN a b f n E tx B f0 k I R) (hp : p = B.getD k 0) (h1 : CE a (f0 + k) (nI s) I R) (h2 : CE b (f0 + k) (nI d) I R) (h3 : s < tx.length ∧ tx.getD s [] = tX f n E (by2 f (p + 2))) (h4 : d < tx.length ∧ tx.getD d [] = tX f n E (by2 f (p + 4))) (t1 : tg f E (by2 f (p + 2)) = 1) (t2 : tg f E (by2 f (p + 4)) = 1) : FN a b f n E tx B f0 (k + 1) I R := fun j hj => by
  by_cases e : j = k
  · rw [e, ← hp]
    exact ⟨s, d, h1, h2, h3, h4, t1, t2⟩
  · exact h j (by omega)
theorem ffl_0 (c x : Nat) : fflN c x = 0 ↔ (oneN x = 0 ∨ ¬ hallN x 80 = 0 ∨ (¬ aN c 512 = 0 ∧ ¬ aN x 16607 = 25)) := by
  have h1 := ffl_25 x
  have h2 := has_0 c 512
  unfold fflN
  split
  · split <;> omega
  · split <;> omega

section FHS
variable {f : Nat → Int32} {n : Nat} {E : List (Nat × Nat)} {c k p : Nat} {B : List Nat}
theorem fh_19 (h : fflN c (by2 f p) = 0) : fhS f n E c B k p = some (19, p) := by
  unfold fhS
  rw [if_pos h]
theorem fh_20 (h : ¬ fflN c (by2 f p) = 0) (h1 : unqN (tX f n E (by2 f (p + 2))) = 0) : fhS f n E c B k p = some (20, p + 2) := by
  unfold fhS
  rw [if_neg h, if_pos h1]
theorem fh_21 (h : ¬ fflN c (by2 f p) = 0) (h1 : ¬ unqN (tX f n E (by2 f (p + 2))) = 0) (h2 : fldN (tX f n E (by2 f (p + 4))) = 0) : fhS f n E c B k p = some (21, p + 4) := by
  unfold fhS
  rw [if_neg h, if_neg h1, if_pos h2]
theorem fh_22 (hp : p = B.getD k 0) (h : ¬ fflN c (by2 f p) = 0) (h1 : ¬ unqN (tX f n E (by2 f (p + 2))) = 0) (h2 : ¬ fldN (tX f n E (by2 f (p + 4))) = 0) (h3 : ¬ smeS f n E B (by2 f (p + 2)) (by2 f (p + 4)) k 0 = none) : fhS f n E c B k p = some (22, p) := by
  unfold fhS
  rw [if_neg h, if_neg h1, if_neg h2, if_neg h3]
theorem fh_n (hp : p = B.getD k 0) (h : ¬ fflN c (by2 f p) = 0) (h1 : ¬ unqN (tX f n E (by2 f (p + 2))) = 0) (h2 : ¬ fldN (tX f n E (by2 f (p + 4))) = 0) (h3 : smeS f n E B (by2 f (p + 2)) (by2 f (p + 4)) k 0 = none) : fhS f n E c B k p = none := by
  unfold fhS
  rw [if_neg h, if_neg h1, if_neg h2, if_pos h3]
end FHS
set_option maxHeartbeats 8000000 in
theorem rd_checkFields {g : xe_G} {m0 : Nat} {q : Nat → Nat} {z : Nat × Nat} {I : rI} {R : rR} {M : mi_H} {n : Nat} {f : Nat → Int32} {tx : List (List Nat)} {cN : Nat} {A : Nat → Nat} {N mj : Nat} {E : List (Nat × Nat)} {pF f0 cf : Nat} {B : List Nat} {E1 : Nat → Nat} (hR : RS g m0 q z I R M) (hi51 : I 51 = some 0) (hi52 : I 52 = some (nI N)) (hi53 : I 53 = some (nI mj)) (hi58 : I 58 = some (nI cf)) (hi55 : I 55 = some (nI pF)) (hi25 : I 25 = some (nI f0)) (hF : FK n f I R) (hY : SYT tx cN A I R) (hP : RPV f n E tx N I R) (hK : KX I R) (hEP : EP f n E) (hN : N < 65536) (hmj : mj < 65536) (hMB : MBS f n B pF E1) (hf0 : f0 ≤ 8300) (hcf : cf < 65536) : pt (mT g) 189 [.ref m0] M (fun v M' => (∃  (I' : rI) (R' : rR), (flS f n E cf B B.length 0 = none) ∧ v = some (.int 1) ∧ RS g m0 q z I' R' M' ∧ eqI [25, 47, 48] I I' ∧ eqR [27, 28, 29, 30, 31, 32, 33] R R' ∧ I' 25 = some (nI (f0 + B.length))) ∨ (∃ (e9 : Nat × Nat) (I' : rI) (R' : rR), (flS f n E cf B B.length 0 = some e9) ∧ v = some (.int 0) ∧ RS g m0 q z I' R' M' ∧ eqI [25, 47, 48] I I' ∧ eqR [27, 28, 29, 30, 31, 32, 33] R R' ∧ I' 47 = some (nI e9.1) ∧ I' 48 = some (nI e9.2))) := by
  refine pt_in (b := mb_189 g) rfl (fun kf => ?_)
  show pl (mT g) kf (mb_189 g).2 (0, [(0, .ref m0)], [], M) _
  have hEI : eqI [25, 47, 48] I I := eqI.rf
  have hER : eqR [27, 28, 29, 30, 31, 32, 33] R R := eqR.rf
  have hn := hF.1
  have hBl := hMB.1
  have hp2 := hMB.2.1
  have hFN0 : FN 28 29 f n E tx B f0 0 I R := fun j hj => absurd hj (Nat.not_lt_zero _)
  have LL : ∀ (kf : Nat), (∀ (k p : Nat) (M1 : mi_H) (I1 : rI) (R1 : rR), (RS g m0 q z I1 R1 M1) → (eqI [25, 47, 48] I I1) → (eqR [27, 28, 29, 30, 31, 32, 33] R R1) → (I1 51 = some 0) → (I1 52 = some (nI N)) → (I1 53 = some (nI mj)) → (I1 58 = some (nI cf)) → (I1 55 = some (nI pF)) → (I1 25 = some (nI (f0 + k))) → (FK n f I1 R1) → (SYT tx cN A I1 R1) → (RPV f n E tx N I1 R1) → (KX I1 R1) → (FN 28 29 f n E tx B f0 k I1 R1) → (k ≤ by2 f pF) → (k < by2 f pF → p = B.getD k 0) → (p ≤ n) → (flS f n E cf B (B.length - k) k = flS f n E cf B B.length 0) →  pl (mT g) kf (mb_189 g).2 (22, [(0, .ref m0), (1, .int (nI p)), (2, .int (nI (by2 f pF))), (3, .int (nI f0)), (4, .int (nI k))], [], M1) (fun v M' => (∃  (I' : rI) (R' : rR), (flS f n E cf B B.length 0 = none) ∧ v = some (.int 1) ∧ RS g m0 q z I' R' M' ∧ eqI [25, 47, 48] I I' ∧ eqR [27, 28, 29, 30, 31, 32, 33] R R' ∧ I' 25 = some (nI (f0 + B.length))) ∨ (∃ (e9 : Nat × Nat) (I' : rI) (R' : rR), (flS f n E cf B B.length 0 = some e9) ∧ v = some (.int 0) ∧ RS g m0 q z I' R' M' ∧ eqI [25, 47, 48] I I' ∧ eqR [27, 28, 29, 30, 31, 32, 33] R R' ∧ I' 47 = some (nI e9.1) ∧ I' 48 = some (nI e9.2)))) ∧ (∀ (k p j a d : Nat) (M1 : mi_H) (I1 : rI) (R1 : rR), (RS g m0 q z I1 R1 M1) → (eqI [25, 47, 48] I I1) → (eqR [27, 28, 29, 30, 31, 32, 33] R R1) → (I1 51 = some 0) → (I1 52 = some (nI N)) → (I1 53 = some (nI mj)) → (I1 58 = some (nI cf)) → (I1 55 = some (nI pF)) → (I1 25 = some (nI (f0 + k))) → (FK n f I1 R1) → (SYT tx cN A I1 R1) → (RPV f n E tx N I1 R1) → (KX I1 R1) → (FN 28 29 f n E tx B f0 k I1 R1) → (CE 27 (f0 + k) (nI (by2 f p)) I1 R1) → (CE 28 (f0 + k) (nI a) I1 R1) → (CE 29 (f0 + k) (nI d) I1 R1) → (k < by2 f pF) → (p = B.getD k 0) → (p + 8 ≤ n) → (flS f n E cf B (B.length - k) k = flS f n E cf B B.length 0) → (j ≤ k) → (f0 + k < 8300) → (a < tx.length ∧ tx.getD a [] = tX f n E (by2 f (p + 2))) → (d < tx.length ∧ tx.getD d [] = tX f n E (by2 f (p + 4))) → (tg f E (by2 f (p + 2)) = 1) → (tg f E (by2 f (p + 4)) = 1) → (¬ fflN cf (by2 f p) = 0) → (¬ unqN (tX f n E (by2 f (p + 2))) = 0) → (¬ fldN (tX f n E (by2 f (p + 4))) = 0) → (smeS f n E B (by2 f (p + 2)) (by2 f (p + 4)) (k - j) j = smeS f n E B (by2 f (p + 2)) (by2 f (p + 4)) k 0) →  pl (mT g) kf (mb_189 g).2 (277, [(0, .ref m0), (1, .int (nI p)), (2, .int (nI (by2 f pF))), (3, .int (nI f0)), (4, .int (nI k)), (6, .int (nI (f0 + k))), (7, .int (nI (f0 + j)))], [], M1) (fun v M' => (∃  (I' : rI) (R' : rR), (flS f n E cf B B.length 0 = none) ∧ v = some (.int 1) ∧ RS g m0 q z I' R' M' ∧ eqI [25, 47, 48] I I' ∧ eqR [27, 28, 29, 30, 31, 32, 33] R R' ∧ I' 25 = some (nI (f0 + B.length))) ∨ (∃ (e9 : Nat × Nat) (I' : rI) (R' : rR), (flS f n E cf B B.length 0 = some e9) ∧ v = some (.int 0) ∧ RS g m0 q z I' R' M' ∧ eqI [25, 47, 48] I I' ∧ eqR [27, 28, 29, 30, 31, 32, 33] R R' ∧ I' 47 = some (nI e9.1) ∧ I' 48 = some (nI e9.2)))) := by
    intro kf
    induction kf with
    | zero => exact ⟨by intros; exact pl_0, by intros; exact pl_0⟩
    | succ kf ih =>
      refine ⟨?_, ?_⟩
      · skip
        intro k p M1 I1 R1 hR1 hEI1 hER1 hl51 hl52 hl53 hl58 hl55 hl25 hF1 hY1 hP1 hK1 hN91 hk hp hpn hs
        have hn := hF1.1
        have hu9 := by2_lt f pF
        have htl := hY1.1.2.2.1
        have hBl := hMB.1
        refine ps_st1 (S' := (24, [(0, .ref m0), (1, .int (nI p)), (2, .int (nI (by2 f pF))), (3, .int (nI f0)), (4, .int (nI k))], [.int (nI k)], M1)) rfl rfl rfl ?_
        refine ps_st (S' := (25, [(0, .ref m0), (1, .int (nI p)), (2, .int (nI (by2 f pF))), (3, .int (nI f0)), (4, .int (nI k))], [.int (nI (by2 f pF)), .int (nI k)], M1)) rfl rfl rfl ?_
        refine ps_if2 (S1 := (366, [(0, .ref m0), (1, .int (nI p)), (2, .int (nI (by2 f pF))), (3, .int (nI f0)), (4, .int (nI k))], [], M1)) (S2 := (28, [(0, .ref m0), (1, .int (nI p)), (2, .int (nI (by2 f pF))), (3, .int (nI f0)), (4, .int (nI k))], [], M1)) rfl rfl rfl (fun c_25 => ?_) (fun c_25 => ?_)
        · have c_25 : (nI (by2 f pF)) ≤ (nI k) := of_decide_eq_true c_25
          have n_25 : by2 f pF ≤ k := (le_nI (p := by2 f pF) (n := k) (Nat.lt_trans (by2_lt _ _) (by decide)) (by omega)).mp c_25
          refine ps_st (S' := (367, [(0, .ref m0), (1, .int (nI p)), (2, .int (nI (by2 f pF))), (3, .int (nI f0)), (4, .int (nI k))], [.int 1], M1)) rfl rfl rfl ?_
          exact ps_ret rfl rfl (Or.inl ⟨I1, R1, by
              rw [← hs, show B.length - k = 0 by omega]
              rfl, rfl, hR1, hEI1, hER1, by rw [show B.length = k by omega]; exact hl25⟩)
        · have c_25 : ¬ ((nI (by2 f pF)) ≤ (nI k)) := of_decide_eq_false c_25
          have n_25 : ¬ (by2 f pF ≤ k) := fun h9 => c_25 ((le_nI (p := by2 f pF) (n := k) (Nat.lt_trans (by2_lt _ _) (by decide)) (by omega)).mpr h9)
          have hpk := hp (by omega)
          have hm8 := (hMB.2.2.2 k (by omega)).1
          have hm7 := (hMB.2.2.2 k (by omega)).2.1
          rw [← hpk] at hm8
          have hpe : p + 8 ≤ n := by omega
          have hu8 := by2_lt f p
          refine ps_st (S' := (29, [(0, .ref m0), (1, .int (nI p)), (2, .int (nI (by2 f pF))), (3, .int (nI f0)), (4, .int (nI k))], [.ref m0], M1)) rfl rfl rfl ?_
          refine ps_st (S' := (30, [(0, .ref m0), (1, .int (nI p)), (2, .int (nI (by2 f pF))), (3, .int (nI f0)), (4, .int (nI k))], [.int (nI p), .ref m0], M1)) rfl rfl rfl ?_
          refine pl_call (a := [.ref m0, .int (nI p)]) (rest := []) rfl rfl rfl (rd_u2 (n := n) (f := f) (p := p) hR1 hF1 (by omega)) (fun v1 M2 q3 => ?_)
          obtain ⟨rfl, rfl⟩ := q3
          show pl _ _ _ (33, [(0, .ref m0), (1, .int (nI p)), (2, .int (nI (by2 f pF))), (3, .int (nI f0)), (4, .int (nI k))], [.int (nI (by2 f p))], M1) _
          have hu_30 := by2_lt f p
          refine ps_st (S' := (35, [(5, .int (nI (by2 f p))), (0, .ref m0), (1, .int (nI p)), (2, .int (nI (by2 f pF))), (3, .int (nI f0)), (4, .int (nI k))], [], M1)) rfl rfl rfl ?_
          refine ps_st (S' := (37, [(5, .int (nI (by2 f p))), (0, .ref m0), (1, .int (nI p)), (2, .int (nI (by2 f pF))), (3, .int (nI f0)), (4, .int (nI k))], [.int (nI (by2 f p))], M1)) rfl rfl rfl ?_
          refine ps_st (S' := (38, [(5, .int (nI (by2 f p))), (0, .ref m0), (1, .int (nI p)), (2, .int (nI (by2 f pF))), (3, .int (nI f0)), (4, .int (nI k))], [.int 1, .int (nI (by2 f p))], M1)) rfl rfl rfl ?_
          refine ps_st (S' := (39, [(5, .int (nI (by2 f p))), (0, .ref m0), (1, .int (nI p)), (2, .int (nI (by2 f pF))), (3, .int (nI f0)), (4, .int (nI k))], [.int 2, .int 1, .int (nI (by2 f p))], M1)) rfl rfl rfl ?_
          refine ps_st (S' := (40, [(5, .int (nI (by2 f p))), (0, .ref m0), (1, .int (nI p)), (2, .int (nI (by2 f pF))), (3, .int (nI f0)), (4, .int (nI k))], [.int 4, .int 2, .int 1, .int (nI (by2 f p))], M1)) rfl rfl rfl ?_
          refine pl_call (a := [.int (nI (by2 f p)), .int 1, .int 2, .int 4]) (rest := []) rfl rfl rfl (rd_several (x := (by2 f p))) (fun v4 M5 q6 => ?_)
          obtain ⟨rfl, rfl⟩ := q6
          show pl _ _ _ (43, [(5, .int (nI (by2 f p))), (0, .ref m0), (1, .int (nI p)), (2, .int (nI (by2 f pF))), (3, .int (nI f0)), (4, .int (nI k))], [.int (nI (sevN (by2 f p)))], M1) _
          refine ps_if (S1 := (84, [(0, .ref m0), (1, .int (nI p))], [], M1)) (S2 := (46, [(5, .int (nI (by2 f p))), (0, .ref m0), (1, .int (nI p)), (2, .int (nI (by2 f pF))), (3, .int (nI f0)), (4, .int (nI k))], [], M1)) rfl rfl rfl (fun c_43 => ?_) (fun c_43 => ?_)
          · have c_43 : ¬ (nI (sevN (by2 f p))) = 0 := of_decide_eq_true c_43
            have n_43 : ¬ (sevN (by2 f p) = 0) := fun h9 => c_43 ((eq_nI (p := sevN (by2 f p)) (n := 0) (Nat.lt_trans (le1_sev _) (by decide)) (by decide)).mpr h9)
            refine ps_st (S' := (85, [(0, .ref m0), (1, .int (nI p))], [.ref m0], M1)) rfl rfl rfl ?_
            refine ps_st (S' := (87, [(0, .ref m0), (1, .int (nI p))], [.int 19, .ref m0], M1)) rfl rfl rfl ?_
            refine ps_st (S' := (88, [(0, .ref m0), (1, .int (nI p))], [.int (nI p), .int 19, .ref m0], M1)) rfl rfl rfl ?_
            refine pl_call (a := [.ref m0, .int 19, .int (nI p)]) (rest := []) rfl rfl rfl (rd_wrong (x1 := 19) (x2 := (nI p)) hR1) (fun v7 M8 q9 => ?_)
            obtain ⟨I10, R11, rfl, hR12, hI13, hX14, hi15, hi16⟩ := q9
            have hi17 := (hI13 51 (by decide)).trans hl51
            have hi18 := (hI13 52 (by decide)).trans hl52
            have hi19 := (hI13 53 (by decide)).trans hl53
            have hi20 := (hI13 58 (by decide)).trans hl58
            have hi21 := (hI13 55 (by decide)).trans hl55
            have hi22 := (hI13 25 (by decide)).trans hl25
            have hF_23 := hF1.mono (cIx hI13 (by decide)) (cRx hX14 (by decide))
            have hY_24 := hY1.mono (cIx hI13 (by decide)) (cRx hX14 (by decide))
            have hP_25 := hP1.mono (cIx hI13 (by decide)) (cRx hX14 (by decide))
            have hK_26 := hK1.mono (cIx hI13 (by decide)) (cRx hX14 (by decide))
            have hN9_27 := hN91.mono (cIx hI13 (by decide)) (cRx hX14 (by decide))
            have hEI28 := hEI1.tr hI13 (by decide)
            have hER29 := hER1.tr hX14 (by decide)
            show pl _ _ _ (91, [(0, .ref m0), (1, .int (nI p))], [.int 0], M8) _
            exact ps_ret rfl rfl (Or.inr ⟨(19, p), I10, R11, by
                rw [← hs, flS_st (i := k) (by omega), ← hpk, fh_19 (by have e1 := ffl_0 cf (by2 f p); have e2 := sev_0 (by2 f p); have e3 := hall_80 (by2 f p); omega)], rfl, hR12, hEI28, hER29, hi15, hi16⟩)
          · have c_43 : ¬ (¬ (nI (sevN (by2 f p))) = 0) := of_decide_eq_false c_43
            have n_43 : sevN (by2 f p) = 0 := (eq_nI (p := sevN (by2 f p)) (n := 0) (Nat.lt_trans (le1_sev _) (by decide)) (by decide)).mp (Decidable.not_not.mp c_43)
            refine ps_st (S' := (48, [(5, .int (nI (by2 f p))), (0, .ref m0), (1, .int (nI p)), (2, .int (nI (by2 f pF))), (3, .int (nI f0)), (4, .int (nI k))], [.int (nI (by2 f p))], M1)) rfl rfl rfl ?_
            refine ps_st (S' := (50, [(5, .int (nI (by2 f p))), (0, .ref m0), (1, .int (nI p)), (2, .int (nI (by2 f pF))), (3, .int (nI f0)), (4, .int (nI k))], [.int 16, .int (nI (by2 f p))], M1)) rfl rfl rfl ?_
            refine ps_st (S' := (51, [(5, .int (nI (by2 f p))), (0, .ref m0), (1, .int (nI p)), (2, .int (nI (by2 f pF))), (3, .int (nI f0)), (4, .int (nI k))], [.int ((nI (by2 f p)) &&& 16)], M1)) rfl rfl rfl ?_
            rw [nI_an (p := by2 f p) (k := 16) (x := 16) rfl]
            show pl _ _ _ (_, [(5, .int (nI (by2 f p))), (0, .ref m0), (1, .int (nI p)), (2, .int (nI (by2 f pF))), (3, .int (nI f0)), (4, .int (nI k))], [.int (nI (aN (by2 f p) 16))], M1) _
            refine ps_if (S1 := (62, [(0, .ref m0), (1, .int (nI p)), (2, .int (nI (by2 f pF))), (3, .int (nI f0)), (4, .int (nI k)), (5, .int (nI (by2 f p)))], [], M1)) (S2 := (54, [(5, .int (nI (by2 f p))), (0, .ref m0), (1, .int (nI p)), (2, .int (nI (by2 f pF))), (3, .int (nI f0)), (4, .int (nI k))], [], M1)) rfl rfl rfl (fun c_51 => ?_) (fun c_51 => ?_)
            · have c_51 : (nI (aN (by2 f p) 16)) = 0 := of_decide_eq_true c_51
              have n_51 : aN (by2 f p) 16 = 0 := (eq_nI (p := aN (by2 f p) 16) (n := 0) (Nat.lt_of_le_of_lt (an_le _ _) (by decide)) (by decide)).mp c_51
              refine ps_st (S' := (63, [(0, .ref m0), (1, .int (nI p)), (2, .int (nI (by2 f pF))), (3, .int (nI f0)), (4, .int (nI k)), (5, .int (nI (by2 f p)))], [.ref m0], M1)) rfl rfl rfl ?_
              refine pr_int (j := 58) (S' := (66, [(0, .ref m0), (1, .int (nI p)), (2, .int (nI (by2 f pF))), (3, .int (nI f0)), (4, .int (nI k)), (5, .int (nI (by2 f p)))], [.int (nI cf)], M1)) rfl hR1 rfl hl58 rfl ?_
              refine ps_st (S' := (69, [(0, .ref m0), (1, .int (nI p)), (2, .int (nI (by2 f pF))), (3, .int (nI f0)), (4, .int (nI k)), (5, .int (nI (by2 f p)))], [.int 512, .int (nI cf)], M1)) rfl rfl rfl ?_
              refine ps_st (S' := (70, [(0, .ref m0), (1, .int (nI p)), (2, .int (nI (by2 f pF))), (3, .int (nI f0)), (4, .int (nI k)), (5, .int (nI (by2 f p)))], [.int ((nI cf) &&& 512)], M1)) rfl rfl rfl ?_
              rw [nI_an (p := cf) (k := 512) (x := 512) rfl]
              show pl _ _ _ (_, [(0, .ref m0), (1, .int (nI p)), (2, .int (nI (by2 f pF))), (3, .int (nI f0)), (4, .int (nI k)), (5, .int (nI (by2 f p)))], [.int (nI (aN cf 512))], M1) _
              refine ps_if (S1 := (92, [(0, .ref m0), (1, .int (nI p)), (2, .int (nI (by2 f pF))), (3, .int (nI f0)), (4, .int (nI k)), (5, .int (nI (by2 f p)))], [], M1)) (S2 := (73, [(0, .ref m0), (1, .int (nI p)), (2, .int (nI (by2 f pF))), (3, .int (nI f0)), (4, .int (nI k)), (5, .int (nI (by2 f p)))], [], M1)) rfl rfl rfl (fun c_70 => ?_) (fun c_70 => ?_)
              · have c_70 : (nI (aN cf 512)) = 0 := of_decide_eq_true c_70
                have n_70 : aN cf 512 = 0 := (eq_nI (p := aN cf 512) (n := 0) (Nat.lt_of_le_of_lt (an_le _ _) (by decide)) (by decide)).mp c_70
                refine ps_st (S' := (93, [(0, .ref m0), (1, .int (nI p)), (2, .int (nI (by2 f pF))), (3, .int (nI f0)), (4, .int (nI k)), (5, .int (nI (by2 f p)))], [.ref m0], M1)) rfl rfl rfl ?_
                refine ps_st (S' := (94, [(0, .ref m0), (1, .int (nI p)), (2, .int (nI (by2 f pF))), (3, .int (nI f0)), (4, .int (nI k)), (5, .int (nI (by2 f p)))], [.ref m0, .ref m0], M1)) rfl rfl rfl ?_
                refine ps_st (S' := (95, [(0, .ref m0), (1, .int (nI p)), (2, .int (nI (by2 f pF))), (3, .int (nI f0)), (4, .int (nI k)), (5, .int (nI (by2 f p)))], [.int (nI p), .ref m0, .ref m0], M1)) rfl rfl rfl ?_
                refine ps_st (S' := (96, [(0, .ref m0), (1, .int (nI p)), (2, .int (nI (by2 f pF))), (3, .int (nI f0)), (4, .int (nI k)), (5, .int (nI (by2 f p)))], [.int 2, .int (nI p), .ref m0, .ref m0], M1)) rfl rfl rfl ?_
                refine ps_st (S' := (97, [(0, .ref m0), (1, .int (nI p)), (2, .int (nI (by2 f pF))), (3, .int (nI f0)), (4, .int (nI k)), (5, .int (nI (by2 f p)))], [.int ((nI p) + 2), .ref m0, .ref m0], M1)) rfl rfl rfl ?_
                rw [nI_add1 (p := p) (k := 2) (x := 2) rfl (by omega)]
                show pl _ _ _ (_, [(0, .ref m0), (1, .int (nI p)), (2, .int (nI (by2 f pF))), (3, .int (nI f0)), (4, .int (nI k)), (5, .int (nI (by2 f p)))], [.int (nI (p + 2)), .ref m0, .ref m0], M1) _
                refine pl_call (a := [.ref m0, .int (nI (p + 2))]) (rest := [.ref m0]) rfl rfl rfl (rd_u2 (n := n) (f := f) (p := (p + 2)) hR1 hF1 (by omega)) (fun v30 M31 q32 => ?_)
                obtain ⟨rfl, rfl⟩ := q32
                show pl _ _ _ (100, [(0, .ref m0), (1, .int (nI p)), (2, .int (nI (by2 f pF))), (3, .int (nI f0)), (4, .int (nI k)), (5, .int (nI (by2 f p)))], [.int (nI (by2 f (p + 2))), .ref m0], M1) _
                have hu_97 := by2_lt f (p + 2)
                refine pl_call (a := [.ref m0, .int (nI (by2 f (p + 2)))]) (rest := []) rfl rfl rfl (rd_tag (n := n) (f := f) (tx := tx) (cN := cN) (A := A) (N := N) (mj := mj) (E := E) (k := (by2 f (p + 2))) hR1 hl51 hl52 hl53 hF1 hY1 hP1 (hEP) (hN) (hmj) (by2_lt _ _)) (fun v33 M34 q35 => ?_)
                obtain ⟨rfl, rfl⟩ := q35
                show pl _ _ _ (103, [(0, .ref m0), (1, .int (nI p)), (2, .int (nI (by2 f pF))), (3, .int (nI f0)), (4, .int (nI k)), (5, .int (nI (by2 f p)))], [.int (nI (tg f E (by2 f (p + 2))))], M1) _
                have htg_100 := tg_lt f E (by2 f (p + 2))
                refine ps_st (S' := (104, [(0, .ref m0), (1, .int (nI p)), (2, .int (nI (by2 f pF))), (3, .int (nI f0)), (4, .int (nI k)), (5, .int (nI (by2 f p)))], [.int 1, .int (nI (tg f E (by2 f (p + 2))))], M1)) rfl rfl rfl ?_
                refine ps_if2 (S1 := (126, [(0, .ref m0), (1, .int (nI p))], [], M1)) (S2 := (107, [(0, .ref m0), (1, .int (nI p)), (2, .int (nI (by2 f pF))), (3, .int (nI f0)), (4, .int (nI k)), (5, .int (nI (by2 f p)))], [], M1)) rfl rfl rfl (fun c_104 => ?_) (fun c_104 => ?_)
                · have c_104 : ¬ (nI (tg f E (by2 f (p + 2)))) = 1 := of_decide_eq_true c_104
                  have n_104 : ¬ (tg f E (by2 f (p + 2)) = 1) := fun h9 => c_104 ((eq_nI (p := tg f E (by2 f (p + 2))) (n := 1) (Nat.lt_trans (tg_lt _ _ _) (by decide)) (by decide)).mpr h9)
                  refine ps_st (S' := (127, [(0, .ref m0), (1, .int (nI p))], [.ref m0], M1)) rfl rfl rfl ?_
                  refine ps_st (S' := (129, [(0, .ref m0), (1, .int (nI p))], [.int 20, .ref m0], M1)) rfl rfl rfl ?_
                  refine ps_st (S' := (130, [(0, .ref m0), (1, .int (nI p))], [.int (nI p), .int 20, .ref m0], M1)) rfl rfl rfl ?_
                  refine ps_st (S' := (131, [(0, .ref m0), (1, .int (nI p))], [.int 2, .int (nI p), .int 20, .ref m0], M1)) rfl rfl rfl ?_
                  refine ps_st (S' := (132, [(0, .ref m0), (1, .int (nI p))], [.int ((nI p) + 2), .int 20, .ref m0], M1)) rfl rfl rfl ?_
                  rw [nI_add1 (p := p) (k := 2) (x := 2) rfl (by omega)]
                  show pl _ _ _ (_, [(0, .ref m0), (1, .int (nI p))], [.int (nI (p + 2)), .int 20, .ref m0], M1) _
                  refine pl_call (a := [.ref m0, .int 20, .int (nI (p + 2))]) (rest := []) rfl rfl rfl (rd_wrong (x1 := 20) (x2 := (nI (p + 2))) hR1) (fun v36 M37 q38 => ?_)
                  obtain ⟨I39, R40, rfl, hR41, hI42, hX43, hi44, hi45⟩ := q38
                  have hi46 := (hI42 51 (by decide)).trans hl51
                  have hi47 := (hI42 52 (by decide)).trans hl52
                  have hi48 := (hI42 53 (by decide)).trans hl53
                  have hi49 := (hI42 58 (by decide)).trans hl58
                  have hi50 := (hI42 55 (by decide)).trans hl55
                  have hi51 := (hI42 25 (by decide)).trans hl25
                  have hF_52 := hF1.mono (cIx hI42 (by decide)) (cRx hX43 (by decide))
                  have hY_53 := hY1.mono (cIx hI42 (by decide)) (cRx hX43 (by decide))
                  have hP_54 := hP1.mono (cIx hI42 (by decide)) (cRx hX43 (by decide))
                  have hK_55 := hK1.mono (cIx hI42 (by decide)) (cRx hX43 (by decide))
                  have hN9_56 := hN91.mono (cIx hI42 (by decide)) (cRx hX43 (by decide))
                  have hEI57 := hEI1.tr hI42 (by decide)
                  have hER58 := hER1.tr hX43 (by decide)
                  show pl _ _ _ (135, [(0, .ref m0), (1, .int (nI p))], [.int 0], M37) _
                  exact ps_ret rfl rfl (Or.inr ⟨(20, p + 2), I39, R40, by
                      rw [← hs, flS_st (i := k) (by omega), ← hpk, fh_20 (by have e1 := ffl_0 cf (by2 f p); have e2 := sev_0 (by2 f p); have e3 := hall_80 (by2 f p); omega) (by rw [tx_no (by omega)]; decide)], rfl, hR41, hEI57, hER58, hi44, hi45⟩)
                · have c_104 : ¬ (¬ (nI (tg f E (by2 f (p + 2)))) = 1) := of_decide_eq_false c_104
                  have n_104 : tg f E (by2 f (p + 2)) = 1 := (eq_nI (p := tg f E (by2 f (p + 2))) (n := 1) (Nat.lt_trans (tg_lt _ _ _) (by decide)) (by decide)).mp (Decidable.not_not.mp c_104)
                  refine ps_st (S' := (108, [(0, .ref m0), (1, .int (nI p)), (2, .int (nI (by2 f pF))), (3, .int (nI f0)), (4, .int (nI k)), (5, .int (nI (by2 f p)))], [.ref m0], M1)) rfl rfl rfl ?_
                  refine ps_st (S' := (109, [(0, .ref m0), (1, .int (nI p)), (2, .int (nI (by2 f pF))), (3, .int (nI f0)), (4, .int (nI k)), (5, .int (nI (by2 f p)))], [.ref m0, .ref m0], M1)) rfl rfl rfl ?_
                  refine ps_st (S' := (110, [(0, .ref m0), (1, .int (nI p)), (2, .int (nI (by2 f pF))), (3, .int (nI f0)), (4, .int (nI k)), (5, .int (nI (by2 f p)))], [.ref m0, .ref m0, .ref m0], M1)) rfl rfl rfl ?_
                  refine ps_st (S' := (111, [(0, .ref m0), (1, .int (nI p)), (2, .int (nI (by2 f pF))), (3, .int (nI f0)), (4, .int (nI k)), (5, .int (nI (by2 f p)))], [.int (nI p), .ref m0, .ref m0, .ref m0], M1)) rfl rfl rfl ?_
                  refine ps_st (S' := (112, [(0, .ref m0), (1, .int (nI p)), (2, .int (nI (by2 f pF))), (3, .int (nI f0)), (4, .int (nI k)), (5, .int (nI (by2 f p)))], [.int 2, .int (nI p), .ref m0, .ref m0, .ref m0], M1)) rfl rfl rfl ?_
                  refine ps_st (S' := (113, [(0, .ref m0), (1, .int (nI p)), (2, .int (nI (by2 f pF))), (3, .int (nI f0)), (4, .int (nI k)), (5, .int (nI (by2 f p)))], [.int ((nI p) + 2), .ref m0, .ref m0, .ref m0], M1)) rfl rfl rfl ?_
                  rw [nI_add1 (p := p) (k := 2) (x := 2) rfl (by omega)]
                  show pl _ _ _ (_, [(0, .ref m0), (1, .int (nI p)), (2, .int (nI (by2 f pF))), (3, .int (nI f0)), (4, .int (nI k)), (5, .int (nI (by2 f p)))], [.int (nI (p + 2)), .ref m0, .ref m0, .ref m0], M1) _
                  refine pl_call (a := [.ref m0, .int (nI (p + 2))]) (rest := [.ref m0, .ref m0]) rfl rfl rfl (rd_u2 (n := n) (f := f) (p := (p + 2)) hR1 hF1 (by omega)) (fun v59 M60 q61 => ?_)
                  obtain ⟨rfl, rfl⟩ := q61
                  show pl _ _ _ (116, [(0, .ref m0), (1, .int (nI p)), (2, .int (nI (by2 f pF))), (3, .int (nI f0)), (4, .int (nI k)), (5, .int (nI (by2 f p)))], [.int (nI (by2 f (p + 2))), .ref m0, .ref m0], M1) _
                  have hu_113 := by2_lt f (p + 2)
                  refine pl_call (a := [.ref m0, .int (nI (by2 f (p + 2)))]) (rest := [.ref m0]) rfl rfl rfl (rd_symOf (n := n) (f := f) (tx := tx) (cN := cN) (A := A) (N := N) (mj := mj) (E := E) (k := (by2 f (p + 2))) hR1 hl51 hl52 hl53 hF1 hY1 hP1 (hEP) (hN) (hmj) (by omega)) (fun v62 M63 q64 => ?_)
                  obtain ⟨s65, q116_s, rfl, rfl⟩ := q64
                  show pl _ _ _ (119, [(0, .ref m0), (1, .int (nI p)), (2, .int (nI (by2 f pF))), (3, .int (nI f0)), (4, .int (nI k)), (5, .int (nI (by2 f p)))], [.int (nI s65), .ref m0], M1) _
                  have hsl_116 := q116_s.1
                  have htl_116 := hY1.1.2.2.1
                  refine ps_st (S' := (120, [(0, .ref m0), (1, .int (nI p)), (2, .int (nI (by2 f pF))), (3, .int (nI f0)), (4, .int (nI k)), (5, .int (nI (by2 f p)))], [.int 1, .int (nI s65), .ref m0], M1)) rfl rfl rfl ?_
                  refine pl_call (a := [.ref m0, .int (nI s65), .int 1]) (rest := []) rfl rfl rfl (rd_unq1 (tx := tx) (cN := cN) (A := A) (s := s65) (l := (tX f n E (by2 f (p + 2)))) hR1 hY1 (q116_s)) (fun v66 M67 q68 => ?_)
                  obtain ⟨rfl, rfl⟩ := q68
                  show pl _ _ _ (123, [(0, .ref m0), (1, .int (nI p)), (2, .int (nI (by2 f pF))), (3, .int (nI f0)), (4, .int (nI k)), (5, .int (nI (by2 f p)))], [.int (nI (unqN (tX f n E (by2 f (p + 2)))))], M1) _
                  refine ps_if (S1 := (136, [(0, .ref m0), (1, .int (nI p)), (2, .int (nI (by2 f pF))), (3, .int (nI f0)), (4, .int (nI k)), (5, .int (nI (by2 f p)))], [], M1)) (S2 := (126, [(0, .ref m0), (1, .int (nI p))], [], M1)) rfl rfl rfl (fun c_123 => ?_) (fun c_123 => ?_)
                  · have c_123 : ¬ (nI (unqN (tX f n E (by2 f (p + 2))))) = 0 := of_decide_eq_true c_123
                    have n_123 : ¬ (unqN (tX f n E (by2 f (p + 2))) = 0) := fun h9 => c_123 ((eq_nI (p := unqN (tX f n E (by2 f (p + 2)))) (n := 0) (Nat.lt_trans (le1_unq _) (by decide)) (by decide)).mpr h9)
                    refine ps_st (S' := (137, [(0, .ref m0), (1, .int (nI p)), (2, .int (nI (by2 f pF))), (3, .int (nI f0)), (4, .int (nI k)), (5, .int (nI (by2 f p)))], [.ref m0], M1)) rfl rfl rfl ?_
                    refine ps_st (S' := (138, [(0, .ref m0), (1, .int (nI p)), (2, .int (nI (by2 f pF))), (3, .int (nI f0)), (4, .int (nI k)), (5, .int (nI (by2 f p)))], [.ref m0, .ref m0], M1)) rfl rfl rfl ?_
                    refine ps_st (S' := (139, [(0, .ref m0), (1, .int (nI p)), (2, .int (nI (by2 f pF))), (3, .int (nI f0)), (4, .int (nI k)), (5, .int (nI (by2 f p)))], [.int (nI p), .ref m0, .ref m0], M1)) rfl rfl rfl ?_
                    refine ps_st (S' := (140, [(0, .ref m0), (1, .int (nI p)), (2, .int (nI (by2 f pF))), (3, .int (nI f0)), (4, .int (nI k)), (5, .int (nI (by2 f p)))], [.int 4, .int (nI p), .ref m0, .ref m0], M1)) rfl rfl rfl ?_
                    refine ps_st (S' := (141, [(0, .ref m0), (1, .int (nI p)), (2, .int (nI (by2 f pF))), (3, .int (nI f0)), (4, .int (nI k)), (5, .int (nI (by2 f p)))], [.int ((nI p) + 4), .ref m0, .ref m0], M1)) rfl rfl rfl ?_
                    rw [nI_add1 (p := p) (k := 4) (x := 4) rfl (by omega)]
                    show pl _ _ _ (_, [(0, .ref m0), (1, .int (nI p)), (2, .int (nI (by2 f pF))), (3, .int (nI f0)), (4, .int (nI k)), (5, .int (nI (by2 f p)))], [.int (nI (p + 4)), .ref m0, .ref m0], M1) _
                    refine pl_call (a := [.ref m0, .int (nI (p + 4))]) (rest := [.ref m0]) rfl rfl rfl (rd_u2 (n := n) (f := f) (p := (p + 4)) hR1 hF1 (by omega)) (fun v69 M70 q71 => ?_)
                    obtain ⟨rfl, rfl⟩ := q71
                    show pl _ _ _ (144, [(0, .ref m0), (1, .int (nI p)), (2, .int (nI (by2 f pF))), (3, .int (nI f0)), (4, .int (nI k)), (5, .int (nI (by2 f p)))], [.int (nI (by2 f (p + 4))), .ref m0], M1) _
                    have hu_141 := by2_lt f (p + 4)
                    refine pl_call (a := [.ref m0, .int (nI (by2 f (p + 4)))]) (rest := []) rfl rfl rfl (rd_tag (n := n) (f := f) (tx := tx) (cN := cN) (A := A) (N := N) (mj := mj) (E := E) (k := (by2 f (p + 4))) hR1 hl51 hl52 hl53 hF1 hY1 hP1 (hEP) (hN) (hmj) (by2_lt _ _)) (fun v72 M73 q74 => ?_)
                    obtain ⟨rfl, rfl⟩ := q74
                    show pl _ _ _ (147, [(0, .ref m0), (1, .int (nI p)), (2, .int (nI (by2 f pF))), (3, .int (nI f0)), (4, .int (nI k)), (5, .int (nI (by2 f p)))], [.int (nI (tg f E (by2 f (p + 4))))], M1) _
                    have htg_144 := tg_lt f E (by2 f (p + 4))
                    refine ps_st (S' := (148, [(0, .ref m0), (1, .int (nI p)), (2, .int (nI (by2 f pF))), (3, .int (nI f0)), (4, .int (nI k)), (5, .int (nI (by2 f p)))], [.int 1, .int (nI (tg f E (by2 f (p + 4))))], M1)) rfl rfl rfl ?_
                    refine ps_if2 (S1 := (169, [(0, .ref m0), (1, .int (nI p))], [], M1)) (S2 := (151, [(0, .ref m0), (1, .int (nI p)), (2, .int (nI (by2 f pF))), (3, .int (nI f0)), (4, .int (nI k)), (5, .int (nI (by2 f p)))], [], M1)) rfl rfl rfl (fun c_148 => ?_) (fun c_148 => ?_)
                    · have c_148 : ¬ (nI (tg f E (by2 f (p + 4)))) = 1 := of_decide_eq_true c_148
                      have n_148 : ¬ (tg f E (by2 f (p + 4)) = 1) := fun h9 => c_148 ((eq_nI (p := tg f E (by2 f (p + 4))) (n := 1) (Nat.lt_trans (tg_lt _ _ _) (by decide)) (by decide)).mpr h9)
                      refine ps_st (S' := (170, [(0, .ref m0), (1, .int (nI p))], [.ref m0], M1)) rfl rfl rfl ?_
                      refine ps_st (S' := (172, [(0, .ref m0), (1, .int (nI p))], [.int 21, .ref m0], M1)) rfl rfl rfl ?_
                      refine ps_st (S' := (173, [(0, .ref m0), (1, .int (nI p))], [.int (nI p), .int 21, .ref m0], M1)) rfl rfl rfl ?_
                      refine ps_st (S' := (174, [(0, .ref m0), (1, .int (nI p))], [.int 4, .int (nI p), .int 21, .ref m0], M1)) rfl rfl rfl ?_
                      refine ps_st (S' := (175, [(0, .ref m0), (1, .int (nI p))], [.int ((nI p) + 4), .int 21, .ref m0], M1)) rfl rfl rfl ?_
                      rw [nI_add1 (p := p) (k := 4) (x := 4) rfl (by omega)]
                      show pl _ _ _ (_, [(0, .ref m0), (1, .int (nI p))], [.int (nI (p + 4)), .int 21, .ref m0], M1) _
                      refine pl_call (a := [.ref m0, .int 21, .int (nI (p + 4))]) (rest := []) rfl rfl rfl (rd_wrong (x1 := 21) (x2 := (nI (p + 4))) hR1) (fun v75 M76 q77 => ?_)
                      obtain ⟨I78, R79, rfl, hR80, hI81, hX82, hi83, hi84⟩ := q77
                      have hi85 := (hI81 51 (by decide)).trans hl51
                      have hi86 := (hI81 52 (by decide)).trans hl52
                      have hi87 := (hI81 53 (by decide)).trans hl53
                      have hi88 := (hI81 58 (by decide)).trans hl58
                      have hi89 := (hI81 55 (by decide)).trans hl55
                      have hi90 := (hI81 25 (by decide)).trans hl25
                      have hF_91 := hF1.mono (cIx hI81 (by decide)) (cRx hX82 (by decide))
                      have hY_92 := hY1.mono (cIx hI81 (by decide)) (cRx hX82 (by decide))
                      have hP_93 := hP1.mono (cIx hI81 (by decide)) (cRx hX82 (by decide))
                      have hK_94 := hK1.mono (cIx hI81 (by decide)) (cRx hX82 (by decide))
                      have hN9_95 := hN91.mono (cIx hI81 (by decide)) (cRx hX82 (by decide))
                      have hEI96 := hEI1.tr hI81 (by decide)
                      have hER97 := hER1.tr hX82 (by decide)
                      show pl _ _ _ (178, [(0, .ref m0), (1, .int (nI p))], [.int 0], M76) _
                      exact ps_ret rfl rfl (Or.inr ⟨(21, p + 4), I78, R79, by
                          rw [← hs, flS_st (i := k) (by omega), ← hpk, fh_21 (by have e1 := ffl_0 cf (by2 f p); have e2 := sev_0 (by2 f p); have e3 := hall_80 (by2 f p); omega) (by omega) (by rw [tx_no (by omega)]; decide)], rfl, hR80, hEI96, hER97, hi83, hi84⟩)
                    · have c_148 : ¬ (¬ (nI (tg f E (by2 f (p + 4)))) = 1) := of_decide_eq_false c_148
                      have n_148 : tg f E (by2 f (p + 4)) = 1 := (eq_nI (p := tg f E (by2 f (p + 4))) (n := 1) (Nat.lt_trans (tg_lt _ _ _) (by decide)) (by decide)).mp (Decidable.not_not.mp c_148)
                      refine ps_st (S' := (152, [(0, .ref m0), (1, .int (nI p)), (2, .int (nI (by2 f pF))), (3, .int (nI f0)), (4, .int (nI k)), (5, .int (nI (by2 f p)))], [.ref m0], M1)) rfl rfl rfl ?_
                      refine ps_st (S' := (153, [(0, .ref m0), (1, .int (nI p)), (2, .int (nI (by2 f pF))), (3, .int (nI f0)), (4, .int (nI k)), (5, .int (nI (by2 f p)))], [.ref m0, .ref m0], M1)) rfl rfl rfl ?_
                      refine ps_st (S' := (154, [(0, .ref m0), (1, .int (nI p)), (2, .int (nI (by2 f pF))), (3, .int (nI f0)), (4, .int (nI k)), (5, .int (nI (by2 f p)))], [.ref m0, .ref m0, .ref m0], M1)) rfl rfl rfl ?_
                      refine ps_st (S' := (155, [(0, .ref m0), (1, .int (nI p)), (2, .int (nI (by2 f pF))), (3, .int (nI f0)), (4, .int (nI k)), (5, .int (nI (by2 f p)))], [.int (nI p), .ref m0, .ref m0, .ref m0], M1)) rfl rfl rfl ?_
                      refine ps_st (S' := (156, [(0, .ref m0), (1, .int (nI p)), (2, .int (nI (by2 f pF))), (3, .int (nI f0)), (4, .int (nI k)), (5, .int (nI (by2 f p)))], [.int 4, .int (nI p), .ref m0, .ref m0, .ref m0], M1)) rfl rfl rfl ?_
                      refine ps_st (S' := (157, [(0, .ref m0), (1, .int (nI p)), (2, .int (nI (by2 f pF))), (3, .int (nI f0)), (4, .int (nI k)), (5, .int (nI (by2 f p)))], [.int ((nI p) + 4), .ref m0, .ref m0, .ref m0], M1)) rfl rfl rfl ?_
                      rw [nI_add1 (p := p) (k := 4) (x := 4) rfl (by omega)]
                      show pl _ _ _ (_, [(0, .ref m0), (1, .int (nI p)), (2, .int (nI (by2 f pF))), (3, .int (nI f0)), (4, .int (nI k)), (5, .int (nI (by2 f p)))], [.int (nI (p + 4)), .ref m0, .ref m0, .ref m0], M1) _
                      refine pl_call (a := [.ref m0, .int (nI (p + 4))]) (rest := [.ref m0, .ref m0]) rfl rfl rfl (rd_u2 (n := n) (f := f) (p := (p + 4)) hR1 hF1 (by omega)) (fun v98 M99 q100 => ?_)
                      obtain ⟨rfl, rfl⟩ := q100
                      show pl _ _ _ (160, [(0, .ref m0), (1, .int (nI p)), (2, .int (nI (by2 f pF))), (3, .int (nI f0)), (4, .int (nI k)), (5, .int (nI (by2 f p)))], [.int (nI (by2 f (p + 4))), .ref m0, .ref m0], M1) _
                      have hu_157 := by2_lt f (p + 4)
                      refine pl_call (a := [.ref m0, .int (nI (by2 f (p + 4)))]) (rest := [.ref m0]) rfl rfl rfl (rd_symOf (n := n) (f := f) (tx := tx) (cN := cN) (A := A) (N := N) (mj := mj) (E := E) (k := (by2 f (p + 4))) hR1 hl51 hl52 hl53 hF1 hY1 hP1 (hEP) (hN) (hmj) (by omega)) (fun v101 M102 q103 => ?_)
                      obtain ⟨s104, q160_s, rfl, rfl⟩ := q103
                      show pl _ _ _ (163, [(0, .ref m0), (1, .int (nI p)), (2, .int (nI (by2 f pF))), (3, .int (nI f0)), (4, .int (nI k)), (5, .int (nI (by2 f p)))], [.int (nI s104), .ref m0], M1) _
                      have hsl_160 := q160_s.1
                      have htl_160 := hY1.1.2.2.1
                      refine pl_call (a := [.ref m0, .int (nI s104)]) (rest := []) rfl rfl rfl (rd_isField (tx := tx) (cN := cN) (A := A) (s := s104) (l := (tX f n E (by2 f (p + 4)))) hR1 hY1 (q160_s)) (fun v105 M106 q107 => ?_)
                      obtain ⟨rfl, rfl⟩ := q107
                      show pl _ _ _ (166, [(0, .ref m0), (1, .int (nI p)), (2, .int (nI (by2 f pF))), (3, .int (nI f0)), (4, .int (nI k)), (5, .int (nI (by2 f p)))], [.int (nI (fldN (tX f n E (by2 f (p + 4)))))], M1) _
                      refine ps_if (S1 := (179, [(0, .ref m0), (1, .int (nI p)), (2, .int (nI (by2 f pF))), (3, .int (nI f0)), (4, .int (nI k)), (5, .int (nI (by2 f p)))], [], M1)) (S2 := (169, [(0, .ref m0), (1, .int (nI p))], [], M1)) rfl rfl rfl (fun c_166 => ?_) (fun c_166 => ?_)
                      · have c_166 : ¬ (nI (fldN (tX f n E (by2 f (p + 4))))) = 0 := of_decide_eq_true c_166
                        have n_166 : ¬ (fldN (tX f n E (by2 f (p + 4))) = 0) := fun h9 => c_166 ((eq_nI (p := fldN (tX f n E (by2 f (p + 4)))) (n := 0) (Nat.lt_trans (le1_fld _) (by decide)) (by decide)).mpr h9)
                        refine ps_st (S' := (180, [(0, .ref m0), (1, .int (nI p)), (2, .int (nI (by2 f pF))), (3, .int (nI f0)), (4, .int (nI k)), (5, .int (nI (by2 f p)))], [.ref m0], M1)) rfl rfl rfl ?_
                        refine pr_int (j := 25) (S' := (183, [(0, .ref m0), (1, .int (nI p)), (2, .int (nI (by2 f pF))), (3, .int (nI f0)), (4, .int (nI k)), (5, .int (nI (by2 f p)))], [.int (nI (f0 + k))], M1)) rfl hR1 rfl hl25 rfl ?_
                        refine ps_st (S' := (185, [(6, .int (nI (f0 + k))), (0, .ref m0), (1, .int (nI p)), (2, .int (nI (by2 f pF))), (3, .int (nI f0)), (4, .int (nI k)), (5, .int (nI (by2 f p)))], [], M1)) rfl rfl rfl ?_
                        refine ps_st (S' := (186, [(6, .int (nI (f0 + k))), (0, .ref m0), (1, .int (nI p)), (2, .int (nI (by2 f pF))), (3, .int (nI f0)), (4, .int (nI k)), (5, .int (nI (by2 f p)))], [.ref m0], M1)) rfl rfl rfl ?_
                        refine pr_ref (j := 27) (S' := (189, [(6, .int (nI (f0 + k))), (0, .ref m0), (1, .int (nI p)), (2, .int (nI (by2 f pF))), (3, .int (nI f0)), (4, .int (nI k)), (5, .int (nI (by2 f p)))], [.ref (q 27)], M1)) rfl hR1 rfl rfl ?_
                        refine ps_st (S' := (191, [(6, .int (nI (f0 + k))), (0, .ref m0), (1, .int (nI p)), (2, .int (nI (by2 f pF))), (3, .int (nI f0)), (4, .int (nI k)), (5, .int (nI (by2 f p)))], [.int (nI (f0 + k)), .ref (q 27)], M1)) rfl rfl rfl ?_
                        refine ps_st (S' := (193, [(6, .int (nI (f0 + k))), (0, .ref m0), (1, .int (nI p)), (2, .int (nI (by2 f pF))), (3, .int (nI f0)), (4, .int (nI k)), (5, .int (nI (by2 f p)))], [.int (nI (by2 f p)), .int (nI (f0 + k)), .ref (q 27)], M1)) rfl rfl rfl ?_
                        refine pr_st (a := 27) (j := f0 + k) rfl hR1 rfl (by omega) (fun M108 R109 i1_193 hR110 hS111 => ?_)
                        have hF_112 := hF1.mono (fun _ _ => rfl) (rRx hS111 (by decide))
                        have hY_113 := hY1.mono (fun _ _ => rfl) (rRx hS111 (by decide))
                        have hP_114 := hP1.mono (fun _ _ => rfl) (rRx hS111 (by decide))
                        have hK_115 := hK1.mono (fun _ _ => rfl) (rRx hS111 (by decide))
                        have hN9_116 := hN91.mono (fun _ _ => rfl) (rRx hS111 (by decide))
                        have hER117 := hER1.st hS111 (by decide)
                        show pl _ _ _ (194, [(6, .int (nI (f0 + k))), (0, .ref m0), (1, .int (nI p)), (2, .int (nI (by2 f pF))), (3, .int (nI f0)), (4, .int (nI k)), (5, .int (nI (by2 f p)))], [], M108) _
                        have c27_118 : CE 27 (f0 + k) (nI (by2 f p)) I1 R109 := CE.st hS111
                        refine ps_st (S' := (195, [(6, .int (nI (f0 + k))), (0, .ref m0), (1, .int (nI p)), (2, .int (nI (by2 f pF))), (3, .int (nI f0)), (4, .int (nI k)), (5, .int (nI (by2 f p)))], [.ref m0], M108)) rfl rfl rfl ?_
                        refine pr_ref (j := 28) (S' := (198, [(6, .int (nI (f0 + k))), (0, .ref m0), (1, .int (nI p)), (2, .int (nI (by2 f pF))), (3, .int (nI f0)), (4, .int (nI k)), (5, .int (nI (by2 f p)))], [.ref (q 28)], M108)) rfl hR110 rfl rfl ?_
                        refine ps_st (S' := (200, [(6, .int (nI (f0 + k))), (0, .ref m0), (1, .int (nI p)), (2, .int (nI (by2 f pF))), (3, .int (nI f0)), (4, .int (nI k)), (5, .int (nI (by2 f p)))], [.int (nI (f0 + k)), .ref (q 28)], M108)) rfl rfl rfl ?_
                        refine ps_st (S' := (201, [(6, .int (nI (f0 + k))), (0, .ref m0), (1, .int (nI p)), (2, .int (nI (by2 f pF))), (3, .int (nI f0)), (4, .int (nI k)), (5, .int (nI (by2 f p)))], [.ref m0, .int (nI (f0 + k)), .ref (q 28)], M108)) rfl rfl rfl ?_
                        refine ps_st (S' := (202, [(6, .int (nI (f0 + k))), (0, .ref m0), (1, .int (nI p)), (2, .int (nI (by2 f pF))), (3, .int (nI f0)), (4, .int (nI k)), (5, .int (nI (by2 f p)))], [.ref m0, .ref m0, .int (nI (f0 + k)), .ref (q 28)], M108)) rfl rfl rfl ?_
                        refine ps_st (S' := (203, [(6, .int (nI (f0 + k))), (0, .ref m0), (1, .int (nI p)), (2, .int (nI (by2 f pF))), (3, .int (nI f0)), (4, .int (nI k)), (5, .int (nI (by2 f p)))], [.int (nI p), .ref m0, .ref m0, .int (nI (f0 + k)), .ref (q 28)], M108)) rfl rfl rfl ?_
                        refine ps_st (S' := (204, [(6, .int (nI (f0 + k))), (0, .ref m0), (1, .int (nI p)), (2, .int (nI (by2 f pF))), (3, .int (nI f0)), (4, .int (nI k)), (5, .int (nI (by2 f p)))], [.int 2, .int (nI p), .ref m0, .ref m0, .int (nI (f0 + k)), .ref (q 28)], M108)) rfl rfl rfl ?_
                        refine ps_st (S' := (205, [(6, .int (nI (f0 + k))), (0, .ref m0), (1, .int (nI p)), (2, .int (nI (by2 f pF))), (3, .int (nI f0)), (4, .int (nI k)), (5, .int (nI (by2 f p)))], [.int ((nI p) + 2), .ref m0, .ref m0, .int (nI (f0 + k)), .ref (q 28)], M108)) rfl rfl rfl ?_
                        rw [nI_add1 (p := p) (k := 2) (x := 2) rfl (by omega)]
                        show pl _ _ _ (_, [(6, .int (nI (f0 + k))), (0, .ref m0), (1, .int (nI p)), (2, .int (nI (by2 f pF))), (3, .int (nI f0)), (4, .int (nI k)), (5, .int (nI (by2 f p)))], [.int (nI (p + 2)), .ref m0, .ref m0, .int (nI (f0 + k)), .ref (q 28)], M108) _
                        refine pl_call (a := [.ref m0, .int (nI (p + 2))]) (rest := [.ref m0, .int (nI (f0 + k)), .ref (q 28)]) rfl rfl rfl (rd_u2 (n := n) (f := f) (p := (p + 2)) hR110 hF_112 (by omega)) (fun v119 M120 q121 => ?_)
                        obtain ⟨rfl, rfl⟩ := q121
                        show pl _ _ _ (208, [(6, .int (nI (f0 + k))), (0, .ref m0), (1, .int (nI p)), (2, .int (nI (by2 f pF))), (3, .int (nI f0)), (4, .int (nI k)), (5, .int (nI (by2 f p)))], [.int (nI (by2 f (p + 2))), .ref m0, .int (nI (f0 + k)), .ref (q 28)], M108) _
                        have hu_205 := by2_lt f (p + 2)
                        refine pl_call (a := [.ref m0, .int (nI (by2 f (p + 2)))]) (rest := [.int (nI (f0 + k)), .ref (q 28)]) rfl rfl rfl (rd_symOf (n := n) (f := f) (tx := tx) (cN := cN) (A := A) (N := N) (mj := mj) (E := E) (k := (by2 f (p + 2))) hR110 hl51 hl52 hl53 hF_112 hY_113 hP_114 (hEP) (hN) (hmj) (by omega)) (fun v122 M123 q124 => ?_)
                        obtain ⟨s125, q208_s, rfl, rfl⟩ := q124
                        show pl _ _ _ (211, [(6, .int (nI (f0 + k))), (0, .ref m0), (1, .int (nI p)), (2, .int (nI (by2 f pF))), (3, .int (nI f0)), (4, .int (nI k)), (5, .int (nI (by2 f p)))], [.int (nI s125), .int (nI (f0 + k)), .ref (q 28)], M108) _
                        have hsl_208 := q208_s.1
                        have htl_208 := hY_113.1.2.2.1
                        refine pr_st (a := 28) (j := f0 + k) rfl hR110 rfl (by omega) (fun M126 R127 i1_211 hR128 hS129 => ?_)
                        have hF_130 := hF_112.mono (fun _ _ => rfl) (rRx hS129 (by decide))
                        have hY_131 := hY_113.mono (fun _ _ => rfl) (rRx hS129 (by decide))
                        have hP_132 := hP_114.mono (fun _ _ => rfl) (rRx hS129 (by decide))
                        have hK_133 := hK_115.mono (fun _ _ => rfl) (rRx hS129 (by decide))
                        have c27_134 := c27_118.mono (fun _ _ => rfl) (rRx hS129 (by decide))
                        have hER135 := hER117.st hS129 (by decide)
                        show pl _ _ _ (212, [(6, .int (nI (f0 + k))), (0, .ref m0), (1, .int (nI p)), (2, .int (nI (by2 f pF))), (3, .int (nI f0)), (4, .int (nI k)), (5, .int (nI (by2 f p)))], [], M126) _
                        have c28_136 : CE 28 (f0 + k) (nI s125) I1 R127 := CE.st hS129
                        have hN9_137 := FN.st (I' := I1) hN9_116 hS129 rfl
                        refine ps_st (S' := (213, [(6, .int (nI (f0 + k))), (0, .ref m0), (1, .int (nI p)), (2, .int (nI (by2 f pF))), (3, .int (nI f0)), (4, .int (nI k)), (5, .int (nI (by2 f p)))], [.ref m0], M126)) rfl rfl rfl ?_
                        refine pr_ref (j := 29) (S' := (216, [(6, .int (nI (f0 + k))), (0, .ref m0), (1, .int (nI p)), (2, .int (nI (by2 f pF))), (3, .int (nI f0)), (4, .int (nI k)), (5, .int (nI (by2 f p)))], [.ref (q 29)], M126)) rfl hR128 rfl rfl ?_
                        refine ps_st (S' := (218, [(6, .int (nI (f0 + k))), (0, .ref m0), (1, .int (nI p)), (2, .int (nI (by2 f pF))), (3, .int (nI f0)), (4, .int (nI k)), (5, .int (nI (by2 f p)))], [.int (nI (f0 + k)), .ref (q 29)], M126)) rfl rfl rfl ?_
                        refine ps_st (S' := (219, [(6, .int (nI (f0 + k))), (0, .ref m0), (1, .int (nI p)), (2, .int (nI (by2 f pF))), (3, .int (nI f0)), (4, .int (nI k)), (5, .int (nI (by2 f p)))], [.ref m0, .int (nI (f0 + k)), .ref (q 29)], M126)) rfl rfl rfl ?_
                        refine ps_st (S' := (220, [(6, .int (nI (f0 + k))), (0, .ref m0), (1, .int (nI p)), (2, .int (nI (by2 f pF))), (3, .int (nI f0)), (4, .int (nI k)), (5, .int (nI (by2 f p)))], [.ref m0, .ref m0, .int (nI (f0 + k)), .ref (q 29)], M126)) rfl rfl rfl ?_
                        refine ps_st (S' := (221, [(6, .int (nI (f0 + k))), (0, .ref m0), (1, .int (nI p)), (2, .int (nI (by2 f pF))), (3, .int (nI f0)), (4, .int (nI k)), (5, .int (nI (by2 f p)))], [.int (nI p), .ref m0, .ref m0, .int (nI (f0 + k)), .ref (q 29)], M126)) rfl rfl rfl ?_
                        refine ps_st (S' := (222, [(6, .int (nI (f0 + k))), (0, .ref m0), (1, .int (nI p)), (2, .int (nI (by2 f pF))), (3, .int (nI f0)), (4, .int (nI k)), (5, .int (nI (by2 f p)))], [.int 4, .int (nI p), .ref m0, .ref m0, .int (nI (f0 + k)), .ref (q 29)], M126)) rfl rfl rfl ?_
                        refine ps_st (S' := (223, [(6, .int (nI (f0 + k))), (0, .ref m0), (1, .int (nI p)), (2, .int (nI (by2 f pF))), (3, .int (nI f0)), (4, .int (nI k)), (5, .int (nI (by2 f p)))], [.int ((nI p) + 4), .ref m0, .ref m0, .int (nI (f0 + k)), .ref (q 29)], M126)) rfl rfl rfl ?_
                        rw [nI_add1 (p := p) (k := 4) (x := 4) rfl (by omega)]
                        show pl _ _ _ (_, [(6, .int (nI (f0 + k))), (0, .ref m0), (1, .int (nI p)), (2, .int (nI (by2 f pF))), (3, .int (nI f0)), (4, .int (nI k)), (5, .int (nI (by2 f p)))], [.int (nI (p + 4)), .ref m0, .ref m0, .int (nI (f0 + k)), .ref (q 29)], M126) _
                        refine pl_call (a := [.ref m0, .int (nI (p + 4))]) (rest := [.ref m0, .int (nI (f0 + k)), .ref (q 29)]) rfl rfl rfl (rd_u2 (n := n) (f := f) (p := (p + 4)) hR128 hF_130 (by omega)) (fun v138 M139 q140 => ?_)
                        obtain ⟨rfl, rfl⟩ := q140
                        show pl _ _ _ (226, [(6, .int (nI (f0 + k))), (0, .ref m0), (1, .int (nI p)), (2, .int (nI (by2 f pF))), (3, .int (nI f0)), (4, .int (nI k)), (5, .int (nI (by2 f p)))], [.int (nI (by2 f (p + 4))), .ref m0, .int (nI (f0 + k)), .ref (q 29)], M126) _
                        have hu_223 := by2_lt f (p + 4)
                        refine pl_call (a := [.ref m0, .int (nI (by2 f (p + 4)))]) (rest := [.int (nI (f0 + k)), .ref (q 29)]) rfl rfl rfl (rd_symOf (n := n) (f := f) (tx := tx) (cN := cN) (A := A) (N := N) (mj := mj) (E := E) (k := (by2 f (p + 4))) hR128 hl51 hl52 hl53 hF_130 hY_131 hP_132 (hEP) (hN) (hmj) (by omega)) (fun v141 M142 q143 => ?_)
                        obtain ⟨s144, q226_s, rfl, rfl⟩ := q143
                        show pl _ _ _ (229, [(6, .int (nI (f0 + k))), (0, .ref m0), (1, .int (nI p)), (2, .int (nI (by2 f pF))), (3, .int (nI f0)), (4, .int (nI k)), (5, .int (nI (by2 f p)))], [.int (nI s144), .int (nI (f0 + k)), .ref (q 29)], M126) _
                        have hsl_226 := q226_s.1
                        have htl_226 := hY_131.1.2.2.1
                        refine pr_st (a := 29) (j := f0 + k) rfl hR128 rfl (by omega) (fun M145 R146 i1_229 hR147 hS148 => ?_)
                        have hF_149 := hF_130.mono (fun _ _ => rfl) (rRx hS148 (by decide))
                        have hY_150 := hY_131.mono (fun _ _ => rfl) (rRx hS148 (by decide))
                        have hP_151 := hP_132.mono (fun _ _ => rfl) (rRx hS148 (by decide))
                        have hK_152 := hK_133.mono (fun _ _ => rfl) (rRx hS148 (by decide))
                        have c27_153 := c27_134.mono (fun _ _ => rfl) (rRx hS148 (by decide))
                        have c28_154 := c28_136.mono (fun _ _ => rfl) (rRx hS148 (by decide))
                        have hER155 := hER135.st hS148 (by decide)
                        show pl _ _ _ (230, [(6, .int (nI (f0 + k))), (0, .ref m0), (1, .int (nI p)), (2, .int (nI (by2 f pF))), (3, .int (nI f0)), (4, .int (nI k)), (5, .int (nI (by2 f p)))], [], M145) _
                        have c29_156 : CE 29 (f0 + k) (nI s144) I1 R146 := CE.st hS148
                        have hN9_157 := FN.st (I' := I1) hN9_137 hS148 rfl
                        refine ps_st (S' := (231, [(6, .int (nI (f0 + k))), (0, .ref m0), (1, .int (nI p)), (2, .int (nI (by2 f pF))), (3, .int (nI f0)), (4, .int (nI k)), (5, .int (nI (by2 f p)))], [.ref m0], M145)) rfl rfl rfl ?_
                        refine pr_ref (j := 30) (S' := (234, [(6, .int (nI (f0 + k))), (0, .ref m0), (1, .int (nI p)), (2, .int (nI (by2 f pF))), (3, .int (nI f0)), (4, .int (nI k)), (5, .int (nI (by2 f p)))], [.ref (q 30)], M145)) rfl hR147 rfl rfl ?_
                        refine ps_st (S' := (236, [(6, .int (nI (f0 + k))), (0, .ref m0), (1, .int (nI p)), (2, .int (nI (by2 f pF))), (3, .int (nI f0)), (4, .int (nI k)), (5, .int (nI (by2 f p)))], [.int (nI (f0 + k)), .ref (q 30)], M145)) rfl rfl rfl ?_
                        refine ps_st (S' := (237, [(6, .int (nI (f0 + k))), (0, .ref m0), (1, .int (nI p)), (2, .int (nI (by2 f pF))), (3, .int (nI f0)), (4, .int (nI k)), (5, .int (nI (by2 f p)))], [.int 0, .int (nI (f0 + k)), .ref (q 30)], M145)) rfl rfl rfl ?_
                        refine pr_st (a := 30) (j := f0 + k) rfl hR147 rfl (by omega) (fun M158 R159 i1_237 hR160 hS161 => ?_)
                        have hF_162 := hF_149.mono (fun _ _ => rfl) (rRx hS161 (by decide))
                        have hY_163 := hY_150.mono (fun _ _ => rfl) (rRx hS161 (by decide))
                        have hP_164 := hP_151.mono (fun _ _ => rfl) (rRx hS161 (by decide))
                        have hK_165 := hK_152.mono (fun _ _ => rfl) (rRx hS161 (by decide))
                        have c27_166 := c27_153.mono (fun _ _ => rfl) (rRx hS161 (by decide))
                        have c28_167 := c28_154.mono (fun _ _ => rfl) (rRx hS161 (by decide))
                        have c29_168 := c29_156.mono (fun _ _ => rfl) (rRx hS161 (by decide))
                        have hN9_169 := hN9_157.mono (fun _ _ => rfl) (rRx hS161 (by decide))
                        have hER170 := hER155.st hS161 (by decide)
                        show pl _ _ _ (238, [(6, .int (nI (f0 + k))), (0, .ref m0), (1, .int (nI p)), (2, .int (nI (by2 f pF))), (3, .int (nI f0)), (4, .int (nI k)), (5, .int (nI (by2 f p)))], [], M158) _
                        refine ps_st (S' := (239, [(6, .int (nI (f0 + k))), (0, .ref m0), (1, .int (nI p)), (2, .int (nI (by2 f pF))), (3, .int (nI f0)), (4, .int (nI k)), (5, .int (nI (by2 f p)))], [.ref m0], M158)) rfl rfl rfl ?_
                        refine pr_ref (j := 31) (S' := (242, [(6, .int (nI (f0 + k))), (0, .ref m0), (1, .int (nI p)), (2, .int (nI (by2 f pF))), (3, .int (nI f0)), (4, .int (nI k)), (5, .int (nI (by2 f p)))], [.ref (q 31)], M158)) rfl hR160 rfl rfl ?_
                        refine ps_st (S' := (244, [(6, .int (nI (f0 + k))), (0, .ref m0), (1, .int (nI p)), (2, .int (nI (by2 f pF))), (3, .int (nI f0)), (4, .int (nI k)), (5, .int (nI (by2 f p)))], [.int (nI (f0 + k)), .ref (q 31)], M158)) rfl rfl rfl ?_
                        refine ps_st (S' := (245, [(6, .int (nI (f0 + k))), (0, .ref m0), (1, .int (nI p)), (2, .int (nI (by2 f pF))), (3, .int (nI f0)), (4, .int (nI k)), (5, .int (nI (by2 f p)))], [.int 0, .int (nI (f0 + k)), .ref (q 31)], M158)) rfl rfl rfl ?_
                        refine pr_st (a := 31) (j := f0 + k) rfl hR160 rfl (by omega) (fun M171 R172 i1_245 hR173 hS174 => ?_)
                        have hF_175 := hF_162.mono (fun _ _ => rfl) (rRx hS174 (by decide))
                        have hY_176 := hY_163.mono (fun _ _ => rfl) (rRx hS174 (by decide))
                        have hP_177 := hP_164.mono (fun _ _ => rfl) (rRx hS174 (by decide))
                        have hK_178 := hK_165.mono (fun _ _ => rfl) (rRx hS174 (by decide))
                        have c27_179 := c27_166.mono (fun _ _ => rfl) (rRx hS174 (by decide))
                        have c28_180 := c28_167.mono (fun _ _ => rfl) (rRx hS174 (by decide))
                        have c29_181 := c29_168.mono (fun _ _ => rfl) (rRx hS174 (by decide))
                        have hN9_182 := hN9_169.mono (fun _ _ => rfl) (rRx hS174 (by decide))
                        have hER183 := hER170.st hS174 (by decide)
                        show pl _ _ _ (246, [(6, .int (nI (f0 + k))), (0, .ref m0), (1, .int (nI p)), (2, .int (nI (by2 f pF))), (3, .int (nI f0)), (4, .int (nI k)), (5, .int (nI (by2 f p)))], [], M171) _
                        refine ps_st (S' := (247, [(6, .int (nI (f0 + k))), (0, .ref m0), (1, .int (nI p)), (2, .int (nI (by2 f pF))), (3, .int (nI f0)), (4, .int (nI k)), (5, .int (nI (by2 f p)))], [.ref m0], M171)) rfl rfl rfl ?_
                        refine pr_ref (j := 32) (S' := (250, [(6, .int (nI (f0 + k))), (0, .ref m0), (1, .int (nI p)), (2, .int (nI (by2 f pF))), (3, .int (nI f0)), (4, .int (nI k)), (5, .int (nI (by2 f p)))], [.ref (q 32)], M171)) rfl hR173 rfl rfl ?_
                        refine ps_st (S' := (252, [(6, .int (nI (f0 + k))), (0, .ref m0), (1, .int (nI p)), (2, .int (nI (by2 f pF))), (3, .int (nI f0)), (4, .int (nI k)), (5, .int (nI (by2 f p)))], [.int (nI (f0 + k)), .ref (q 32)], M171)) rfl rfl rfl ?_
                        refine ps_st (S' := (253, [(6, .int (nI (f0 + k))), (0, .ref m0), (1, .int (nI p)), (2, .int (nI (by2 f pF))), (3, .int (nI f0)), (4, .int (nI k)), (5, .int (nI (by2 f p)))], [.ref m0, .int (nI (f0 + k)), .ref (q 32)], M171)) rfl rfl rfl ?_
                        refine ps_st (S' := (254, [(6, .int (nI (f0 + k))), (0, .ref m0), (1, .int (nI p)), (2, .int (nI (by2 f pF))), (3, .int (nI f0)), (4, .int (nI k)), (5, .int (nI (by2 f p)))], [.int (nI p), .ref m0, .int (nI (f0 + k)), .ref (q 32)], M171)) rfl rfl rfl ?_
                        refine ps_st (S' := (255, [(6, .int (nI (f0 + k))), (0, .ref m0), (1, .int (nI p)), (2, .int (nI (by2 f pF))), (3, .int (nI f0)), (4, .int (nI k)), (5, .int (nI (by2 f p)))], [.int 2, .int (nI p), .ref m0, .int (nI (f0 + k)), .ref (q 32)], M171)) rfl rfl rfl ?_
                        refine ps_st (S' := (256, [(6, .int (nI (f0 + k))), (0, .ref m0), (1, .int (nI p)), (2, .int (nI (by2 f pF))), (3, .int (nI f0)), (4, .int (nI k)), (5, .int (nI (by2 f p)))], [.int ((nI p) + 2), .ref m0, .int (nI (f0 + k)), .ref (q 32)], M171)) rfl rfl rfl ?_
                        rw [nI_add1 (p := p) (k := 2) (x := 2) rfl (by omega)]
                        show pl _ _ _ (_, [(6, .int (nI (f0 + k))), (0, .ref m0), (1, .int (nI p)), (2, .int (nI (by2 f pF))), (3, .int (nI f0)), (4, .int (nI k)), (5, .int (nI (by2 f p)))], [.int (nI (p + 2)), .ref m0, .int (nI (f0 + k)), .ref (q 32)], M171) _
                        refine pl_call (a := [.ref m0, .int (nI (p + 2))]) (rest := [.int (nI (f0 + k)), .ref (q 32)]) rfl rfl rfl (rd_u2 (n := n) (f := f) (p := (p + 2)) hR173 hF_175 (by omega)) (fun v184 M185 q186 => ?_)
                        obtain ⟨rfl, rfl⟩ := q186
                        show pl _ _ _ (259, [(6, .int (nI (f0 + k))), (0, .ref m0), (1, .int (nI p)), (2, .int (nI (by2 f pF))), (3, .int (nI f0)), (4, .int (nI k)), (5, .int (nI (by2 f p)))], [.int (nI (by2 f (p + 2))), .int (nI (f0 + k)), .ref (q 32)], M171) _
                        have hu_256 := by2_lt f (p + 2)
                        refine pr_st (a := 32) (j := f0 + k) rfl hR173 rfl (by omega) (fun M187 R188 i1_259 hR189 hS190 => ?_)
                        have hF_191 := hF_175.mono (fun _ _ => rfl) (rRx hS190 (by decide))
                        have hY_192 := hY_176.mono (fun _ _ => rfl) (rRx hS190 (by decide))
                        have hP_193 := hP_177.mono (fun _ _ => rfl) (rRx hS190 (by decide))
                        have hK_194 := hK_178.mono (fun _ _ => rfl) (rRx hS190 (by decide))
                        have c27_195 := c27_179.mono (fun _ _ => rfl) (rRx hS190 (by decide))
                        have c28_196 := c28_180.mono (fun _ _ => rfl) (rRx hS190 (by decide))
                        have c29_197 := c29_181.mono (fun _ _ => rfl) (rRx hS190 (by decide))
                        have hN9_198 := hN9_182.mono (fun _ _ => rfl) (rRx hS190 (by decide))
                        have hER199 := hER183.st hS190 (by decide)
                        show pl _ _ _ (260, [(6, .int (nI (f0 + k))), (0, .ref m0), (1, .int (nI p)), (2, .int (nI (by2 f pF))), (3, .int (nI f0)), (4, .int (nI k)), (5, .int (nI (by2 f p)))], [], M187) _
                        refine ps_st (S' := (261, [(6, .int (nI (f0 + k))), (0, .ref m0), (1, .int (nI p)), (2, .int (nI (by2 f pF))), (3, .int (nI f0)), (4, .int (nI k)), (5, .int (nI (by2 f p)))], [.ref m0], M187)) rfl rfl rfl ?_
                        refine pr_ref (j := 33) (S' := (264, [(6, .int (nI (f0 + k))), (0, .ref m0), (1, .int (nI p)), (2, .int (nI (by2 f pF))), (3, .int (nI f0)), (4, .int (nI k)), (5, .int (nI (by2 f p)))], [.ref (q 33)], M187)) rfl hR189 rfl rfl ?_
                        refine ps_st (S' := (266, [(6, .int (nI (f0 + k))), (0, .ref m0), (1, .int (nI p)), (2, .int (nI (by2 f pF))), (3, .int (nI f0)), (4, .int (nI k)), (5, .int (nI (by2 f p)))], [.int (nI (f0 + k)), .ref (q 33)], M187)) rfl rfl rfl ?_
                        refine ps_st (S' := (267, [(6, .int (nI (f0 + k))), (0, .ref m0), (1, .int (nI p)), (2, .int (nI (by2 f pF))), (3, .int (nI f0)), (4, .int (nI k)), (5, .int (nI (by2 f p)))], [.ref m0, .int (nI (f0 + k)), .ref (q 33)], M187)) rfl rfl rfl ?_
                        refine ps_st (S' := (268, [(6, .int (nI (f0 + k))), (0, .ref m0), (1, .int (nI p)), (2, .int (nI (by2 f pF))), (3, .int (nI f0)), (4, .int (nI k)), (5, .int (nI (by2 f p)))], [.int (nI p), .ref m0, .int (nI (f0 + k)), .ref (q 33)], M187)) rfl rfl rfl ?_
                        refine ps_st (S' := (269, [(6, .int (nI (f0 + k))), (0, .ref m0), (1, .int (nI p)), (2, .int (nI (by2 f pF))), (3, .int (nI f0)), (4, .int (nI k)), (5, .int (nI (by2 f p)))], [.int 4, .int (nI p), .ref m0, .int (nI (f0 + k)), .ref (q 33)], M187)) rfl rfl rfl ?_
                        refine ps_st (S' := (270, [(6, .int (nI (f0 + k))), (0, .ref m0), (1, .int (nI p)), (2, .int (nI (by2 f pF))), (3, .int (nI f0)), (4, .int (nI k)), (5, .int (nI (by2 f p)))], [.int ((nI p) + 4), .ref m0, .int (nI (f0 + k)), .ref (q 33)], M187)) rfl rfl rfl ?_
                        rw [nI_add1 (p := p) (k := 4) (x := 4) rfl (by omega)]
                        show pl _ _ _ (_, [(6, .int (nI (f0 + k))), (0, .ref m0), (1, .int (nI p)), (2, .int (nI (by2 f pF))), (3, .int (nI f0)), (4, .int (nI k)), (5, .int (nI (by2 f p)))], [.int (nI (p + 4)), .ref m0, .int (nI (f0 + k)), .ref (q 33)], M187) _
                        refine pl_call (a := [.ref m0, .int (nI (p + 4))]) (rest := [.int (nI (f0 + k)), .ref (q 33)]) rfl rfl rfl (rd_u2 (n := n) (f := f) (p := (p + 4)) hR189 hF_191 (by omega)) (fun v200 M201 q202 => ?_)
                        obtain ⟨rfl, rfl⟩ := q202
                        show pl _ _ _ (273, [(6, .int (nI (f0 + k))), (0, .ref m0), (1, .int (nI p)), (2, .int (nI (by2 f pF))), (3, .int (nI f0)), (4, .int (nI k)), (5, .int (nI (by2 f p)))], [.int (nI (by2 f (p + 4))), .int (nI (f0 + k)), .ref (q 33)], M187) _
                        have hu_270 := by2_lt f (p + 4)
                        refine pr_st (a := 33) (j := f0 + k) rfl hR189 rfl (by omega) (fun M203 R204 i1_273 hR205 hS206 => ?_)
                        have hF_207 := hF_191.mono (fun _ _ => rfl) (rRx hS206 (by decide))
                        have hY_208 := hY_192.mono (fun _ _ => rfl) (rRx hS206 (by decide))
                        have hP_209 := hP_193.mono (fun _ _ => rfl) (rRx hS206 (by decide))
                        have hK_210 := hK_194.mono (fun _ _ => rfl) (rRx hS206 (by decide))
                        have c27_211 := c27_195.mono (fun _ _ => rfl) (rRx hS206 (by decide))
                        have c28_212 := c28_196.mono (fun _ _ => rfl) (rRx hS206 (by decide))
                        have c29_213 := c29_197.mono (fun _ _ => rfl) (rRx hS206 (by decide))
                        have hN9_214 := hN9_198.mono (fun _ _ => rfl) (rRx hS206 (by decide))
                        have hER215 := hER199.st hS206 (by decide)
                        show pl _ _ _ (274, [(6, .int (nI (f0 + k))), (0, .ref m0), (1, .int (nI p)), (2, .int (nI (by2 f pF))), (3, .int (nI f0)), (4, .int (nI k)), (5, .int (nI (by2 f p)))], [], M203) _
                        refine ps_st (S' := (275, [(6, .int (nI (f0 + k))), (0, .ref m0), (1, .int (nI p)), (2, .int (nI (by2 f pF))), (3, .int (nI f0)), (4, .int (nI k)), (5, .int (nI (by2 f p)))], [.int (nI f0)], M203)) rfl rfl rfl ?_
                        refine ps_st (S' := (277, [(0, .ref m0), (1, .int (nI p)), (2, .int (nI (by2 f pF))), (3, .int (nI f0)), (4, .int (nI k)), (6, .int (nI (f0 + k))), (7, .int (nI f0))], [], M203)) rfl rfl rfl ?_
                        have h19 : ¬ fflN cf (by2 f p) = 0 := by
                          have e1 := ffl_0 cf (by2 f p)
                          have e2 := sev_0 (by2 f p)
                          have e3 := hall_80 (by2 f p)
                          omega
                        exact ih.2 (k) (p) (0) (s125) (s144) M203 I1 R204 hR205 hEI1 hER215 hl51 hl52 hl53 hl58 hl55 hl25 hF_207 hY_208 hP_209 hK_210 hN9_214 c27_211 c28_212 c29_213 (by omega) (hpk) (by omega) (hs) (by omega) (by omega) (q208_s) (q226_s) (by omega) (by omega) (h19) (by omega) (by omega) (rfl)
                      · have c_166 : ¬ (¬ (nI (fldN (tX f n E (by2 f (p + 4))))) = 0) := of_decide_eq_false c_166
                        have n_166 : fldN (tX f n E (by2 f (p + 4))) = 0 := (eq_nI (p := fldN (tX f n E (by2 f (p + 4)))) (n := 0) (Nat.lt_trans (le1_fld _) (by decide)) (by decide)).mp (Decidable.not_not.mp c_166)
                        refine ps_st (S' := (170, [(0, .ref m0), (1, .int (nI p))], [.ref m0], M1)) rfl rfl rfl ?_
                        refine ps_st (S' := (172, [(0, .ref m0), (1, .int (nI p))], [.int 21, .ref m0], M1)) rfl rfl rfl ?_
                        refine ps_st (S' := (173, [(0, .ref m0), (1, .int (nI p))], [.int (nI p), .int 21, .ref m0], M1)) rfl rfl rfl ?_
                        refine ps_st (S' := (174, [(0, .ref m0), (1, .int (nI p))], [.int 4, .int (nI p), .int 21, .ref m0], M1)) rfl rfl rfl ?_
                        refine ps_st (S' := (175, [(0, .ref m0), (1, .int (nI p))], [.int ((nI p) + 4), .int 21, .ref m0], M1)) rfl rfl rfl ?_
                        rw [nI_add1 (p := p) (k := 4) (x := 4) rfl (by omega)]
                        show pl _ _ _ (_, [(0, .ref m0), (1, .int (nI p))], [.int (nI (p + 4)), .int 21, .ref m0], M1) _
                        refine pl_call (a := [.ref m0, .int 21, .int (nI (p + 4))]) (rest := []) rfl rfl rfl (rd_wrong (x1 := 21) (x2 := (nI (p + 4))) hR1) (fun v216 M217 q218 => ?_)
                        obtain ⟨I219, R220, rfl, hR221, hI222, hX223, hi224, hi225⟩ := q218
                        have hi226 := (hI222 51 (by decide)).trans hl51
                        have hi227 := (hI222 52 (by decide)).trans hl52
                        have hi228 := (hI222 53 (by decide)).trans hl53
                        have hi229 := (hI222 58 (by decide)).trans hl58
                        have hi230 := (hI222 55 (by decide)).trans hl55
                        have hi231 := (hI222 25 (by decide)).trans hl25
                        have hF_232 := hF1.mono (cIx hI222 (by decide)) (cRx hX223 (by decide))
                        have hY_233 := hY1.mono (cIx hI222 (by decide)) (cRx hX223 (by decide))
                        have hP_234 := hP1.mono (cIx hI222 (by decide)) (cRx hX223 (by decide))
                        have hK_235 := hK1.mono (cIx hI222 (by decide)) (cRx hX223 (by decide))
                        have hN9_236 := hN91.mono (cIx hI222 (by decide)) (cRx hX223 (by decide))
                        have hEI237 := hEI1.tr hI222 (by decide)
                        have hER238 := hER1.tr hX223 (by decide)
                        show pl _ _ _ (178, [(0, .ref m0), (1, .int (nI p))], [.int 0], M217) _
                        exact ps_ret rfl rfl (Or.inr ⟨(21, p + 4), I219, R220, by
                            rw [← hs, flS_st (i := k) (by omega), ← hpk, fh_21 (by have e1 := ffl_0 cf (by2 f p); have e2 := sev_0 (by2 f p); have e3 := hall_80 (by2 f p); omega) (by omega) (by omega)], rfl, hR221, hEI237, hER238, hi224, hi225⟩)
                  · have c_123 : ¬ (¬ (nI (unqN (tX f n E (by2 f (p + 2))))) = 0) := of_decide_eq_false c_123
                    have n_123 : unqN (tX f n E (by2 f (p + 2))) = 0 := (eq_nI (p := unqN (tX f n E (by2 f (p + 2)))) (n := 0) (Nat.lt_trans (le1_unq _) (by decide)) (by decide)).mp (Decidable.not_not.mp c_123)
                    refine ps_st (S' := (127, [(0, .ref m0), (1, .int (nI p))], [.ref m0], M1)) rfl rfl rfl ?_
                    refine ps_st (S' := (129, [(0, .ref m0), (1, .int (nI p))], [.int 20, .ref m0], M1)) rfl rfl rfl ?_
                    refine ps_st (S' := (130, [(0, .ref m0), (1, .int (nI p))], [.int (nI p), .int 20, .ref m0], M1)) rfl rfl rfl ?_
                    refine ps_st (S' := (131, [(0, .ref m0), (1, .int (nI p))], [.int 2, .int (nI p), .int 20, .ref m0], M1)) rfl rfl rfl ?_
                    refine ps_st (S' := (132, [(0, .ref m0), (1, .int (nI p))], [.int ((nI p) + 2), .int 20, .ref m0], M1)) rfl rfl rfl ?_
                    rw [nI_add1 (p := p) (k := 2) (x := 2) rfl (by omega)]
                    show pl _ _ _ (_, [(0, .ref m0), (1, .int (nI p))], [.int (nI (p + 2)), .int 20, .ref m0], M1) _
                    refine pl_call (a := [.ref m0, .int 20, .int (nI (p + 2))]) (rest := []) rfl rfl rfl (rd_wrong (x1 := 20) (x2 := (nI (p + 2))) hR1) (fun v239 M240 q241 => ?_)
                    obtain ⟨I242, R243, rfl, hR244, hI245, hX246, hi247, hi248⟩ := q241
                    have hi249 := (hI245 51 (by decide)).trans hl51
                    have hi250 := (hI245 52 (by decide)).trans hl52
                    have hi251 := (hI245 53 (by decide)).trans hl53
                    have hi252 := (hI245 58 (by decide)).trans hl58
                    have hi253 := (hI245 55 (by decide)).trans hl55
                    have hi254 := (hI245 25 (by decide)).trans hl25
                    have hF_255 := hF1.mono (cIx hI245 (by decide)) (cRx hX246 (by decide))
                    have hY_256 := hY1.mono (cIx hI245 (by decide)) (cRx hX246 (by decide))
                    have hP_257 := hP1.mono (cIx hI245 (by decide)) (cRx hX246 (by decide))
                    have hK_258 := hK1.mono (cIx hI245 (by decide)) (cRx hX246 (by decide))
                    have hN9_259 := hN91.mono (cIx hI245 (by decide)) (cRx hX246 (by decide))
                    have hEI260 := hEI1.tr hI245 (by decide)
                    have hER261 := hER1.tr hX246 (by decide)
                    show pl _ _ _ (135, [(0, .ref m0), (1, .int (nI p))], [.int 0], M240) _
                    exact ps_ret rfl rfl (Or.inr ⟨(20, p + 2), I242, R243, by
                        rw [← hs, flS_st (i := k) (by omega), ← hpk, fh_20 (by have e1 := ffl_0 cf (by2 f p); have e2 := sev_0 (by2 f p); have e3 := hall_80 (by2 f p); omega) (by omega)], rfl, hR244, hEI260, hER261, hi247, hi248⟩)
              · have c_70 : ¬ ((nI (aN cf 512)) = 0) := of_decide_eq_false c_70
                have n_70 : ¬ (aN cf 512 = 0) := fun h9 => c_70 ((eq_nI (p := aN cf 512) (n := 0) (Nat.lt_of_le_of_lt (an_le _ _) (by decide)) (by decide)).mpr h9)
                refine ps_st (S' := (75, [(0, .ref m0), (1, .int (nI p)), (2, .int (nI (by2 f pF))), (3, .int (nI f0)), (4, .int (nI k)), (5, .int (nI (by2 f p)))], [.int (nI (by2 f p))], M1)) rfl rfl rfl ?_
                refine ps_st (S' := (78, [(0, .ref m0), (1, .int (nI p)), (2, .int (nI (by2 f pF))), (3, .int (nI f0)), (4, .int (nI k)), (5, .int (nI (by2 f p)))], [.int 16607, .int (nI (by2 f p))], M1)) rfl rfl rfl ?_
                refine ps_st (S' := (79, [(0, .ref m0), (1, .int (nI p)), (2, .int (nI (by2 f pF))), (3, .int (nI f0)), (4, .int (nI k)), (5, .int (nI (by2 f p)))], [.int ((nI (by2 f p)) &&& 16607)], M1)) rfl rfl rfl ?_
                rw [nI_an (p := by2 f p) (k := 16607) (x := 16607) rfl]
                show pl _ _ _ (_, [(0, .ref m0), (1, .int (nI p)), (2, .int (nI (by2 f pF))), (3, .int (nI f0)), (4, .int (nI k)), (5, .int (nI (by2 f p)))], [.int (nI (aN (by2 f p) 16607))], M1) _
                refine ps_st (S' := (81, [(0, .ref m0), (1, .int (nI p)), (2, .int (nI (by2 f pF))), (3, .int (nI f0)), (4, .int (nI k)), (5, .int (nI (by2 f p)))], [.int 25, .int (nI (aN (by2 f p) 16607))], M1)) rfl rfl rfl ?_
                refine ps_if2 (S1 := (92, [(0, .ref m0), (1, .int (nI p)), (2, .int (nI (by2 f pF))), (3, .int (nI f0)), (4, .int (nI k)), (5, .int (nI (by2 f p)))], [], M1)) (S2 := (84, [(0, .ref m0), (1, .int (nI p))], [], M1)) rfl rfl rfl (fun c_81 => ?_) (fun c_81 => ?_)
                · have c_81 : (nI (aN (by2 f p) 16607)) = 25 := of_decide_eq_true c_81
                  have n_81 : aN (by2 f p) 16607 = 25 := (eq_nI (p := aN (by2 f p) 16607) (n := 25) (Nat.lt_of_le_of_lt (an_le _ _) (by decide)) (by decide)).mp c_81
                  refine ps_st (S' := (93, [(0, .ref m0), (1, .int (nI p)), (2, .int (nI (by2 f pF))), (3, .int (nI f0)), (4, .int (nI k)), (5, .int (nI (by2 f p)))], [.ref m0], M1)) rfl rfl rfl ?_
                  refine ps_st (S' := (94, [(0, .ref m0), (1, .int (nI p)), (2, .int (nI (by2 f pF))), (3, .int (nI f0)), (4, .int (nI k)), (5, .int (nI (by2 f p)))], [.ref m0, .ref m0], M1)) rfl rfl rfl ?_
                  refine ps_st (S' := (95, [(0, .ref m0), (1, .int (nI p)), (2, .int (nI (by2 f pF))), (3, .int (nI f0)), (4, .int (nI k)), (5, .int (nI (by2 f p)))], [.int (nI p), .ref m0, .ref m0], M1)) rfl rfl rfl ?_
                  refine ps_st (S' := (96, [(0, .ref m0), (1, .int (nI p)), (2, .int (nI (by2 f pF))), (3, .int (nI f0)), (4, .int (nI k)), (5, .int (nI (by2 f p)))], [.int 2, .int (nI p), .ref m0, .ref m0], M1)) rfl rfl rfl ?_
                  refine ps_st (S' := (97, [(0, .ref m0), (1, .int (nI p)), (2, .int (nI (by2 f pF))), (3, .int (nI f0)), (4, .int (nI k)), (5, .int (nI (by2 f p)))], [.int ((nI p) + 2), .ref m0, .ref m0], M1)) rfl rfl rfl ?_
                  rw [nI_add1 (p := p) (k := 2) (x := 2) rfl (by omega)]
                  show pl _ _ _ (_, [(0, .ref m0), (1, .int (nI p)), (2, .int (nI (by2 f pF))), (3, .int (nI f0)), (4, .int (nI k)), (5, .int (nI (by2 f p)))], [.int (nI (p + 2)), .ref m0, .ref m0], M1) _
                  refine pl_call (a := [.ref m0, .int (nI (p + 2))]) (rest := [.ref m0]) rfl rfl rfl (rd_u2 (n := n) (f := f) (p := (p + 2)) hR1 hF1 (by omega)) (fun v262 M263 q264 => ?_)
                  obtain ⟨rfl, rfl⟩ := q264
                  show pl _ _ _ (100, [(0, .ref m0), (1, .int (nI p)), (2, .int (nI (by2 f pF))), (3, .int (nI f0)), (4, .int (nI k)), (5, .int (nI (by2 f p)))], [.int (nI (by2 f (p + 2))), .ref m0], M1) _
                  have hu_97 := by2_lt f (p + 2)
                  refine pl_call (a := [.ref m0, .int (nI (by2 f (p + 2)))]) (rest := []) rfl rfl rfl (rd_tag (n := n) (f := f) (tx := tx) (cN := cN) (A := A) (N := N) (mj := mj) (E := E) (k := (by2 f (p + 2))) hR1 hl51 hl52 hl53 hF1 hY1 hP1 (hEP) (hN) (hmj) (by2_lt _ _)) (fun v265 M266 q267 => ?_)
                  obtain ⟨rfl, rfl⟩ := q267
                  show pl _ _ _ (103, [(0, .ref m0), (1, .int (nI p)), (2, .int (nI (by2 f pF))), (3, .int (nI f0)), (4, .int (nI k)), (5, .int (nI (by2 f p)))], [.int (nI (tg f E (by2 f (p + 2))))], M1) _
                  have htg_100 := tg_lt f E (by2 f (p + 2))
                  refine ps_st (S' := (104, [(0, .ref m0), (1, .int (nI p)), (2, .int (nI (by2 f pF))), (3, .int (nI f0)), (4, .int (nI k)), (5, .int (nI (by2 f p)))], [.int 1, .int (nI (tg f E (by2 f (p + 2))))], M1)) rfl rfl rfl ?_
                  refine ps_if2 (S1 := (126, [(0, .ref m0), (1, .int (nI p))], [], M1)) (S2 := (107, [(0, .ref m0), (1, .int (nI p)), (2, .int (nI (by2 f pF))), (3, .int (nI f0)), (4, .int (nI k)), (5, .int (nI (by2 f p)))], [], M1)) rfl rfl rfl (fun c_104 => ?_) (fun c_104 => ?_)
                  · have c_104 : ¬ (nI (tg f E (by2 f (p + 2)))) = 1 := of_decide_eq_true c_104
                    have n_104 : ¬ (tg f E (by2 f (p + 2)) = 1) := fun h9 => c_104 ((eq_nI (p := tg f E (by2 f (p + 2))) (n := 1) (Nat.lt_trans (tg_lt _ _ _) (by decide)) (by decide)).mpr h9)
                    refine ps_st (S' := (127, [(0, .ref m0), (1, .int (nI p))], [.ref m0], M1)) rfl rfl rfl ?_
                    refine ps_st (S' := (129, [(0, .ref m0), (1, .int (nI p))], [.int 20, .ref m0], M1)) rfl rfl rfl ?_
                    refine ps_st (S' := (130, [(0, .ref m0), (1, .int (nI p))], [.int (nI p), .int 20, .ref m0], M1)) rfl rfl rfl ?_
                    refine ps_st (S' := (131, [(0, .ref m0), (1, .int (nI p))], [.int 2, .int (nI p), .int 20, .ref m0], M1)) rfl rfl rfl ?_
                    refine ps_st (S' := (132, [(0, .ref m0), (1, .int (nI p))], [.int ((nI p) + 2), .int 20, .ref m0], M1)) rfl rfl rfl ?_
                    rw [nI_add1 (p := p) (k := 2) (x := 2) rfl (by omega)]
                    show pl _ _ _ (_, [(0, .ref m0), (1, .int (nI p))], [.int (nI (p + 2)), .int 20, .ref m0], M1) _
                    refine pl_call (a := [.ref m0, .int 20, .int (nI (p + 2))]) (rest := []) rfl rfl rfl (rd_wrong (x1 := 20) (x2 := (nI (p + 2))) hR1) (fun v268 M269 q270 => ?_)
                    obtain ⟨I271, R272, rfl, hR273, hI274, hX275, hi276, hi277⟩ := q270
                    have hi278 := (hI274 51 (by decide)).trans hl51
                    have hi279 := (hI274 52 (by decide)).trans hl52
                    have hi280 := (hI274 53 (by decide)).trans hl53
                    have hi281 := (hI274 58 (by decide)).trans hl58
                    have hi282 := (hI274 55 (by decide)).trans hl55
                    have hi283 := (hI274 25 (by decide)).trans hl25
                    have hF_284 := hF1.mono (cIx hI274 (by decide)) (cRx hX275 (by decide))
                    have hY_285 := hY1.mono (cIx hI274 (by decide)) (cRx hX275 (by decide))
                    have hP_286 := hP1.mono (cIx hI274 (by decide)) (cRx hX275 (by decide))
                    have hK_287 := hK1.mono (cIx hI274 (by decide)) (cRx hX275 (by decide))
                    have hN9_288 := hN91.mono (cIx hI274 (by decide)) (cRx hX275 (by decide))
                    have hEI289 := hEI1.tr hI274 (by decide)
                    have hER290 := hER1.tr hX275 (by decide)
                    show pl _ _ _ (135, [(0, .ref m0), (1, .int (nI p))], [.int 0], M269) _
                    exact ps_ret rfl rfl (Or.inr ⟨(20, p + 2), I271, R272, by
                        rw [← hs, flS_st (i := k) (by omega), ← hpk, fh_20 (by have e1 := ffl_0 cf (by2 f p); have e2 := sev_0 (by2 f p); have e3 := hall_80 (by2 f p); omega) (by rw [tx_no (by omega)]; decide)], rfl, hR273, hEI289, hER290, hi276, hi277⟩)
                  · have c_104 : ¬ (¬ (nI (tg f E (by2 f (p + 2)))) = 1) := of_decide_eq_false c_104
                    have n_104 : tg f E (by2 f (p + 2)) = 1 := (eq_nI (p := tg f E (by2 f (p + 2))) (n := 1) (Nat.lt_trans (tg_lt _ _ _) (by decide)) (by decide)).mp (Decidable.not_not.mp c_104)
                    refine ps_st (S' := (108, [(0, .ref m0), (1, .int (nI p)), (2, .int (nI (by2 f pF))), (3, .int (nI f0)), (4, .int (nI k)), (5, .int (nI (by2 f p)))], [.ref m0], M1)) rfl rfl rfl ?_
                    refine ps_st (S' := (109, [(0, .ref m0), (1, .int (nI p)), (2, .int (nI (by2 f pF))), (3, .int (nI f0)), (4, .int (nI k)), (5, .int (nI (by2 f p)))], [.ref m0, .ref m0], M1)) rfl rfl rfl ?_
                    refine ps_st (S' := (110, [(0, .ref m0), (1, .int (nI p)), (2, .int (nI (by2 f pF))), (3, .int (nI f0)), (4, .int (nI k)), (5, .int (nI (by2 f p)))], [.ref m0, .ref m0, .ref m0], M1)) rfl rfl rfl ?_
                    refine ps_st (S' := (111, [(0, .ref m0), (1, .int (nI p)), (2, .int (nI (by2 f pF))), (3, .int (nI f0)), (4, .int (nI k)), (5, .int (nI (by2 f p)))], [.int (nI p), .ref m0, .ref m0, .ref m0], M1)) rfl rfl rfl ?_
                    refine ps_st (S' := (112, [(0, .ref m0), (1, .int (nI p)), (2, .int (nI (by2 f pF))), (3, .int (nI f0)), (4, .int (nI k)), (5, .int (nI (by2 f p)))], [.int 2, .int (nI p), .ref m0, .ref m0, .ref m0], M1)) rfl rfl rfl ?_
                    refine ps_st (S' := (113, [(0, .ref m0), (1, .int (nI p)), (2, .int (nI (by2 f pF))), (3, .int (nI f0)), (4, .int (nI k)), (5, .int (nI (by2 f p)))], [.int ((nI p) + 2), .ref m0, .ref m0, .ref m0], M1)) rfl rfl rfl ?_
                    rw [nI_add1 (p := p) (k := 2) (x := 2) rfl (by omega)]
                    show pl _ _ _ (_, [(0, .ref m0), (1, .int (nI p)), (2, .int (nI (by2 f pF))), (3, .int (nI f0)), (4, .int (nI k)), (5, .int (nI (by2 f p)))], [.int (nI (p + 2)), .ref m0, .ref m0, .ref m0], M1) _
                    refine pl_call (a := [.ref m0, .int (nI (p + 2))]) (rest := [.ref m0, .ref m0]) rfl rfl rfl (rd_u2 (n := n) (f := f) (p := (p + 2)) hR1 hF1 (by omega)) (fun v291 M292 q293 => ?_)
                    obtain ⟨rfl, rfl⟩ := q293
                    show pl _ _ _ (116, [(0, .ref m0), (1, .int (nI p)), (2, .int (nI (by2 f pF))), (3, .int (nI f0)), (4, .int (nI k)), (5, .int (nI (by2 f p)))], [.int (nI (by2 f (p + 2))), .ref m0, .ref m0], M1) _
                    have hu_113 := by2_lt f (p + 2)
                    refine pl_call (a := [.ref m0, .int (nI (by2 f (p + 2)))]) (rest := [.ref m0]) rfl rfl rfl (rd_symOf (n := n) (f := f) (tx := tx) (cN := cN) (A := A) (N := N) (mj := mj) (E := E) (k := (by2 f (p + 2))) hR1 hl51 hl52 hl53 hF1 hY1 hP1 (hEP) (hN) (hmj) (by omega)) (fun v294 M295 q296 => ?_)
                    obtain ⟨s297, q116_s, rfl, rfl⟩ := q296
                    show pl _ _ _ (119, [(0, .ref m0), (1, .int (nI p)), (2, .int (nI (by2 f pF))), (3, .int (nI f0)), (4, .int (nI k)), (5, .int (nI (by2 f p)))], [.int (nI s297), .ref m0], M1) _
                    have hsl_116 := q116_s.1
                    have htl_116 := hY1.1.2.2.1
                    refine ps_st (S' := (120, [(0, .ref m0), (1, .int (nI p)), (2, .int (nI (by2 f pF))), (3, .int (nI f0)), (4, .int (nI k)), (5, .int (nI (by2 f p)))], [.int 1, .int (nI s297), .ref m0], M1)) rfl rfl rfl ?_
                    refine pl_call (a := [.ref m0, .int (nI s297), .int 1]) (rest := []) rfl rfl rfl (rd_unq1 (tx := tx) (cN := cN) (A := A) (s := s297) (l := (tX f n E (by2 f (p + 2)))) hR1 hY1 (q116_s)) (fun v298 M299 q300 => ?_)
                    obtain ⟨rfl, rfl⟩ := q300
                    show pl _ _ _ (123, [(0, .ref m0), (1, .int (nI p)), (2, .int (nI (by2 f pF))), (3, .int (nI f0)), (4, .int (nI k)), (5, .int (nI (by2 f p)))], [.int (nI (unqN (tX f n E (by2 f (p + 2)))))], M1) _
                    refine ps_if (S1 := (136, [(0, .ref m0), (1, .int (nI p)), (2, .int (nI (by2 f pF))), (3, .int (nI f0)), (4, .int (nI k)), (5, .int (nI (by2 f p)))], [], M1)) (S2 := (126, [(0, .ref m0), (1, .int (nI p))], [], M1)) rfl rfl rfl (fun c_123 => ?_) (fun c_123 => ?_)
                    · have c_123 : ¬ (nI (unqN (tX f n E (by2 f (p + 2))))) = 0 := of_decide_eq_true c_123
                      have n_123 : ¬ (unqN (tX f n E (by2 f (p + 2))) = 0) := fun h9 => c_123 ((eq_nI (p := unqN (tX f n E (by2 f (p + 2)))) (n := 0) (Nat.lt_trans (le1_unq _) (by decide)) (by decide)).mpr h9)
                      refine ps_st (S' := (137, [(0, .ref m0), (1, .int (nI p)), (2, .int (nI (by2 f pF))), (3, .int (nI f0)), (4, .int (nI k)), (5, .int (nI (by2 f p)))], [.ref m0], M1)) rfl rfl rfl ?_
                      refine ps_st (S' := (138, [(0, .ref m0), (1, .int (nI p)), (2, .int (nI (by2 f pF))), (3, .int (nI f0)), (4, .int (nI k)), (5, .int (nI (by2 f p)))], [.ref m0, .ref m0], M1)) rfl rfl rfl ?_
                      refine ps_st (S' := (139, [(0, .ref m0), (1, .int (nI p)), (2, .int (nI (by2 f pF))), (3, .int (nI f0)), (4, .int (nI k)), (5, .int (nI (by2 f p)))], [.int (nI p), .ref m0, .ref m0], M1)) rfl rfl rfl ?_
                      refine ps_st (S' := (140, [(0, .ref m0), (1, .int (nI p)), (2, .int (nI (by2 f pF))), (3, .int (nI f0)), (4, .int (nI k)), (5, .int (nI (by2 f p)))], [.int 4, .int (nI p), .ref m0, .ref m0], M1)) rfl rfl rfl ?_
                      refine ps_st (S' := (141, [(0, .ref m0), (1, .int (nI p)), (2, .int (nI (by2 f pF))), (3, .int (nI f0)), (4, .int (nI k)), (5, .int (nI (by2 f p)))], [.int ((nI p) + 4), .ref m0, .ref m0], M1)) rfl rfl rfl ?_
                      rw [nI_add1 (p := p) (k := 4) (x := 4) rfl (by omega)]
                      show pl _ _ _ (_, [(0, .ref m0), (1, .int (nI p)), (2, .int (nI (by2 f pF))), (3, .int (nI f0)), (4, .int (nI k)), (5, .int (nI (by2 f p)))], [.int (nI (p + 4)), .ref m0, .ref m0], M1) _
                      refine pl_call (a := [.ref m0, .int (nI (p + 4))]) (rest := [.ref m0]) rfl rfl rfl (rd_u2 (n := n) (f := f) (p := (p + 4)) hR1 hF1 (by omega)) (fun v301 M302 q303 => ?_)
                      obtain ⟨rfl, rfl⟩ := q303
                      show pl _ _ _ (144, [(0, .ref m0), (1, .int (nI p)), (2, .int (nI (by2 f pF))), (3, .int (nI f0)), (4, .int (nI k)), (5, .int (nI (by2 f p)))], [.int (nI (by2 f (p + 4))), .ref m0], M1) _
                      have hu_141 := by2_lt f (p + 4)
                      refine pl_call (a := [.ref m0, .int (nI (by2 f (p + 4)))]) (rest := []) rfl rfl rfl (rd_tag (n := n) (f := f) (tx := tx) (cN := cN) (A := A) (N := N) (mj := mj) (E := E) (k := (by2 f (p + 4))) hR1 hl51 hl52 hl53 hF1 hY1 hP1 (hEP) (hN) (hmj) (by2_lt _ _)) (fun v304 M305 q306 => ?_)
                      obtain ⟨rfl, rfl⟩ := q306
                      show pl _ _ _ (147, [(0, .ref m0), (1, .int (nI p)), (2, .int (nI (by2 f pF))), (3, .int (nI f0)), (4, .int (nI k)), (5, .int (nI (by2 f p)))], [.int (nI (tg f E (by2 f (p + 4))))], M1) _
                      have htg_144 := tg_lt f E (by2 f (p + 4))
                      refine ps_st (S' := (148, [(0, .ref m0), (1, .int (nI p)), (2, .int (nI (by2 f pF))), (3, .int (nI f0)), (4, .int (nI k)), (5, .int (nI (by2 f p)))], [.int 1, .int (nI (tg f E (by2 f (p + 4))))], M1)) rfl rfl rfl ?_
                      refine ps_if2 (S1 := (169, [(0, .ref m0), (1, .int (nI p))], [], M1)) (S2 := (151, [(0, .ref m0), (1, .int (nI p)), (2, .int (nI (by2 f pF))), (3, .int (nI f0)), (4, .int (nI k)), (5, .int (nI (by2 f p)))], [], M1)) rfl rfl rfl (fun c_148 => ?_) (fun c_148 => ?_)
                      · have c_148 : ¬ (nI (tg f E (by2 f (p + 4)))) = 1 := of_decide_eq_true c_148
                        have n_148 : ¬ (tg f E (by2 f (p + 4)) = 1) := fun h9 => c_148 ((eq_nI (p := tg f E (by2 f (p + 4))) (n := 1) (Nat.lt_trans (tg_lt _ _ _) (by decide)) (by decide)).mpr h9)
                        refine ps_st (S' := (170, [(0, .ref m0), (1, .int (nI p))], [.ref m0], M1)) rfl rfl rfl ?_
                        refine ps_st (S' := (172, [(0, .ref m0), (1, .int (nI p))], [.int 21, .ref m0], M1)) rfl rfl rfl ?_
                        refine ps_st (S' := (173, [(0, .ref m0), (1, .int (nI p))], [.int (nI p), .int 21, .ref m0], M1)) rfl rfl rfl ?_
                        refine ps_st (S' := (174, [(0, .ref m0), (1, .int (nI p))], [.int 4, .int (nI p), .int 21, .ref m0], M1)) rfl rfl rfl ?_
                        refine ps_st (S' := (175, [(0, .ref m0), (1, .int (nI p))], [.int ((nI p) + 4), .int 21, .ref m0], M1)) rfl rfl rfl ?_
                        rw [nI_add1 (p := p) (k := 4) (x := 4) rfl (by omega)]
                        show pl _ _ _ (_, [(0, .ref m0), (1, .int (nI p))], [.int (nI (p + 4)), .int 21, .ref m0], M1) _
                        refine pl_call (a := [.ref m0, .int 21, .int (nI (p + 4))]) (rest := []) rfl rfl rfl (rd_wrong (x1 := 21) (x2 := (nI (p + 4))) hR1) (fun v307 M308 q309 => ?_)
                        obtain ⟨I310, R311, rfl, hR312, hI313, hX314, hi315, hi316⟩ := q309
                        have hi317 := (hI313 51 (by decide)).trans hl51
                        have hi318 := (hI313 52 (by decide)).trans hl52
                        have hi319 := (hI313 53 (by decide)).trans hl53
                        have hi320 := (hI313 58 (by decide)).trans hl58
                        have hi321 := (hI313 55 (by decide)).trans hl55
                        have hi322 := (hI313 25 (by decide)).trans hl25
                        have hF_323 := hF1.mono (cIx hI313 (by decide)) (cRx hX314 (by decide))
                        have hY_324 := hY1.mono (cIx hI313 (by decide)) (cRx hX314 (by decide))
                        have hP_325 := hP1.mono (cIx hI313 (by decide)) (cRx hX314 (by decide))
                        have hK_326 := hK1.mono (cIx hI313 (by decide)) (cRx hX314 (by decide))
                        have hN9_327 := hN91.mono (cIx hI313 (by decide)) (cRx hX314 (by decide))
                        have hEI328 := hEI1.tr hI313 (by decide)
                        have hER329 := hER1.tr hX314 (by decide)
                        show pl _ _ _ (178, [(0, .ref m0), (1, .int (nI p))], [.int 0], M308) _
                        exact ps_ret rfl rfl (Or.inr ⟨(21, p + 4), I310, R311, by
                            rw [← hs, flS_st (i := k) (by omega), ← hpk, fh_21 (by have e1 := ffl_0 cf (by2 f p); have e2 := sev_0 (by2 f p); have e3 := hall_80 (by2 f p); omega) (by omega) (by rw [tx_no (by omega)]; decide)], rfl, hR312, hEI328, hER329, hi315, hi316⟩)
                      · have c_148 : ¬ (¬ (nI (tg f E (by2 f (p + 4)))) = 1) := of_decide_eq_false c_148
                        have n_148 : tg f E (by2 f (p + 4)) = 1 := (eq_nI (p := tg f E (by2 f (p + 4))) (n := 1) (Nat.lt_trans (tg_lt _ _ _) (by decide)) (by decide)).mp (Decidable.not_not.mp c_148)
                        refine ps_st (S' := (152, [(0, .ref m0), (1, .int (nI p)), (2, .int (nI (by2 f pF))), (3, .int (nI f0)), (4, .int (nI k)), (5, .int (nI (by2 f p)))], [.ref m0], M1)) rfl rfl rfl ?_
                        refine ps_st (S' := (153, [(0, .ref m0), (1, .int (nI p)), (2, .int (nI (by2 f pF))), (3, .int (nI f0)), (4, .int (nI k)), (5, .int (nI (by2 f p)))], [.ref m0, .ref m0], M1)) rfl rfl rfl ?_
                        refine ps_st (S' := (154, [(0, .ref m0), (1, .int (nI p)), (2, .int (nI (by2 f pF))), (3, .int (nI f0)), (4, .int (nI k)), (5, .int (nI (by2 f p)))], [.ref m0, .ref m0, .ref m0], M1)) rfl rfl rfl ?_
                        refine ps_st (S' := (155, [(0, .ref m0), (1, .int (nI p)), (2, .int (nI (by2 f pF))), (3, .int (nI f0)), (4, .int (nI k)), (5, .int (nI (by2 f p)))], [.int (nI p), .ref m0, .ref m0, .ref m0], M1)) rfl rfl rfl ?_
                        refine ps_st (S' := (156, [(0, .ref m0), (1, .int (nI p)), (2, .int (nI (by2 f pF))), (3, .int (nI f0)), (4, .int (nI k)), (5, .int (nI (by2 f p)))], [.int 4, .int (nI p), .ref m0, .ref m0, .ref m0], M1)) rfl rfl rfl ?_
                        refine ps_st (S' := (157, [(0, .ref m0), (1, .int (nI p)), (2, .int (nI (by2 f pF))), (3, .int (nI f0)), (4, .int (nI k)), (5, .int (nI (by2 f p)))], [.int ((nI p) + 4), .ref m0, .ref m0, .ref m0], M1)) rfl rfl rfl ?_
                        rw [nI_add1 (p := p) (k := 4) (x := 4) rfl (by omega)]
                        show pl _ _ _ (_, [(0, .ref m0), (1, .int (nI p)), (2, .int (nI (by2 f pF))), (3, .int (nI f0)), (4, .int (nI k)), (5, .int (nI (by2 f p)))], [.int (nI (p + 4)), .ref m0, .ref m0, .ref m0], M1) _
                        refine pl_call (a := [.ref m0, .int (nI (p + 4))]) (rest := [.ref m0, .ref m0]) rfl rfl rfl (rd_u2 (n := n) (f := f) (p := (p + 4)) hR1 hF1 (by omega)) (fun v330 M331 q332 => ?_)
                        obtain ⟨rfl, rfl⟩ := q332
                        show pl _ _ _ (160, [(0, .ref m0), (1, .int (nI p)), (2, .int (nI (by2 f pF))), (3, .int (nI f0)), (4, .int (nI k)), (5, .int (nI (by2 f p)))], [.int (nI (by2 f (p + 4))), .ref m0, .ref m0], M1) _
                        have hu_157 := by2_lt f (p + 4)
                        refine pl_call (a := [.ref m0, .int (nI (by2 f (p + 4)))]) (rest := [.ref m0]) rfl rfl rfl (rd_symOf (n := n) (f := f) (tx := tx) (cN := cN) (A := A) (N := N) (mj := mj) (E := E) (k := (by2 f (p + 4))) hR1 hl51 hl52 hl53 hF1 hY1 hP1 (hEP) (hN) (hmj) (by omega)) (fun v333 M334 q335 => ?_)
                        obtain ⟨s336, q160_s, rfl, rfl⟩ := q335
                        show pl _ _ _ (163, [(0, .ref m0), (1, .int (nI p)), (2, .int (nI (by2 f pF))), (3, .int (nI f0)), (4, .int (nI k)), (5, .int (nI (by2 f p)))], [.int (nI s336), .ref m0], M1) _
                        have hsl_160 := q160_s.1
                        have htl_160 := hY1.1.2.2.1
                        refine pl_call (a := [.ref m0, .int (nI s336)]) (rest := []) rfl rfl rfl (rd_isField (tx := tx) (cN := cN) (A := A) (s := s336) (l := (tX f n E (by2 f (p + 4)))) hR1 hY1 (q160_s)) (fun v337 M338 q339 => ?_)
                        obtain ⟨rfl, rfl⟩ := q339
                        show pl _ _ _ (166, [(0, .ref m0), (1, .int (nI p)), (2, .int (nI (by2 f pF))), (3, .int (nI f0)), (4, .int (nI k)), (5, .int (nI (by2 f p)))], [.int (nI (fldN (tX f n E (by2 f (p + 4)))))], M1) _
                        refine ps_if (S1 := (179, [(0, .ref m0), (1, .int (nI p)), (2, .int (nI (by2 f pF))), (3, .int (nI f0)), (4, .int (nI k)), (5, .int (nI (by2 f p)))], [], M1)) (S2 := (169, [(0, .ref m0), (1, .int (nI p))], [], M1)) rfl rfl rfl (fun c_166 => ?_) (fun c_166 => ?_)
                        · have c_166 : ¬ (nI (fldN (tX f n E (by2 f (p + 4))))) = 0 := of_decide_eq_true c_166
                          have n_166 : ¬ (fldN (tX f n E (by2 f (p + 4))) = 0) := fun h9 => c_166 ((eq_nI (p := fldN (tX f n E (by2 f (p + 4)))) (n := 0) (Nat.lt_trans (le1_fld _) (by decide)) (by decide)).mpr h9)
                          refine ps_st (S' := (180, [(0, .ref m0), (1, .int (nI p)), (2, .int (nI (by2 f pF))), (3, .int (nI f0)), (4, .int (nI k)), (5, .int (nI (by2 f p)))], [.ref m0], M1)) rfl rfl rfl ?_
                          refine pr_int (j := 25) (S' := (183, [(0, .ref m0), (1, .int (nI p)), (2, .int (nI (by2 f pF))), (3, .int (nI f0)), (4, .int (nI k)), (5, .int (nI (by2 f p)))], [.int (nI (f0 + k))], M1)) rfl hR1 rfl hl25 rfl ?_
                          refine ps_st (S' := (185, [(6, .int (nI (f0 + k))), (0, .ref m0), (1, .int (nI p)), (2, .int (nI (by2 f pF))), (3, .int (nI f0)), (4, .int (nI k)), (5, .int (nI (by2 f p)))], [], M1)) rfl rfl rfl ?_
                          refine ps_st (S' := (186, [(6, .int (nI (f0 + k))), (0, .ref m0), (1, .int (nI p)), (2, .int (nI (by2 f pF))), (3, .int (nI f0)), (4, .int (nI k)), (5, .int (nI (by2 f p)))], [.ref m0], M1)) rfl rfl rfl ?_
                          refine pr_ref (j := 27) (S' := (189, [(6, .int (nI (f0 + k))), (0, .ref m0), (1, .int (nI p)), (2, .int (nI (by2 f pF))), (3, .int (nI f0)), (4, .int (nI k)), (5, .int (nI (by2 f p)))], [.ref (q 27)], M1)) rfl hR1 rfl rfl ?_
                          refine ps_st (S' := (191, [(6, .int (nI (f0 + k))), (0, .ref m0), (1, .int (nI p)), (2, .int (nI (by2 f pF))), (3, .int (nI f0)), (4, .int (nI k)), (5, .int (nI (by2 f p)))], [.int (nI (f0 + k)), .ref (q 27)], M1)) rfl rfl rfl ?_
                          refine ps_st (S' := (193, [(6, .int (nI (f0 + k))), (0, .ref m0), (1, .int (nI p)), (2, .int (nI (by2 f pF))), (3, .int (nI f0)), (4, .int (nI k)), (5, .int (nI (by2 f p)))], [.int (nI (by2 f p)), .int (nI (f0 + k)), .ref (q 27)], M1)) rfl rfl rfl ?_
                          refine pr_st (a := 27) (j := f0 + k) rfl hR1 rfl (by omega) (fun M340 R341 i1_193 hR342 hS343 => ?_)
                          have hF_344 := hF1.mono (fun _ _ => rfl) (rRx hS343 (by decide))
                          have hY_345 := hY1.mono (fun _ _ => rfl) (rRx hS343 (by decide))
                          have hP_346 := hP1.mono (fun _ _ => rfl) (rRx hS343 (by decide))
                          have hK_347 := hK1.mono (fun _ _ => rfl) (rRx hS343 (by decide))
                          have hN9_348 := hN91.mono (fun _ _ => rfl) (rRx hS343 (by decide))
                          have hER349 := hER1.st hS343 (by decide)
                          show pl _ _ _ (194, [(6, .int (nI (f0 + k))), (0, .ref m0), (1, .int (nI p)), (2, .int (nI (by2 f pF))), (3, .int (nI f0)), (4, .int (nI k)), (5, .int (nI (by2 f p)))], [], M340) _
                          have c27_350 : CE 27 (f0 + k) (nI (by2 f p)) I1 R341 := CE.st hS343
                          refine ps_st (S' := (195, [(6, .int (nI (f0 + k))), (0, .ref m0), (1, .int (nI p)), (2, .int (nI (by2 f pF))), (3, .int (nI f0)), (4, .int (nI k)), (5, .int (nI (by2 f p)))], [.ref m0], M340)) rfl rfl rfl ?_
                          refine pr_ref (j := 28) (S' := (198, [(6, .int (nI (f0 + k))), (0, .ref m0), (1, .int (nI p)), (2, .int (nI (by2 f pF))), (3, .int (nI f0)), (4, .int (nI k)), (5, .int (nI (by2 f p)))], [.ref (q 28)], M340)) rfl hR342 rfl rfl ?_
                          refine ps_st (S' := (200, [(6, .int (nI (f0 + k))), (0, .ref m0), (1, .int (nI p)), (2, .int (nI (by2 f pF))), (3, .int (nI f0)), (4, .int (nI k)), (5, .int (nI (by2 f p)))], [.int (nI (f0 + k)), .ref (q 28)], M340)) rfl rfl rfl ?_
                          refine ps_st (S' := (201, [(6, .int (nI (f0 + k))), (0, .ref m0), (1, .int (nI p)), (2, .int (nI (by2 f pF))), (3, .int (nI f0)), (4, .int (nI k)), (5, .int (nI (by2 f p)))], [.ref m0, .int (nI (f0 + k)), .ref (q 28)], M340)) rfl rfl rfl ?_
                          refine ps_st (S' := (202, [(6, .int (nI (f0 + k))), (0, .ref m0), (1, .int (nI p)), (2, .int (nI (by2 f pF))), (3, .int (nI f0)), (4, .int (nI k)), (5, .int (nI (by2 f p)))], [.ref m0, .ref m0, .int (nI (f0 + k)), .ref (q 28)], M340)) rfl rfl rfl ?_
                          refine ps_st (S' := (203, [(6, .int (nI (f0 + k))), (0, .ref m0), (1, .int (nI p)), (2, .int (nI (by2 f pF))), (3, .int (nI f0)), (4, .int (nI k)), (5, .int (nI (by2 f p)))], [.int (nI p), .ref m0, .ref m0, .int (nI (f0 + k)), .ref (q 28)], M340)) rfl rfl rfl ?_
                          refine ps_st (S' := (204, [(6, .int (nI (f0 + k))), (0, .ref m0), (1, .int (nI p)), (2, .int (nI (by2 f pF))), (3, .int (nI f0)), (4, .int (nI k)), (5, .int (nI (by2 f p)))], [.int 2, .int (nI p), .ref m0, .ref m0, .int (nI (f0 + k)), .ref (q 28)], M340)) rfl rfl rfl ?_
                          refine ps_st (S' := (205, [(6, .int (nI (f0 + k))), (0, .ref m0), (1, .int (nI p)), (2, .int (nI (by2 f pF))), (3, .int (nI f0)), (4, .int (nI k)), (5, .int (nI (by2 f p)))], [.int ((nI p) + 2), .ref m0, .ref m0, .int (nI (f0 + k)), .ref (q 28)], M340)) rfl rfl rfl ?_
                          rw [nI_add1 (p := p) (k := 2) (x := 2) rfl (by omega)]
                          show pl _ _ _ (_, [(6, .int (nI (f0 + k))), (0, .ref m0), (1, .int (nI p)), (2, .int (nI (by2 f pF))), (3, .int (nI f0)), (4, .int (nI k)), (5, .int (nI (by2 f p)))], [.int (nI (p + 2)), .ref m0, .ref m0, .int (nI (f0 + k)), .ref (q 28)], M340) _
                          refine pl_call (a := [.ref m0, .int (nI (p + 2))]) (rest := [.ref m0, .int (nI (f0 + k)), .ref (q 28)]) rfl rfl rfl (rd_u2 (n := n) (f := f) (p := (p + 2)) hR342 hF_344 (by omega)) (fun v351 M352 q353 => ?_)
                          obtain ⟨rfl, rfl⟩ := q353
                          show pl _ _ _ (208, [(6, .int (nI (f0 + k))), (0, .ref m0), (1, .int (nI p)), (2, .int (nI (by2 f pF))), (3, .int (nI f0)), (4, .int (nI k)), (5, .int (nI (by2 f p)))], [.int (nI (by2 f (p + 2))), .ref m0, .int (nI (f0 + k)), .ref (q 28)], M340) _
                          have hu_205 := by2_lt f (p + 2)
                          refine pl_call (a := [.ref m0, .int (nI (by2 f (p + 2)))]) (rest := [.int (nI (f0 + k)), .ref (q 28)]) rfl rfl rfl (rd_symOf (n := n) (f := f) (tx := tx) (cN := cN) (A := A) (N := N) (mj := mj) (E := E) (k := (by2 f (p + 2))) hR342 hl51 hl52 hl53 hF_344 hY_345 hP_346 (hEP) (hN) (hmj) (by omega)) (fun v354 M355 q356 => ?_)
                          obtain ⟨s357, q208_s, rfl, rfl⟩ := q356
                          show pl _ _ _ (211, [(6, .int (nI (f0 + k))), (0, .ref m0), (1, .int (nI p)), (2, .int (nI (by2 f pF))), (3, .int (nI f0)), (4, .int (nI k)), (5, .int (nI (by2 f p)))], [.int (nI s357), .int (nI (f0 + k)), .ref (q 28)], M340) _
                          have hsl_208 := q208_s.1
                          have htl_208 := hY_345.1.2.2.1
                          refine pr_st (a := 28) (j := f0 + k) rfl hR342 rfl (by omega) (fun M358 R359 i1_211 hR360 hS361 => ?_)
                          have hF_362 := hF_344.mono (fun _ _ => rfl) (rRx hS361 (by decide))
                          have hY_363 := hY_345.mono (fun _ _ => rfl) (rRx hS361 (by decide))
                          have hP_364 := hP_346.mono (fun _ _ => rfl) (rRx hS361 (by decide))
                          have hK_365 := hK_347.mono (fun _ _ => rfl) (rRx hS361 (by decide))
                          have c27_366 := c27_350.mono (fun _ _ => rfl) (rRx hS361 (by decide))
                          have hER367 := hER349.st hS361 (by decide)
                          show pl _ _ _ (212, [(6, .int (nI (f0 + k))), (0, .ref m0), (1, .int (nI p)), (2, .int (nI (by2 f pF))), (3, .int (nI f0)), (4, .int (nI k)), (5, .int (nI (by2 f p)))], [], M358) _
                          have c28_368 : CE 28 (f0 + k) (nI s357) I1 R359 := CE.st hS361
                          have hN9_369 := FN.st (I' := I1) hN9_348 hS361 rfl
                          refine ps_st (S' := (213, [(6, .int (nI (f0 + k))), (0, .ref m0), (1, .int (nI p)), (2, .int (nI (by2 f pF))), (3, .int (nI f0)), (4, .int (nI k)), (5, .int (nI (by2 f p)))], [.ref m0], M358)) rfl rfl rfl ?_
                          refine pr_ref (j := 29) (S' := (216, [(6, .int (nI (f0 + k))), (0, .ref m0), (1, .int (nI p)), (2, .int (nI (by2 f pF))), (3, .int (nI f0)), (4, .int (nI k)), (5, .int (nI (by2 f p)))], [.ref (q 29)], M358)) rfl hR360 rfl rfl ?_
                          refine ps_st (S' := (218, [(6, .int (nI (f0 + k))), (0, .ref m0), (1, .int (nI p)), (2, .int (nI (by2 f pF))), (3, .int (nI f0)), (4, .int (nI k)), (5, .int (nI (by2 f p)))], [.int (nI (f0 + k)), .ref (q 29)], M358)) rfl rfl rfl ?_
                          refine ps_st (S' := (219, [(6, .int (nI (f0 + k))), (0, .ref m0), (1, .int (nI p)), (2, .int (nI (by2 f pF))), (3, .int (nI f0)), (4, .int (nI k)), (5, .int (nI (by2 f p)))], [.ref m0, .int (nI (f0 + k)), .ref (q 29)], M358)) rfl rfl rfl ?_
                          refine ps_st (S' := (220, [(6, .int (nI (f0 + k))), (0, .ref m0), (1, .int (nI p)), (2, .int (nI (by2 f pF))), (3, .int (nI f0)), (4, .int (nI k)), (5, .int (nI (by2 f p)))], [.ref m0, .ref m0, .int (nI (f0 + k)), .ref (q 29)], M358)) rfl rfl rfl ?_
                          refine ps_st (S' := (221, [(6, .int (nI (f0 + k))), (0, .ref m0), (1, .int (nI p)), (2, .int (nI (by2 f pF))), (3, .int (nI f0)), (4, .int (nI k)), (5, .int (nI (by2 f p)))], [.int (nI p), .ref m0, .ref m0, .int (nI (f0 + k)), .ref (q 29)], M358)) rfl rfl rfl ?_
                          refine ps_st (S' := (222, [(6, .int (nI (f0 + k))), (0, .ref m0), (1, .int (nI p)), (2, .int (nI (by2 f pF))), (3, .int (nI f0)), (4, .int (nI k)), (5, .int (nI (by2 f p)))], [.int 4, .int (nI p), .ref m0, .ref m0, .int (nI (f0 + k)), .ref (q 29)], M358)) rfl rfl rfl ?_
                          refine ps_st (S' := (223, [(6, .int (nI (f0 + k))), (0, .ref m0), (1, .int (nI p)), (2, .int (nI (by2 f pF))), (3, .int (nI f0)), (4, .int (nI k)), (5, .int (nI (by2 f p)))], [.int ((nI p) + 4), .ref m0, .ref m0, .int (nI (f0 + k)), .ref (q 29)], M358)) rfl rfl rfl ?_
                          rw [nI_add1 (p := p) (k := 4) (x := 4) rfl (by omega)]
                          show pl _ _ _ (_, [(6, .int (nI (f0 + k))), (0, .ref m0), (1, .int (nI p)), (2, .int (nI (by2 f pF))), (3, .int (nI f0)), (4, .int (nI k)), (5, .int (nI (by2 f p)))], [.int (nI (p + 4)), .ref m0, .ref m0, .int (nI (f0 + k)), .ref (q 29)], M358) _
                          refine pl_call (a := [.ref m0, .int (nI (p + 4))]) (rest := [.ref m0, .int (nI (f0 + k)), .ref (q 29)]) rfl rfl rfl (rd_u2 (n := n) (f := f) (p := (p + 4)) hR360 hF_362 (by omega)) (fun v370 M371 q372 => ?_)
                          obtain ⟨rfl, rfl⟩ := q372
                          show pl _ _ _ (226, [(6, .int (nI (f0 + k))), (0, .ref m0), (1, .int (nI p)), (2, .int (nI (by2 f pF))), (3, .int (nI f0)), (4, .int (nI k)), (5, .int (nI (by2 f p)))], [.int (nI (by2 f (p + 4))), .ref m0, .int (nI (f0 + k)), .ref (q 29)], M358) _
                          have hu_223 := by2_lt f (p + 4)
                          refine pl_call (a := [.ref m0, .int (nI (by2 f (p + 4)))]) (rest := [.int (nI (f0 + k)), .ref (q 29)]) rfl rfl rfl (rd_symOf (n := n) (f := f) (tx := tx) (cN := cN) (A := A) (N := N) (mj := mj) (E := E) (k := (by2 f (p + 4))) hR360 hl51 hl52 hl53 hF_362 hY_363 hP_364 (hEP) (hN) (hmj) (by omega)) (fun v373 M374 q375 => ?_)
                          obtain ⟨s376, q226_s, rfl, rfl⟩ := q375
                          show pl _ _ _ (229, [(6, .int (nI (f0 + k))), (0, .ref m0), (1, .int (nI p)), (2, .int (nI (by2 f pF))), (3, .int (nI f0)), (4, .int (nI k)), (5, .int (nI (by2 f p)))], [.int (nI s376), .int (nI (f0 + k)), .ref (q 29)], M358) _
                          have hsl_226 := q226_s.1
                          have htl_226 := hY_363.1.2.2.1
                          refine pr_st (a := 29) (j := f0 + k) rfl hR360 rfl (by omega) (fun M377 R378 i1_229 hR379 hS380 => ?_)
                          have hF_381 := hF_362.mono (fun _ _ => rfl) (rRx hS380 (by decide))
                          have hY_382 := hY_363.mono (fun _ _ => rfl) (rRx hS380 (by decide))
                          have hP_383 := hP_364.mono (fun _ _ => rfl) (rRx hS380 (by decide))
                          have hK_384 := hK_365.mono (fun _ _ => rfl) (rRx hS380 (by decide))
                          have c27_385 := c27_366.mono (fun _ _ => rfl) (rRx hS380 (by decide))
                          have c28_386 := c28_368.mono (fun _ _ => rfl) (rRx hS380 (by decide))
                          have hER387 := hER367.st hS380 (by decide)
                          show pl _ _ _ (230, [(6, .int (nI (f0 + k))), (0, .ref m0), (1, .int (nI p)), (2, .int (nI (by2 f pF))), (3, .int (nI f0)), (4, .int (nI k)), (5, .int (nI (by2 f p)))], [], M377) _
                          have c29_388 : CE 29 (f0 + k) (nI s376) I1 R378 := CE.st hS380
                          have hN9_389 := FN.st (I' := I1) hN9_369 hS380 rfl
                          refine ps_st (S' := (231, [(6, .int (nI (f0 + k))), (0, .ref m0), (1, .int (nI p)), (2, .int (nI (by2 f pF))), (3, .int (nI f0)), (4, .int (nI k)), (5, .int (nI (by2 f p)))], [.ref m0], M377)) rfl rfl rfl ?_
                          refine pr_ref (j := 30) (S' := (234, [(6, .int (nI (f0 + k))), (0, .ref m0), (1, .int (nI p)), (2, .int (nI (by2 f pF))), (3, .int (nI f0)), (4, .int (nI k)), (5, .int (nI (by2 f p)))], [.ref (q 30)], M377)) rfl hR379 rfl rfl ?_
                          refine ps_st (S' := (236, [(6, .int (nI (f0 + k))), (0, .ref m0), (1, .int (nI p)), (2, .int (nI (by2 f pF))), (3, .int (nI f0)), (4, .int (nI k)), (5, .int (nI (by2 f p)))], [.int (nI (f0 + k)), .ref (q 30)], M377)) rfl rfl rfl ?_
                          refine ps_st (S' := (237, [(6, .int (nI (f0 + k))), (0, .ref m0), (1, .int (nI p)), (2, .int (nI (by2 f pF))), (3, .int (nI f0)), (4, .int (nI k)), (5, .int (nI (by2 f p)))], [.int 0, .int (nI (f0 + k)), .ref (q 30)], M377)) rfl rfl rfl ?_
                          refine pr_st (a := 30) (j := f0 + k) rfl hR379 rfl (by omega) (fun M390 R391 i1_237 hR392 hS393 => ?_)
                          have hF_394 := hF_381.mono (fun _ _ => rfl) (rRx hS393 (by decide))
                          have hY_395 := hY_382.mono (fun _ _ => rfl) (rRx hS393 (by decide))
                          have hP_396 := hP_383.mono (fun _ _ => rfl) (rRx hS393 (by decide))
                          have hK_397 := hK_384.mono (fun _ _ => rfl) (rRx hS393 (by decide))
                          have c27_398 := c27_385.mono (fun _ _ => rfl) (rRx hS393 (by decide))
                          have c28_399 := c28_386.mono (fun _ _ => rfl) (rRx hS393 (by decide))
                          have c29_400 := c29_388.mono (fun _ _ => rfl) (rRx hS393 (by decide))
                          have hN9_401 := hN9_389.mono (fun _ _ => rfl) (rRx hS393 (by decide))
                          have hER402 := hER387.st hS393 (by decide)
                          show pl _ _ _ (238, [(6, .int (nI (f0 + k))), (0, .ref m0), (1, .int (nI p)), (2, .int (nI (by2 f pF))), (3, .int (nI f0)), (4, .int (nI k)), (5, .int (nI (by2 f p)))], [], M390) _
                          refine ps_st (S' := (239, [(6, .int (nI (f0 + k))), (0, .ref m0), (1, .int (nI p)), (2, .int (nI (by2 f pF))), (3, .int (nI f0)), (4, .int (nI k)), (5, .int (nI (by2 f p)))], [.ref m0], M390)) rfl rfl rfl ?_
                          refine pr_ref (j := 31) (S' := (242, [(6, .int (nI (f0 + k))), (0, .ref m0), (1, .int (nI p)), (2, .int (nI (by2 f pF))), (3, .int (nI f0)), (4, .int (nI k)), (5, .int (nI (by2 f p)))], [.ref (q 31)], M390)) rfl hR392 rfl rfl ?_
                          refine ps_st (S' := (244, [(6, .int (nI (f0 + k))), (0, .ref m0), (1, .int (nI p)), (2, .int (nI (by2 f pF))), (3, .int (nI f0)), (4, .int (nI k)), (5, .int (nI (by2 f p)))], [.int (nI (f0 + k)), .ref (q 31)], M390)) rfl rfl rfl ?_
                          refine ps_st (S' := (245, [(6, .int (nI (f0 + k))), (0, .ref m0), (1, .int (nI p)), (2, .int (nI (by2 f pF))), (3, .int (nI f0)), (4, .int (nI k)), (5, .int (nI (by2 f p)))], [.int 0, .int (nI (f0 + k)), .ref (q 31)], M390)) rfl rfl rfl ?_
                          refine pr_st (a := 31) (j := f0 + k) rfl hR392 rfl (by omega) (fun M403 R404 i1_245 hR405 hS406 => ?_)
                          have hF_407 := hF_394.mono (fun _ _ => rfl) (rRx hS406 (by decide))
                          have hY_408 := hY_395.mono (fun _ _ => rfl) (rRx hS406 (by decide))
                          have hP_409 := hP_396.mono (fun _ _ => rfl) (rRx hS406 (by decide))
                          have hK_410 := hK_397.mono (fun _ _ => rfl) (rRx hS406 (by decide))
                          have c27_411 := c27_398.mono (fun _ _ => rfl) (rRx hS406 (by decide))
                          have c28_412 := c28_399.mono (fun _ _ => rfl) (rRx hS406 (by decide))
                          have c29_413 := c29_400.mono (fun _ _ => rfl) (rRx hS406 (by decide))
                          have hN9_414 := hN9_401.mono (fun _ _ => rfl) (rRx hS406 (by decide))
                          have hER415 := hER402.st hS406 (by decide)
                          show pl _ _ _ (246, [(6, .int (nI (f0 + k))), (0, .ref m0), (1, .int (nI p)), (2, .int (nI (by2 f pF))), (3, .int (nI f0)), (4, .int (nI k)), (5, .int (nI (by2 f p)))], [], M403) _
                          refine ps_st (S' := (247, [(6, .int (nI (f0 + k))), (0, .ref m0), (1, .int (nI p)), (2, .int (nI (by2 f pF))), (3, .int (nI f0)), (4, .int (nI k)), (5, .int (nI (by2 f p)))], [.ref m0], M403)) rfl rfl rfl ?_
                          refine pr_ref (j := 32) (S' := (250, [(6, .int (nI (f0 + k))), (0, .ref m0), (1, .int (nI p)), (2, .int (nI (by2 f pF))), (3, .int (nI f0)), (4, .int (nI k)), (5, .int (nI (by2 f p)))], [.ref (q 32)], M403)) rfl hR405 rfl rfl ?_
                          refine ps_st (S' := (252, [(6, .int (nI (f0 + k))), (0, .ref m0), (1, .int (nI p)), (2, .int (nI (by2 f pF))), (3, .int (nI f0)), (4, .int (nI k)), (5, .int (nI (by2 f p)))], [.int (nI (f0 + k)), .ref (q 32)], M403)) rfl rfl rfl ?_
                          refine ps_st (S' := (253, [(6, .int (nI (f0 + k))), (0, .ref m0), (1, .int (nI p)), (2, .int (nI (by2 f pF))), (3, .int (nI f0)), (4, .int (nI k)), (5, .int (nI (by2 f p)))], [.ref m0, .int (nI (f0 + k)), .ref (q 32)], M403)) rfl rfl rfl ?_
                          refine ps_st (S' := (254, [(6, .int (nI (f0 + k))), (0, .ref m0), (1, .int (nI p)), (2, .int (nI (by2 f pF))), (3, .int (nI f0)), (4, .int (nI k)), (5, .int (nI (by2 f p)))], [.int (nI p), .ref m0, .int (nI (f0 + k)), .ref (q 32)], M403)) rfl rfl rfl ?_
                          refine ps_st (S' := (255, [(6, .int (nI (f0 + k))), (0, .ref m0), (1, .int (nI p)), (2, .int (nI (by2 f pF))), (3, .int (nI f0)), (4, .int (nI k)), (5, .int (nI (by2 f p)))], [.int 2, .int (nI p), .ref m0, .int (nI (f0 + k)), .ref (q 32)], M403)) rfl rfl rfl ?_
                          refine ps_st (S' := (256, [(6, .int (nI (f0 + k))), (0, .ref m0), (1, .int (nI p)), (2, .int (nI (by2 f pF))), (3, .int (nI f0)), (4, .int (nI k)), (5, .int (nI (by2 f p)))], [.int ((nI p) + 2), .ref m0, .int (nI (f0 + k)), .ref (q 32)], M403)) rfl rfl rfl ?_
                          rw [nI_add1 (p := p) (k := 2) (x := 2) rfl (by omega)]
                          show pl _ _ _ (_, [(6, .int (nI (f0 + k))), (0, .ref m0), (1, .int (nI p)), (2, .int (nI (by2 f pF))), (3, .int (nI f0)), (4, .int (nI k)), (5, .int (nI (by2 f p)))], [.int (nI (p + 2)), .ref m0, .int (nI (f0 + k)), .ref (q 32)], M403) _
                          refine pl_call (a := [.ref m0, .int (nI (p + 2))]) (rest := [.int (nI (f0 + k)), .ref (q 32)]) rfl rfl rfl (rd_u2 (n := n) (f := f) (p := (p + 2)) hR405 hF_407 (by omega)) (fun v416 M417 q418 => ?_)
                          obtain ⟨rfl, rfl⟩ := q418
                          show pl _ _ _ (259, [(6, .int (nI (f0 + k))), (0, .ref m0), (1, .int (nI p)), (2, .int (nI (by2 f pF))), (3, .int (nI f0)), (4, .int (nI k)), (5, .int (nI (by2 f p)))], [.int (nI (by2 f (p + 2))), .int (nI (f0 + k)), .ref (q 32)], M403) _
                          have hu_256 := by2_lt f (p + 2)
                          refine pr_st (a := 32) (j := f0 + k) rfl hR405 rfl (by omega) (fun M419 R420 i1_259 hR421 hS422 => ?_)
                          have hF_423 := hF_407.mono (fun _ _ => rfl) (rRx hS422 (by decide))
                          have hY_424 := hY_408.mono (fun _ _ => rfl) (rRx hS422 (by decide))
                          have hP_425 := hP_409.mono (fun _ _ => rfl) (rRx hS422 (by decide))
                          have hK_426 := hK_410.mono (fun _ _ => rfl) (rRx hS422 (by decide))
                          have c27_427 := c27_411.mono (fun _ _ => rfl) (rRx hS422 (by decide))
                          have c28_428 := c28_412.mono (fun _ _ => rfl) (rRx hS422 (by decide))
                          have c29_429 := c29_413.mono (fun _ _ => rfl) (rRx hS422 (by decide))
                          have hN9_430 := hN9_414.mono (fun _ _ => rfl) (rRx hS422 (by decide))
                          have hER431 := hER415.st hS422 (by decide)
                          show pl _ _ _ (260, [(6, .int (nI (f0 + k))), (0, .ref m0), (1, .int (nI p)), (2, .int (nI (by2 f pF))), (3, .int (nI f0)), (4, .int (nI k)), (5, .int (nI (by2 f p)))], [], M419) _
                          refine ps_st (S' := (261, [(6, .int (nI (f0 + k))), (0, .ref m0), (1, .int (nI p)), (2, .int (nI (by2 f pF))), (3, .int (nI f0)), (4, .int (nI k)), (5, .int (nI (by2 f p)))], [.ref m0], M419)) rfl rfl rfl ?_
                          refine pr_ref (j := 33) (S' := (264, [(6, .int (nI (f0 + k))), (0, .ref m0), (1, .int (nI p)), (2, .int (nI (by2 f pF))), (3, .int (nI f0)), (4, .int (nI k)), (5, .int (nI (by2 f p)))], [.ref (q 33)], M419)) rfl hR421 rfl rfl ?_
                          refine ps_st (S' := (266, [(6, .int (nI (f0 + k))), (0, .ref m0), (1, .int (nI p)), (2, .int (nI (by2 f pF))), (3, .int (nI f0)), (4, .int (nI k)), (5, .int (nI (by2 f p)))], [.int (nI (f0 + k)), .ref (q 33)], M419)) rfl rfl rfl ?_
                          refine ps_st (S' := (267, [(6, .int (nI (f0 + k))), (0, .ref m0), (1, .int (nI p)), (2, .int (nI (by2 f pF))), (3, .int (nI f0)), (4, .int (nI k)), (5, .int (nI (by2 f p)))], [.ref m0, .int (nI (f0 + k)), .ref (q 33)], M419)) rfl rfl rfl ?_
                          refine ps_st (S' := (268, [(6, .int (nI (f0 + k))), (0, .ref m0), (1, .int (nI p)), (2, .int (nI (by2 f pF))), (3, .int (nI f0)), (4, .int (nI k)), (5, .int (nI (by2 f p)))], [.int (nI p), .ref m0, .int (nI (f0 + k)), .ref (q 33)], M419)) rfl rfl rfl ?_
                          refine ps_st (S' := (269, [(6, .int (nI (f0 + k))), (0, .ref m0), (1, .int (nI p)), (2, .int (nI (by2 f pF))), (3, .int (nI f0)), (4, .int (nI k)), (5, .int (nI (by2 f p)))], [.int 4, .int (nI p), .ref m0, .int (nI (f0 + k)), .ref (q 33)], M419)) rfl rfl rfl ?_
                          refine ps_st (S' := (270, [(6, .int (nI (f0 + k))), (0, .ref m0), (1, .int (nI p)), (2, .int (nI (by2 f pF))), (3, .int (nI f0)), (4, .int (nI k)), (5, .int (nI (by2 f p)))], [.int ((nI p) + 4), .ref m0, .int (nI (f0 + k)), .ref (q 33)], M419)) rfl rfl rfl ?_
                          rw [nI_add1 (p := p) (k := 4) (x := 4) rfl (by omega)]
                          show pl _ _ _ (_, [(6, .int (nI (f0 + k))), (0, .ref m0), (1, .int (nI p)), (2, .int (nI (by2 f pF))), (3, .int (nI f0)), (4, .int (nI k)), (5, .int (nI (by2 f p)))], [.int (nI (p + 4)), .ref m0, .int (nI (f0 + k)), .ref (q 33)], M419) _
                          refine pl_call (a := [.ref m0, .int (nI (p + 4))]) (rest := [.int (nI (f0 + k)), .ref (q 33)]) rfl rfl rfl (rd_u2 (n := n) (f := f) (p := (p + 4)) hR421 hF_423 (by omega)) (fun v432 M433 q434 => ?_)
                          obtain ⟨rfl, rfl⟩ := q434
                          show pl _ _ _ (273, [(6, .int (nI (f0 + k))), (0, .ref m0), (1, .int (nI p)), (2, .int (nI (by2 f pF))), (3, .int (nI f0)), (4, .int (nI k)), (5, .int (nI (by2 f p)))], [.int (nI (by2 f (p + 4))), .int (nI (f0 + k)), .ref (q 33)], M419) _
                          have hu_270 := by2_lt f (p + 4)
                          refine pr_st (a := 33) (j := f0 + k) rfl hR421 rfl (by omega) (fun M435 R436 i1_273 hR437 hS438 => ?_)
                          have hF_439 := hF_423.mono (fun _ _ => rfl) (rRx hS438 (by decide))
                          have hY_440 := hY_424.mono (fun _ _ => rfl) (rRx hS438 (by decide))
                          have hP_441 := hP_425.mono (fun _ _ => rfl) (rRx hS438 (by decide))
                          have hK_442 := hK_426.mono (fun _ _ => rfl) (rRx hS438 (by decide))
                          have c27_443 := c27_427.mono (fun _ _ => rfl) (rRx hS438 (by decide))
                          have c28_444 := c28_428.mono (fun _ _ => rfl) (rRx hS438 (by decide))
                          have c29_445 := c29_429.mono (fun _ _ => rfl) (rRx hS438 (by decide))
                          have hN9_446 := hN9_430.mono (fun _ _ => rfl) (rRx hS438 (by decide))
                          have hER447 := hER431.st hS438 (by decide)
                          show pl _ _ _ (274, [(6, .int (nI (f0 + k))), (0, .ref m0), (1, .int (nI p)), (2, .int (nI (by2 f pF))), (3, .int (nI f0)), (4, .int (nI k)), (5, .int (nI (by2 f p)))], [], M435) _
                          refine ps_st (S' := (275, [(6, .int (nI (f0 + k))), (0, .ref m0), (1, .int (nI p)), (2, .int (nI (by2 f pF))), (3, .int (nI f0)), (4, .int (nI k)), (5, .int (nI (by2 f p)))], [.int (nI f0)], M435)) rfl rfl rfl ?_
                          refine ps_st (S' := (277, [(0, .ref m0), (1, .int (nI p)), (2, .int (nI (by2 f pF))), (3, .int (nI f0)), (4, .int (nI k)), (6, .int (nI (f0 + k))), (7, .int (nI f0))], [], M435)) rfl rfl rfl ?_
                          have h19 : ¬ fflN cf (by2 f p) = 0 := by
                            have e1 := ffl_0 cf (by2 f p)
                            have e2 := sev_0 (by2 f p)
                            have e3 := hall_80 (by2 f p)
                            omega
                          exact ih.2 (k) (p) (0) (s357) (s376) M435 I1 R436 hR437 hEI1 hER447 hl51 hl52 hl53 hl58 hl55 hl25 hF_439 hY_440 hP_441 hK_442 hN9_446 c27_443 c28_444 c29_445 (by omega) (hpk) (by omega) (hs) (by omega) (by omega) (q208_s) (q226_s) (by omega) (by omega) (h19) (by omega) (by omega) (rfl)
                        · have c_166 : ¬ (¬ (nI (fldN (tX f n E (by2 f (p + 4))))) = 0) := of_decide_eq_false c_166
                          have n_166 : fldN (tX f n E (by2 f (p + 4))) = 0 := (eq_nI (p := fldN (tX f n E (by2 f (p + 4)))) (n := 0) (Nat.lt_trans (le1_fld _) (by decide)) (by decide)).mp (Decidable.not_not.mp c_166)
                          refine ps_st (S' := (170, [(0, .ref m0), (1, .int (nI p))], [.ref m0], M1)) rfl rfl rfl ?_
                          refine ps_st (S' := (172, [(0, .ref m0), (1, .int (nI p))], [.int 21, .ref m0], M1)) rfl rfl rfl ?_
                          refine ps_st (S' := (173, [(0, .ref m0), (1, .int (nI p))], [.int (nI p), .int 21, .ref m0], M1)) rfl rfl rfl ?_
                          refine ps_st (S' := (174, [(0, .ref m0), (1, .int (nI p))], [.int 4, .int (nI p), .int 21, .ref m0], M1)) rfl rfl rfl ?_
                          refine ps_st (S' := (175, [(0, .ref m0), (1, .int (nI p))], [.int ((nI p) + 4), .int 21, .ref m0], M1)) rfl rfl rfl ?_
                          rw [nI_add1 (p := p) (k := 4) (x := 4) rfl (by omega)]
                          show pl _ _ _ (_, [(0, .ref m0), (1, .int (nI p))], [.int (nI (p + 4)), .int 21, .ref m0], M1) _
                          refine pl_call (a := [.ref m0, .int 21, .int (nI (p + 4))]) (rest := []) rfl rfl rfl (rd_wrong (x1 := 21) (x2 := (nI (p + 4))) hR1) (fun v448 M449 q450 => ?_)
                          obtain ⟨I451, R452, rfl, hR453, hI454, hX455, hi456, hi457⟩ := q450
                          have hi458 := (hI454 51 (by decide)).trans hl51
                          have hi459 := (hI454 52 (by decide)).trans hl52
                          have hi460 := (hI454 53 (by decide)).trans hl53
                          have hi461 := (hI454 58 (by decide)).trans hl58
                          have hi462 := (hI454 55 (by decide)).trans hl55
                          have hi463 := (hI454 25 (by decide)).trans hl25
                          have hF_464 := hF1.mono (cIx hI454 (by decide)) (cRx hX455 (by decide))
                          have hY_465 := hY1.mono (cIx hI454 (by decide)) (cRx hX455 (by decide))
                          have hP_466 := hP1.mono (cIx hI454 (by decide)) (cRx hX455 (by decide))
                          have hK_467 := hK1.mono (cIx hI454 (by decide)) (cRx hX455 (by decide))
                          have hN9_468 := hN91.mono (cIx hI454 (by decide)) (cRx hX455 (by decide))
                          have hEI469 := hEI1.tr hI454 (by decide)
                          have hER470 := hER1.tr hX455 (by decide)
                          show pl _ _ _ (178, [(0, .ref m0), (1, .int (nI p))], [.int 0], M449) _
                          exact ps_ret rfl rfl (Or.inr ⟨(21, p + 4), I451, R452, by
                              rw [← hs, flS_st (i := k) (by omega), ← hpk, fh_21 (by have e1 := ffl_0 cf (by2 f p); have e2 := sev_0 (by2 f p); have e3 := hall_80 (by2 f p); omega) (by omega) (by omega)], rfl, hR453, hEI469, hER470, hi456, hi457⟩)
                    · have c_123 : ¬ (¬ (nI (unqN (tX f n E (by2 f (p + 2))))) = 0) := of_decide_eq_false c_123
                      have n_123 : unqN (tX f n E (by2 f (p + 2))) = 0 := (eq_nI (p := unqN (tX f n E (by2 f (p + 2)))) (n := 0) (Nat.lt_trans (le1_unq _) (by decide)) (by decide)).mp (Decidable.not_not.mp c_123)
                      refine ps_st (S' := (127, [(0, .ref m0), (1, .int (nI p))], [.ref m0], M1)) rfl rfl rfl ?_
                      refine ps_st (S' := (129, [(0, .ref m0), (1, .int (nI p))], [.int 20, .ref m0], M1)) rfl rfl rfl ?_
                      refine ps_st (S' := (130, [(0, .ref m0), (1, .int (nI p))], [.int (nI p), .int 20, .ref m0], M1)) rfl rfl rfl ?_
                      refine ps_st (S' := (131, [(0, .ref m0), (1, .int (nI p))], [.int 2, .int (nI p), .int 20, .ref m0], M1)) rfl rfl rfl ?_
                      refine ps_st (S' := (132, [(0, .ref m0), (1, .int (nI p))], [.int ((nI p) + 2), .int 20, .ref m0], M1)) rfl rfl rfl ?_
                      rw [nI_add1 (p := p) (k := 2) (x := 2) rfl (by omega)]
                      show pl _ _ _ (_, [(0, .ref m0), (1, .int (nI p))], [.int (nI (p + 2)), .int 20, .ref m0], M1) _
                      refine pl_call (a := [.ref m0, .int 20, .int (nI (p + 2))]) (rest := []) rfl rfl rfl (rd_wrong (x1 := 20) (x2 := (nI (p + 2))) hR1) (fun v471 M472 q473 => ?_)
                      obtain ⟨I474, R475, rfl, hR476, hI477, hX478, hi479, hi480⟩ := q473
                      have hi481 := (hI477 51 (by decide)).trans hl51
                      have hi482 := (hI477 52 (by decide)).trans hl52
                      have hi483 := (hI477 53 (by decide)).trans hl53
                      have hi484 := (hI477 58 (by decide)).trans hl58
                      have hi485 := (hI477 55 (by decide)).trans hl55
                      have hi486 := (hI477 25 (by decide)).trans hl25
                      have hF_487 := hF1.mono (cIx hI477 (by decide)) (cRx hX478 (by decide))
                      have hY_488 := hY1.mono (cIx hI477 (by decide)) (cRx hX478 (by decide))
                      have hP_489 := hP1.mono (cIx hI477 (by decide)) (cRx hX478 (by decide))
                      have hK_490 := hK1.mono (cIx hI477 (by decide)) (cRx hX478 (by decide))
                      have hN9_491 := hN91.mono (cIx hI477 (by decide)) (cRx hX478 (by decide))
                      have hEI492 := hEI1.tr hI477 (by decide)
                      have hER493 := hER1.tr hX478 (by decide)
                      show pl _ _ _ (135, [(0, .ref m0), (1, .int (nI p))], [.int 0], M472) _
                      exact ps_ret rfl rfl (Or.inr ⟨(20, p + 2), I474, R475, by
                          rw [← hs, flS_st (i := k) (by omega), ← hpk, fh_20 (by have e1 := ffl_0 cf (by2 f p); have e2 := sev_0 (by2 f p); have e3 := hall_80 (by2 f p); omega) (by omega)], rfl, hR476, hEI492, hER493, hi479, hi480⟩)
                · have c_81 : ¬ ((nI (aN (by2 f p) 16607)) = 25) := of_decide_eq_false c_81
                  have n_81 : ¬ (aN (by2 f p) 16607 = 25) := fun h9 => c_81 ((eq_nI (p := aN (by2 f p) 16607) (n := 25) (Nat.lt_of_le_of_lt (an_le _ _) (by decide)) (by decide)).mpr h9)
                  refine ps_st (S' := (85, [(0, .ref m0), (1, .int (nI p))], [.ref m0], M1)) rfl rfl rfl ?_
                  refine ps_st (S' := (87, [(0, .ref m0), (1, .int (nI p))], [.int 19, .ref m0], M1)) rfl rfl rfl ?_
                  refine ps_st (S' := (88, [(0, .ref m0), (1, .int (nI p))], [.int (nI p), .int 19, .ref m0], M1)) rfl rfl rfl ?_
                  refine pl_call (a := [.ref m0, .int 19, .int (nI p)]) (rest := []) rfl rfl rfl (rd_wrong (x1 := 19) (x2 := (nI p)) hR1) (fun v494 M495 q496 => ?_)
                  obtain ⟨I497, R498, rfl, hR499, hI500, hX501, hi502, hi503⟩ := q496
                  have hi504 := (hI500 51 (by decide)).trans hl51
                  have hi505 := (hI500 52 (by decide)).trans hl52
                  have hi506 := (hI500 53 (by decide)).trans hl53
                  have hi507 := (hI500 58 (by decide)).trans hl58
                  have hi508 := (hI500 55 (by decide)).trans hl55
                  have hi509 := (hI500 25 (by decide)).trans hl25
                  have hF_510 := hF1.mono (cIx hI500 (by decide)) (cRx hX501 (by decide))
                  have hY_511 := hY1.mono (cIx hI500 (by decide)) (cRx hX501 (by decide))
                  have hP_512 := hP1.mono (cIx hI500 (by decide)) (cRx hX501 (by decide))
                  have hK_513 := hK1.mono (cIx hI500 (by decide)) (cRx hX501 (by decide))
                  have hN9_514 := hN91.mono (cIx hI500 (by decide)) (cRx hX501 (by decide))
                  have hEI515 := hEI1.tr hI500 (by decide)
                  have hER516 := hER1.tr hX501 (by decide)
                  show pl _ _ _ (91, [(0, .ref m0), (1, .int (nI p))], [.int 0], M495) _
                  exact ps_ret rfl rfl (Or.inr ⟨(19, p), I497, R498, by
                      rw [← hs, flS_st (i := k) (by omega), ← hpk, fh_19 (by have e1 := ffl_0 cf (by2 f p); have e2 := sev_0 (by2 f p); have e3 := hall_80 (by2 f p); omega)], rfl, hR499, hEI515, hER516, hi502, hi503⟩)
            · have c_51 : ¬ ((nI (aN (by2 f p) 16)) = 0) := of_decide_eq_false c_51
              have n_51 : ¬ (aN (by2 f p) 16 = 0) := fun h9 => c_51 ((eq_nI (p := aN (by2 f p) 16) (n := 0) (Nat.lt_of_le_of_lt (an_le _ _) (by decide)) (by decide)).mpr h9)
              refine ps_st (S' := (56, [(5, .int (nI (by2 f p))), (0, .ref m0), (1, .int (nI p)), (2, .int (nI (by2 f pF))), (3, .int (nI f0)), (4, .int (nI k))], [.int (nI (by2 f p))], M1)) rfl rfl rfl ?_
              refine ps_st (S' := (58, [(5, .int (nI (by2 f p))), (0, .ref m0), (1, .int (nI p)), (2, .int (nI (by2 f pF))), (3, .int (nI f0)), (4, .int (nI k))], [.int 64, .int (nI (by2 f p))], M1)) rfl rfl rfl ?_
              refine ps_st (S' := (59, [(5, .int (nI (by2 f p))), (0, .ref m0), (1, .int (nI p)), (2, .int (nI (by2 f pF))), (3, .int (nI f0)), (4, .int (nI k))], [.int ((nI (by2 f p)) &&& 64)], M1)) rfl rfl rfl ?_
              rw [nI_an (p := by2 f p) (k := 64) (x := 64) rfl]
              show pl _ _ _ (_, [(5, .int (nI (by2 f p))), (0, .ref m0), (1, .int (nI p)), (2, .int (nI (by2 f pF))), (3, .int (nI f0)), (4, .int (nI k))], [.int (nI (aN (by2 f p) 64))], M1) _
              refine ps_if (S1 := (84, [(0, .ref m0), (1, .int (nI p))], [], M1)) (S2 := (62, [(0, .ref m0), (1, .int (nI p)), (2, .int (nI (by2 f pF))), (3, .int (nI f0)), (4, .int (nI k)), (5, .int (nI (by2 f p)))], [], M1)) rfl rfl rfl (fun c_59 => ?_) (fun c_59 => ?_)
              · have c_59 : ¬ (nI (aN (by2 f p) 64)) = 0 := of_decide_eq_true c_59
                have n_59 : ¬ (aN (by2 f p) 64 = 0) := fun h9 => c_59 ((eq_nI (p := aN (by2 f p) 64) (n := 0) (Nat.lt_of_le_of_lt (an_le _ _) (by decide)) (by decide)).mpr h9)
                refine ps_st (S' := (85, [(0, .ref m0), (1, .int (nI p))], [.ref m0], M1)) rfl rfl rfl ?_
                refine ps_st (S' := (87, [(0, .ref m0), (1, .int (nI p))], [.int 19, .ref m0], M1)) rfl rfl rfl ?_
                refine ps_st (S' := (88, [(0, .ref m0), (1, .int (nI p))], [.int (nI p), .int 19, .ref m0], M1)) rfl rfl rfl ?_
                refine pl_call (a := [.ref m0, .int 19, .int (nI p)]) (rest := []) rfl rfl rfl (rd_wrong (x1 := 19) (x2 := (nI p)) hR1) (fun v517 M518 q519 => ?_)
                obtain ⟨I520, R521, rfl, hR522, hI523, hX524, hi525, hi526⟩ := q519
                have hi527 := (hI523 51 (by decide)).trans hl51
                have hi528 := (hI523 52 (by decide)).trans hl52
                have hi529 := (hI523 53 (by decide)).trans hl53
                have hi530 := (hI523 58 (by decide)).trans hl58
                have hi531 := (hI523 55 (by decide)).trans hl55
                have hi532 := (hI523 25 (by decide)).trans hl25
                have hF_533 := hF1.mono (cIx hI523 (by decide)) (cRx hX524 (by decide))
                have hY_534 := hY1.mono (cIx hI523 (by decide)) (cRx hX524 (by decide))
                have hP_535 := hP1.mono (cIx hI523 (by decide)) (cRx hX524 (by decide))
                have hK_536 := hK1.mono (cIx hI523 (by decide)) (cRx hX524 (by decide))
                have hN9_537 := hN91.mono (cIx hI523 (by decide)) (cRx hX524 (by decide))
                have hEI538 := hEI1.tr hI523 (by decide)
                have hER539 := hER1.tr hX524 (by decide)
                show pl _ _ _ (91, [(0, .ref m0), (1, .int (nI p))], [.int 0], M518) _
                exact ps_ret rfl rfl (Or.inr ⟨(19, p), I520, R521, by
                    rw [← hs, flS_st (i := k) (by omega), ← hpk, fh_19 (by have e1 := ffl_0 cf (by2 f p); have e2 := sev_0 (by2 f p); have e3 := hall_80 (by2 f p); omega)], rfl, hR522, hEI538, hER539, hi525, hi526⟩)
              · have c_59 : ¬ (¬ (nI (aN (by2 f p) 64)) = 0) := of_decide_eq_false c_59
                have n_59 : aN (by2 f p) 64 = 0 := (eq_nI (p := aN (by2 f p) 64) (n := 0) (Nat.lt_of_le_of_lt (an_le _ _) (by decide)) (by decide)).mp (Decidable.not_not.mp c_59)
                refine ps_st (S' := (63, [(0, .ref m0), (1, .int (nI p)), (2, .int (nI (by2 f pF))), (3, .int (nI f0)), (4, .int (nI k)), (5, .int (nI (by2 f p)))], [.ref m0], M1)) rfl rfl rfl ?_
                refine pr_int (j := 58) (S' := (66, [(0, .ref m0), (1, .int (nI p)), (2, .int (nI (by2 f pF))), (3, .int (nI f0)), (4, .int (nI k)), (5, .int (nI (by2 f p)))], [.int (nI cf)], M1)) rfl hR1 rfl hl58 rfl ?_
                refine ps_st (S' := (69, [(0, .ref m0), (1, .int (nI p)), (2, .int (nI (by2 f pF))), (3, .int (nI f0)), (4, .int (nI k)), (5, .int (nI (by2 f p)))], [.int 512, .int (nI cf)], M1)) rfl rfl rfl ?_
                refine ps_st (S' := (70, [(0, .ref m0), (1, .int (nI p)), (2, .int (nI (by2 f pF))), (3, .int (nI f0)), (4, .int (nI k)), (5, .int (nI (by2 f p)))], [.int ((nI cf) &&& 512)], M1)) rfl rfl rfl ?_
                rw [nI_an (p := cf) (k := 512) (x := 512) rfl]
                show pl _ _ _ (_, [(0, .ref m0), (1, .int (nI p)), (2, .int (nI (by2 f pF))), (3, .int (nI f0)), (4, .int (nI k)), (5, .int (nI (by2 f p)))], [.int (nI (aN cf 512))], M1) _
                refine ps_if (S1 := (92, [(0, .ref m0), (1, .int (nI p)), (2, .int (nI (by2 f pF))), (3, .int (nI f0)), (4, .int (nI k)), (5, .int (nI (by2 f p)))], [], M1)) (S2 := (73, [(0, .ref m0), (1, .int (nI p)), (2, .int (nI (by2 f pF))), (3, .int (nI f0)), (4, .int (nI k)), (5, .int (nI (by2 f p)))], [], M1)) rfl rfl rfl (fun c_70 => ?_) (fun c_70 => ?_)
                · have c_70 : (nI (aN cf 512)) = 0 := of_decide_eq_true c_70
                  have n_70 : aN cf 512 = 0 := (eq_nI (p := aN cf 512) (n := 0) (Nat.lt_of_le_of_lt (an_le _ _) (by decide)) (by decide)).mp c_70
                  refine ps_st (S' := (93, [(0, .ref m0), (1, .int (nI p)), (2, .int (nI (by2 f pF))), (3, .int (nI f0)), (4, .int (nI k)), (5, .int (nI (by2 f p)))], [.ref m0], M1)) rfl rfl rfl ?_
                  refine ps_st (S' := (94, [(0, .ref m0), (1, .int (nI p)), (2, .int (nI (by2 f pF))), (3, .int (nI f0)), (4, .int (nI k)), (5, .int (nI (by2 f p)))], [.ref m0, .ref m0], M1)) rfl rfl rfl ?_
                  refine ps_st (S' := (95, [(0, .ref m0), (1, .int (nI p)), (2, .int (nI (by2 f pF))), (3, .int (nI f0)), (4, .int (nI k)), (5, .int (nI (by2 f p)))], [.int (nI p), .ref m0, .ref m0], M1)) rfl rfl rfl ?_
                  refine ps_st (S' := (96, [(0, .ref m0), (1, .int (nI p)), (2, .int (nI (by2 f pF))), (3, .int (nI f0)), (4, .int (nI k)), (5, .int (nI (by2 f p)))], [.int 2, .int (nI p), .ref m0, .ref m0], M1)) rfl rfl rfl ?_
                  refine ps_st (S' := (97, [(0, .ref m0), (1, .int (nI p)), (2, .int (nI (by2 f pF))), (3, .int (nI f0)), (4, .int (nI k)), (5, .int (nI (by2 f p)))], [.int ((nI p) + 2), .ref m0, .ref m0], M1)) rfl rfl rfl ?_
                  rw [nI_add1 (p := p) (k := 2) (x := 2) rfl (by omega)]
                  show pl _ _ _ (_, [(0, .ref m0), (1, .int (nI p)), (2, .int (nI (by2 f pF))), (3, .int (nI f0)), (4, .int (nI k)), (5, .int (nI (by2 f p)))], [.int (nI (p + 2)), .ref m0, .ref m0], M1) _
                  refine pl_call (a := [.ref m0, .int (nI (p + 2))]) (rest := [.ref m0]) rfl rfl rfl (rd_u2 (n := n) (f := f) (p := (p + 2)) hR1 hF1 (by omega)) (fun v540 M541 q542 => ?_)
                  obtain ⟨rfl, rfl⟩ := q542
                  show pl _ _ _ (100, [(0, .ref m0), (1, .int (nI p)), (2, .int (nI (by2 f pF))), (3, .int (nI f0)), (4, .int (nI k)), (5, .int (nI (by2 f p)))], [.int (nI (by2 f (p + 2))), .ref m0], M1) _
                  have hu_97 := by2_lt f (p + 2)
                  refine pl_call (a := [.ref m0, .int (nI (by2 f (p + 2)))]) (rest := []) rfl rfl rfl (rd_tag (n := n) (f := f) (tx := tx) (cN := cN) (A := A) (N := N) (mj := mj) (E := E) (k := (by2 f (p + 2))) hR1 hl51 hl52 hl53 hF1 hY1 hP1 (hEP) (hN) (hmj) (by2_lt _ _)) (fun v543 M544 q545 => ?_)
                  obtain ⟨rfl, rfl⟩ := q545
                  show pl _ _ _ (103, [(0, .ref m0), (1, .int (nI p)), (2, .int (nI (by2 f pF))), (3, .int (nI f0)), (4, .int (nI k)), (5, .int (nI (by2 f p)))], [.int (nI (tg f E (by2 f (p + 2))))], M1) _
                  have htg_100 := tg_lt f E (by2 f (p + 2))
                  refine ps_st (S' := (104, [(0, .ref m0), (1, .int (nI p)), (2, .int (nI (by2 f pF))), (3, .int (nI f0)), (4, .int (nI k)), (5, .int (nI (by2 f p)))], [.int 1, .int (nI (tg f E (by2 f (p + 2))))], M1)) rfl rfl rfl ?_
                  refine ps_if2 (S1 := (126, [(0, .ref m0), (1, .int (nI p))], [], M1)) (S2 := (107, [(0, .ref m0), (1, .int (nI p)), (2, .int (nI (by2 f pF))), (3, .int (nI f0)), (4, .int (nI k)), (5, .int (nI (by2 f p)))], [], M1)) rfl rfl rfl (fun c_104 => ?_) (fun c_104 => ?_)
                  · have c_104 : ¬ (nI (tg f E (by2 f (p + 2)))) = 1 := of_decide_eq_true c_104
                    have n_104 : ¬ (tg f E (by2 f (p + 2)) = 1) := fun h9 => c_104 ((eq_nI (p := tg f E (by2 f (p + 2))) (n := 1) (Nat.lt_trans (tg_lt _ _ _) (by decide)) (by decide)).mpr h9)
                    refine ps_st (S' := (127, [(0, .ref m0), (1, .int (nI p))], [.ref m0], M1)) rfl rfl rfl ?_
                    refine ps_st (S' := (129, [(0, .ref m0), (1, .int (nI p))], [.int 20, .ref m0], M1)) rfl rfl rfl ?_
                    refine ps_st (S' := (130, [(0, .ref m0), (1, .int (nI p))], [.int (nI p), .int 20, .ref m0], M1)) rfl rfl rfl ?_
                    refine ps_st (S' := (131, [(0, .ref m0), (1, .int (nI p))], [.int 2, .int (nI p), .int 20, .ref m0], M1)) rfl rfl rfl ?_
                    refine ps_st (S' := (132, [(0, .ref m0), (1, .int (nI p))], [.int ((nI p) + 2), .int 20, .ref m0], M1)) rfl rfl rfl ?_
                    rw [nI_add1 (p := p) (k := 2) (x := 2) rfl (by omega)]
                    show pl _ _ _ (_, [(0, .ref m0), (1, .int (nI p))], [.int (nI (p + 2)), .int 20, .ref m0], M1) _
                    refine pl_call (a := [.ref m0, .int 20, .int (nI (p + 2))]) (rest := []) rfl rfl rfl (rd_wrong (x1 := 20) (x2 := (nI (p + 2))) hR1) (fun v546 M547 q548 => ?_)
                    obtain ⟨I549, R550, rfl, hR551, hI552, hX553, hi554, hi555⟩ := q548
                    have hi556 := (hI552 51 (by decide)).trans hl51
                    have hi557 := (hI552 52 (by decide)).trans hl52
                    have hi558 := (hI552 53 (by decide)).trans hl53
                    have hi559 := (hI552 58 (by decide)).trans hl58
                    have hi560 := (hI552 55 (by decide)).trans hl55
                    have hi561 := (hI552 25 (by decide)).trans hl25
                    have hF_562 := hF1.mono (cIx hI552 (by decide)) (cRx hX553 (by decide))
                    have hY_563 := hY1.mono (cIx hI552 (by decide)) (cRx hX553 (by decide))
                    have hP_564 := hP1.mono (cIx hI552 (by decide)) (cRx hX553 (by decide))
                    have hK_565 := hK1.mono (cIx hI552 (by decide)) (cRx hX553 (by decide))
                    have hN9_566 := hN91.mono (cIx hI552 (by decide)) (cRx hX553 (by decide))
                    have hEI567 := hEI1.tr hI552 (by decide)
                    have hER568 := hER1.tr hX553 (by decide)
                    show pl _ _ _ (135, [(0, .ref m0), (1, .int (nI p))], [.int 0], M547) _
                    exact ps_ret rfl rfl (Or.inr ⟨(20, p + 2), I549, R550, by
                        rw [← hs, flS_st (i := k) (by omega), ← hpk, fh_20 (by have e1 := ffl_0 cf (by2 f p); have e2 := sev_0 (by2 f p); have e3 := hall_80 (by2 f p); omega) (by rw [tx_no (by omega)]; decide)], rfl, hR551, hEI567, hER568, hi554, hi555⟩)
                  · have c_104 : ¬ (¬ (nI (tg f E (by2 f (p + 2)))) = 1) := of_decide_eq_false c_104
                    have n_104 : tg f E (by2 f (p + 2)) = 1 := (eq_nI (p := tg f E (by2 f (p + 2))) (n := 1) (Nat.lt_trans (tg_lt _ _ _) (by decide)) (by decide)).mp (Decidable.not_not.mp c_104)
                    refine ps_st (S' := (108, [(0, .ref m0), (1, .int (nI p)), (2, .int (nI (by2 f pF))), (3, .int (nI f0)), (4, .int (nI k)), (5, .int (nI (by2 f p)))], [.ref m0], M1)) rfl rfl rfl ?_
                    refine ps_st (S' := (109, [(0, .ref m0), (1, .int (nI p)), (2, .int (nI (by2 f pF))), (3, .int (nI f0)), (4, .int (nI k)), (5, .int (nI (by2 f p)))], [.ref m0, .ref m0], M1)) rfl rfl rfl ?_
                    refine ps_st (S' := (110, [(0, .ref m0), (1, .int (nI p)), (2, .int (nI (by2 f pF))), (3, .int (nI f0)), (4, .int (nI k)), (5, .int (nI (by2 f p)))], [.ref m0, .ref m0, .ref m0], M1)) rfl rfl rfl ?_
                    refine ps_st (S' := (111, [(0, .ref m0), (1, .int (nI p)), (2, .int (nI (by2 f pF))), (3, .int (nI f0)), (4, .int (nI k)), (5, .int (nI (by2 f p)))], [.int (nI p), .ref m0, .ref m0, .ref m0], M1)) rfl rfl rfl ?_
                    refine ps_st (S' := (112, [(0, .ref m0), (1, .int (nI p)), (2, .int (nI (by2 f pF))), (3, .int (nI f0)), (4, .int (nI k)), (5, .int (nI (by2 f p)))], [.int 2, .int (nI p), .ref m0, .ref m0, .ref m0], M1)) rfl rfl rfl ?_
                    refine ps_st (S' := (113, [(0, .ref m0), (1, .int (nI p)), (2, .int (nI (by2 f pF))), (3, .int (nI f0)), (4, .int (nI k)), (5, .int (nI (by2 f p)))], [.int ((nI p) + 2), .ref m0, .ref m0, .ref m0], M1)) rfl rfl rfl ?_
                    rw [nI_add1 (p := p) (k := 2) (x := 2) rfl (by omega)]
                    show pl _ _ _ (_, [(0, .ref m0), (1, .int (nI p)), (2, .int (nI (by2 f pF))), (3, .int (nI f0)), (4, .int (nI k)), (5, .int (nI (by2 f p)))], [.int (nI (p + 2)), .ref m0, .ref m0, .ref m0], M1) _
                    refine pl_call (a := [.ref m0, .int (nI (p + 2))]) (rest := [.ref m0, .ref m0]) rfl rfl rfl (rd_u2 (n := n) (f := f) (p := (p + 2)) hR1 hF1 (by omega)) (fun v569 M570 q571 => ?_)
                    obtain ⟨rfl, rfl⟩ := q571
                    show pl _ _ _ (116, [(0, .ref m0), (1, .int (nI p)), (2, .int (nI (by2 f pF))), (3, .int (nI f0)), (4, .int (nI k)), (5, .int (nI (by2 f p)))], [.int (nI (by2 f (p + 2))), .ref m0, .ref m0], M1) _
                    have hu_113 := by2_lt f (p + 2)
                    refine pl_call (a := [.ref m0, .int (nI (by2 f (p + 2)))]) (rest := [.ref m0]) rfl rfl rfl (rd_symOf (n := n) (f := f) (tx := tx) (cN := cN) (A := A) (N := N) (mj := mj) (E := E) (k := (by2 f (p + 2))) hR1 hl51 hl52 hl53 hF1 hY1 hP1 (hEP) (hN) (hmj) (by omega)) (fun v572 M573 q574 => ?_)
                    obtain ⟨s575, q116_s, rfl, rfl⟩ := q574
                    show pl _ _ _ (119, [(0, .ref m0), (1, .int (nI p)), (2, .int (nI (by2 f pF))), (3, .int (nI f0)), (4, .int (nI k)), (5, .int (nI (by2 f p)))], [.int (nI s575), .ref m0], M1) _
                    have hsl_116 := q116_s.1
                    have htl_116 := hY1.1.2.2.1
                    refine ps_st (S' := (120, [(0, .ref m0), (1, .int (nI p)), (2, .int (nI (by2 f pF))), (3, .int (nI f0)), (4, .int (nI k)), (5, .int (nI (by2 f p)))], [.int 1, .int (nI s575), .ref m0], M1)) rfl rfl rfl ?_
                    refine pl_call (a := [.ref m0, .int (nI s575), .int 1]) (rest := []) rfl rfl rfl (rd_unq1 (tx := tx) (cN := cN) (A := A) (s := s575) (l := (tX f n E (by2 f (p + 2)))) hR1 hY1 (q116_s)) (fun v576 M577 q578 => ?_)
                    obtain ⟨rfl, rfl⟩ := q578
                    show pl _ _ _ (123, [(0, .ref m0), (1, .int (nI p)), (2, .int (nI (by2 f pF))), (3, .int (nI f0)), (4, .int (nI k)), (5, .int (nI (by2 f p)))], [.int (nI (unqN (tX f n E (by2 f (p + 2)))))], M1) _
                    refine ps_if (S1 := (136, [(0, .ref m0), (1, .int (nI p)), (2, .int (nI (by2 f pF))), (3, .int (nI f0)), (4, .int (nI k)), (5, .int (nI (by2 f p)))], [], M1)) (S2 := (126, [(0, .ref m0), (1, .int (nI p))], [], M1)) rfl rfl rfl (fun c_123 => ?_) (fun c_123 => ?_)
                    · have c_123 : ¬ (nI (unqN (tX f n E (by2 f (p + 2))))) = 0 := of_decide_eq_true c_123
                      have n_123 : ¬ (unqN (tX f n E (by2 f (p + 2))) = 0) := fun h9 => c_123 ((eq_nI (p := unqN (tX f n E (by2 f (p + 2)))) (n := 0) (Nat.lt_trans (le1_unq _) (by decide)) (by decide)).mpr h9)
                      refine ps_st (S' := (137, [(0, .ref m0), (1, .int (nI p)), (2, .int (nI (by2 f pF))), (3, .int (nI f0)), (4, .int (nI k)), (5, .int (nI (by2 f p)))], [.ref m0], M1)) rfl rfl rfl ?_
                      refine ps_st (S' := (138, [(0, .ref m0), (1, .int (nI p)), (2, .int (nI (by2 f pF))), (3, .int (nI f0)), (4, .int (nI k)), (5, .int (nI (by2 f p)))], [.ref m0, .ref m0], M1)) rfl rfl rfl ?_
                      refine ps_st (S' := (139, [(0, .ref m0), (1, .int (nI p)), (2, .int (nI (by2 f pF))), (3, .int (nI f0)), (4, .int (nI k)), (5, .int (nI (by2 f p)))], [.int (nI p), .ref m0, .ref m0], M1)) rfl rfl rfl ?_
                      refine ps_st (S' := (140, [(0, .ref m0), (1, .int (nI p)), (2, .int (nI (by2 f pF))), (3, .int (nI f0)), (4, .int (nI k)), (5, .int (nI (by2 f p)))], [.int 4, .int (nI p), .ref m0, .ref m0], M1)) rfl rfl rfl ?_
                      refine ps_st (S' := (141, [(0, .ref m0), (1, .int (nI p)), (2, .int (nI (by2 f pF))), (3, .int (nI f0)), (4, .int (nI k)), (5, .int (nI (by2 f p)))], [.int ((nI p) + 4), .ref m0, .ref m0], M1)) rfl rfl rfl ?_
                      rw [nI_add1 (p := p) (k := 4) (x := 4) rfl (by omega)]
                      show pl _ _ _ (_, [(0, .ref m0), (1, .int (nI p)), (2, .int (nI (by2 f pF))), (3, .int (nI f0)), (4, .int (nI k)), (5, .int (nI (by2 f p)))], [.int (nI (p + 4)), .ref m0, .ref m0], M1) _
                      refine pl_call (a := [.ref m0, .int (nI (p + 4))]) (rest := [.ref m0]) rfl rfl rfl (rd_u2 (n := n) (f := f) (p := (p + 4)) hR1 hF1 (by omega)) (fun v579 M580 q581 => ?_)
                      obtain ⟨rfl, rfl⟩ := q581
                      show pl _ _ _ (144, [(0, .ref m0), (1, .int (nI p)), (2, .int (nI (by2 f pF))), (3, .int (nI f0)), (4, .int (nI k)), (5, .int (nI (by2 f p)))], [.int (nI (by2 f (p + 4))), .ref m0], M1) _
                      have hu_141 := by2_lt f (p + 4)
                      refine pl_call (a := [.ref m0, .int (nI (by2 f (p + 4)))]) (rest := []) rfl rfl rfl (rd_tag (n := n) (f := f) (tx := tx) (cN := cN) (A := A) (N := N) (mj := mj) (E := E) (k := (by2 f (p + 4))) hR1 hl51 hl52 hl53 hF1 hY1 hP1 (hEP) (hN) (hmj) (by2_lt _ _)) (fun v582 M583 q584 => ?_)
                      obtain ⟨rfl, rfl⟩ := q584
                      show pl _ _ _ (147, [(0, .ref m0), (1, .int (nI p)), (2, .int (nI (by2 f pF))), (3, .int (nI f0)), (4, .int (nI k)), (5, .int (nI (by2 f p)))], [.int (nI (tg f E (by2 f (p + 4))))], M1) _
                      have htg_144 := tg_lt f E (by2 f (p + 4))
                      refine ps_st (S' := (148, [(0, .ref m0), (1, .int (nI p)), (2, .int (nI (by2 f pF))), (3, .int (nI f0)), (4, .int (nI k)), (5, .int (nI (by2 f p)))], [.int 1, .int (nI (tg f E (by2 f (p + 4))))], M1)) rfl rfl rfl ?_
                      refine ps_if2 (S1 := (169, [(0, .ref m0), (1, .int (nI p))], [], M1)) (S2 := (151, [(0, .ref m0), (1, .int (nI p)), (2, .int (nI (by2 f pF))), (3, .int (nI f0)), (4, .int (nI k)), (5, .int (nI (by2 f p)))], [], M1)) rfl rfl rfl (fun c_148 => ?_) (fun c_148 => ?_)
                      · have c_148 : ¬ (nI (tg f E (by2 f (p + 4)))) = 1 := of_decide_eq_true c_148
                        have n_148 : ¬ (tg f E (by2 f (p + 4)) = 1) := fun h9 => c_148 ((eq_nI (p := tg f E (by2 f (p + 4))) (n := 1) (Nat.lt_trans (tg_lt _ _ _) (by decide)) (by decide)).mpr h9)
                        refine ps_st (S' := (170, [(0, .ref m0), (1, .int (nI p))], [.ref m0], M1)) rfl rfl rfl ?_
                        refine ps_st (S' := (172, [(0, .ref m0), (1, .int (nI p))], [.int 21, .ref m0], M1)) rfl rfl rfl ?_
                        refine ps_st (S' := (173, [(0, .ref m0), (1, .int (nI p))], [.int (nI p), .int 21, .ref m0], M1)) rfl rfl rfl ?_
                        refine ps_st (S' := (174, [(0, .ref m0), (1, .int (nI p))], [.int 4, .int (nI p), .int 21, .ref m0], M1)) rfl rfl rfl ?_
                        refine ps_st (S' := (175, [(0, .ref m0), (1, .int (nI p))], [.int ((nI p) + 4), .int 21, .ref m0], M1)) rfl rfl rfl ?_
                        rw [nI_add1 (p := p) (k := 4) (x := 4) rfl (by omega)]
                        show pl _ _ _ (_, [(0, .ref m0), (1, .int (nI p))], [.int (nI (p + 4)), .int 21, .ref m0], M1) _
                        refine pl_call (a := [.ref m0, .int 21, .int (nI (p + 4))]) (rest := []) rfl rfl rfl (rd_wrong (x1 := 21) (x2 := (nI (p + 4))) hR1) (fun v585 M586 q587 => ?_)
                        obtain ⟨I588, R589, rfl, hR590, hI591, hX592, hi593, hi594⟩ := q587
                        have hi595 := (hI591 51 (by decide)).trans hl51
                        have hi596 := (hI591 52 (by decide)).trans hl52
                        have hi597 := (hI591 53 (by decide)).trans hl53
                        have hi598 := (hI591 58 (by decide)).trans hl58
                        have hi599 := (hI591 55 (by decide)).trans hl55
                        have hi600 := (hI591 25 (by decide)).trans hl25
                        have hF_601 := hF1.mono (cIx hI591 (by decide)) (cRx hX592 (by decide))
                        have hY_602 := hY1.mono (cIx hI591 (by decide)) (cRx hX592 (by decide))
                        have hP_603 := hP1.mono (cIx hI591 (by decide)) (cRx hX592 (by decide))
                        have hK_604 := hK1.mono (cIx hI591 (by decide)) (cRx hX592 (by decide))
                        have hN9_605 := hN91.mono (cIx hI591 (by decide)) (cRx hX592 (by decide))
                        have hEI606 := hEI1.tr hI591 (by decide)
                        have hER607 := hER1.tr hX592 (by decide)
                        show pl _ _ _ (178, [(0, .ref m0), (1, .int (nI p))], [.int 0], M586) _
                        exact ps_ret rfl rfl (Or.inr ⟨(21, p + 4), I588, R589, by
                            rw [← hs, flS_st (i := k) (by omega), ← hpk, fh_21 (by have e1 := ffl_0 cf (by2 f p); have e2 := sev_0 (by2 f p); have e3 := hall_80 (by2 f p); omega) (by omega) (by rw [tx_no (by omega)]; decide)], rfl, hR590, hEI606, hER607, hi593, hi594⟩)
                      · have c_148 : ¬ (¬ (nI (tg f E (by2 f (p + 4)))) = 1) := of_decide_eq_false c_148
                        have n_148 : tg f E (by2 f (p + 4)) = 1 := (eq_nI (p := tg f E (by2 f (p + 4))) (n := 1) (Nat.lt_trans (tg_lt _ _ _) (by decide)) (by decide)).mp (Decidable.not_not.mp c_148)
                        refine ps_st (S' := (152, [(0, .ref m0), (1, .int (nI p)), (2, .int (nI (by2 f pF))), (3, .int (nI f0)), (4, .int (nI k)), (5, .int (nI (by2 f p)))], [.ref m0], M1)) rfl rfl rfl ?_
                        refine ps_st (S' := (153, [(0, .ref m0), (1, .int (nI p)), (2, .int (nI (by2 f pF))), (3, .int (nI f0)), (4, .int (nI k)), (5, .int (nI (by2 f p)))], [.ref m0, .ref m0], M1)) rfl rfl rfl ?_
                        refine ps_st (S' := (154, [(0, .ref m0), (1, .int (nI p)), (2, .int (nI (by2 f pF))), (3, .int (nI f0)), (4, .int (nI k)), (5, .int (nI (by2 f p)))], [.ref m0, .ref m0, .ref m0], M1)) rfl rfl rfl ?_
                        refine ps_st (S' := (155, [(0, .ref m0), (1, .int (nI p)), (2, .int (nI (by2 f pF))), (3, .int (nI f0)), (4, .int (nI k)), (5, .int (nI (by2 f p)))], [.int (nI p), .ref m0, .ref m0, .ref m0], M1)) rfl rfl rfl ?_
                        refine ps_st (S' := (156, [(0, .ref m0), (1, .int (nI p)), (2, .int (nI (by2 f pF))), (3, .int (nI f0)), (4, .int (nI k)), (5, .int (nI (by2 f p)))], [.int 4, .int (nI p), .ref m0, .ref m0, .ref m0], M1)) rfl rfl rfl ?_
                        refine ps_st (S' := (157, [(0, .ref m0), (1, .int (nI p)), (2, .int (nI (by2 f pF))), (3, .int (nI f0)), (4, .int (nI k)), (5, .int (nI (by2 f p)))], [.int ((nI p) + 4), .ref m0, .ref m0, .ref m0], M1)) rfl rfl rfl ?_
                        rw [nI_add1 (p := p) (k := 4) (x := 4) rfl (by omega)]
                        show pl _ _ _ (_, [(0, .ref m0), (1, .int (nI p)), (2, .int (nI (by2 f pF))), (3, .int (nI f0)), (4, .int (nI k)), (5, .int (nI (by2 f p)))], [.int (nI (p + 4)), .ref m0, .ref m0, .ref m0], M1) _
                        refine pl_call (a := [.ref m0, .int (nI (p + 4))]) (rest := [.ref m0, .ref m0]) rfl rfl rfl (rd_u2 (n := n) (f := f) (p := (p + 4)) hR1 hF1 (by omega)) (fun v608 M609 q610 => ?_)
                        obtain ⟨rfl, rfl⟩ := q610
                        show pl _ _ _ (160, [(0, .ref m0), (1, .int (nI p)), (2, .int (nI (by2 f pF))), (3, .int (nI f0)), (4, .int (nI k)), (5, .int (nI (by2 f p)))], [.int (nI (by2 f (p + 4))), .ref m0, .ref m0], M1) _
                        have hu_157 := by2_lt f (p + 4)
                        refine pl_call (a := [.ref m0, .int (nI (by2 f (p + 4)))]) (rest := [.ref m0]) rfl rfl rfl (rd_symOf (n := n) (f := f) (tx := tx) (cN := cN) (A := A) (N := N) (mj := mj) (E := E) (k := (by2 f (p + 4))) hR1 hl51 hl52 hl53 hF1 hY1 hP1 (hEP) (hN) (hmj) (by omega)) (fun v611 M612 q613 => ?_)
                        obtain ⟨s614, q160_s, rfl, rfl⟩ := q613
                        show pl _ _ _ (163, [(0, .ref m0), (1, .int (nI p)), (2, .int (nI (by2 f pF))), (3, .int (nI f0)), (4, .int (nI k)), (5, .int (nI (by2 f p)))], [.int (nI s614), .ref m0], M1) _
                        have hsl_160 := q160_s.1
                        have htl_160 := hY1.1.2.2.1
                        refine pl_call (a := [.ref m0, .int (nI s614)]) (rest := []) rfl rfl rfl (rd_isField (tx := tx) (cN := cN) (A := A) (s := s614) (l := (tX f n E (by2 f (p + 4)))) hR1 hY1 (q160_s)) (fun v615 M616 q617 => ?_)
                        obtain ⟨rfl, rfl⟩ := q617
                        show pl _ _ _ (166, [(0, .ref m0), (1, .int (nI p)), (2, .int (nI (by2 f pF))), (3, .int (nI f0)), (4, .int (nI k)), (5, .int (nI (by2 f p)))], [.int (nI (fldN (tX f n E (by2 f (p + 4)))))], M1) _
                        refine ps_if (S1 := (179, [(0, .ref m0), (1, .int (nI p)), (2, .int (nI (by2 f pF))), (3, .int (nI f0)), (4, .int (nI k)), (5, .int (nI (by2 f p)))], [], M1)) (S2 := (169, [(0, .ref m0), (1, .int (nI p))], [], M1)) rfl rfl rfl (fun c_166 => ?_) (fun c_166 => ?_)
                        · have c_166 : ¬ (nI (fldN (tX f n E (by2 f (p + 4))))) = 0 := of_decide_eq_true c_166
                          have n_166 : ¬ (fldN (tX f n E (by2 f (p + 4))) = 0) := fun h9 => c_166 ((eq_nI (p := fldN (tX f n E (by2 f (p + 4)))) (n := 0) (Nat.lt_trans (le1_fld _) (by decide)) (by decide)).mpr h9)
                          refine ps_st (S' := (180, [(0, .ref m0), (1, .int (nI p)), (2, .int (nI (by2 f pF))), (3, .int (nI f0)), (4, .int (nI k)), (5, .int (nI (by2 f p)))], [.ref m0], M1)) rfl rfl rfl ?_
                          refine pr_int (j := 25) (S' := (183, [(0, .ref m0), (1, .int (nI p)), (2, .int (nI (by2 f pF))), (3, .int (nI f0)), (4, .int (nI k)), (5, .int (nI (by2 f p)))], [.int (nI (f0 + k))], M1)) rfl hR1 rfl hl25 rfl ?_
                          refine ps_st (S' := (185, [(6, .int (nI (f0 + k))), (0, .ref m0), (1, .int (nI p)), (2, .int (nI (by2 f pF))), (3, .int (nI f0)), (4, .int (nI k)), (5, .int (nI (by2 f p)))], [], M1)) rfl rfl rfl ?_
                          refine ps_st (S' := (186, [(6, .int (nI (f0 + k))), (0, .ref m0), (1, .int (nI p)), (2, .int (nI (by2 f pF))), (3, .int (nI f0)), (4, .int (nI k)), (5, .int (nI (by2 f p)))], [.ref m0], M1)) rfl rfl rfl ?_
                          refine pr_ref (j := 27) (S' := (189, [(6, .int (nI (f0 + k))), (0, .ref m0), (1, .int (nI p)), (2, .int (nI (by2 f pF))), (3, .int (nI f0)), (4, .int (nI k)), (5, .int (nI (by2 f p)))], [.ref (q 27)], M1)) rfl hR1 rfl rfl ?_
                          refine ps_st (S' := (191, [(6, .int (nI (f0 + k))), (0, .ref m0), (1, .int (nI p)), (2, .int (nI (by2 f pF))), (3, .int (nI f0)), (4, .int (nI k)), (5, .int (nI (by2 f p)))], [.int (nI (f0 + k)), .ref (q 27)], M1)) rfl rfl rfl ?_
                          refine ps_st (S' := (193, [(6, .int (nI (f0 + k))), (0, .ref m0), (1, .int (nI p)), (2, .int (nI (by2 f pF))), (3, .int (nI f0)), (4, .int (nI k)), (5, .int (nI (by2 f p)))], [.int (nI (by2 f p)), .int (nI (f0 + k)), .ref (q 27)], M1)) rfl rfl rfl ?_
                          refine pr_st (a := 27) (j := f0 + k) rfl hR1 rfl (by omega) (fun M618 R619 i1_193 hR620 hS621 => ?_)
                          have hF_622 := hF1.mono (fun _ _ => rfl) (rRx hS621 (by decide))
                          have hY_623 := hY1.mono (fun _ _ => rfl) (rRx hS621 (by decide))
                          have hP_624 := hP1.mono (fun _ _ => rfl) (rRx hS621 (by decide))
                          have hK_625 := hK1.mono (fun _ _ => rfl) (rRx hS621 (by decide))
                          have hN9_626 := hN91.mono (fun _ _ => rfl) (rRx hS621 (by decide))
                          have hER627 := hER1.st hS621 (by decide)
                          show pl _ _ _ (194, [(6, .int (nI (f0 + k))), (0, .ref m0), (1, .int (nI p)), (2, .int (nI (by2 f pF))), (3, .int (nI f0)), (4, .int (nI k)), (5, .int (nI (by2 f p)))], [], M618) _
                          have c27_628 : CE 27 (f0 + k) (nI (by2 f p)) I1 R619 := CE.st hS621
                          refine ps_st (S' := (195, [(6, .int (nI (f0 + k))), (0, .ref m0), (1, .int (nI p)), (2, .int (nI (by2 f pF))), (3, .int (nI f0)), (4, .int (nI k)), (5, .int (nI (by2 f p)))], [.ref m0], M618)) rfl rfl rfl ?_
                          refine pr_ref (j := 28) (S' := (198, [(6, .int (nI (f0 + k))), (0, .ref m0), (1, .int (nI p)), (2, .int (nI (by2 f pF))), (3, .int (nI f0)), (4, .int (nI k)), (5, .int (nI (by2 f p)))], [.ref (q 28)], M618)) rfl hR620 rfl rfl ?_
                          refine ps_st (S' := (200, [(6, .int (nI (f0 + k))), (0, .ref m0), (1, .int (nI p)), (2, .int (nI (by2 f pF))), (3, .int (nI f0)), (4, .int (nI k)), (5, .int (nI (by2 f p)))], [.int (nI (f0 + k)), .ref (q 28)], M618)) rfl rfl rfl ?_
                          refine ps_st (S' := (201, [(6, .int (nI (f0 + k))), (0, .ref m0), (1, .int (nI p)), (2, .int (nI (by2 f pF))), (3, .int (nI f0)), (4, .int (nI k)), (5, .int (nI (by2 f p)))], [.ref m0, .int (nI (f0 + k)), .ref (q 28)], M618)) rfl rfl rfl ?_
                          refine ps_st (S' := (202, [(6, .int (nI (f0 + k))), (0, .ref m0), (1, .int (nI p)), (2, .int (nI (by2 f pF))), (3, .int (nI f0)), (4, .int (nI k)), (5, .int (nI (by2 f p)))], [.ref m0, .ref m0, .int (nI (f0 + k)), .ref (q 28)], M618)) rfl rfl rfl ?_
                          refine ps_st (S' := (203, [(6, .int (nI (f0 + k))), (0, .ref m0), (1, .int (nI p)), (2, .int (nI (by2 f pF))), (3, .int (nI f0)), (4, .int (nI k)), (5, .int (nI (by2 f p)))], [.int (nI p), .ref m0, .ref m0, .int (nI (f0 + k)), .ref (q 28)], M618)) rfl rfl rfl ?_
                          refine ps_st (S' := (204, [(6, .int (nI (f0 + k))), (0, .ref m0), (1, .int (nI p)), (2, .int (nI (by2 f pF))), (3, .int (nI f0)), (4, .int (nI k)), (5, .int (nI (by2 f p)))], [.int 2, .int (nI p), .ref m0, .ref m0, .int (nI (f0 + k)), .ref (q 28)], M618)) rfl rfl rfl ?_
                          refine ps_st (S' := (205, [(6, .int (nI (f0 + k))), (0, .ref m0), (1, .int (nI p)), (2, .int (nI (by2 f pF))), (3, .int (nI f0)), (4, .int (nI k)), (5, .int (nI (by2 f p)))], [.int ((nI p) + 2), .ref m0, .ref m0, .int (nI (f0 + k)), .ref (q 28)], M618)) rfl rfl rfl ?_
                          rw [nI_add1 (p := p) (k := 2) (x := 2) rfl (by omega)]
                          show pl _ _ _ (_, [(6, .int (nI (f0 + k))), (0, .ref m0), (1, .int (nI p)), (2, .int (nI (by2 f pF))), (3, .int (nI f0)), (4, .int (nI k)), (5, .int (nI (by2 f p)))], [.int (nI (p + 2)), .ref m0, .ref m0, .int (nI (f0 + k)), .ref (q 28)], M618) _
                          refine pl_call (a := [.ref m0, .int (nI (p + 2))]) (rest := [.ref m0, .int (nI (f0 + k)), .ref (q 28)]) rfl rfl rfl (rd_u2 (n := n) (f := f) (p := (p + 2)) hR620 hF_622 (by omega)) (fun v629 M630 q631 => ?_)
                          obtain ⟨rfl, rfl⟩ := q631
                          show pl _ _ _ (208, [(6, .int (nI (f0 + k))), (0, .ref m0), (1, .int (nI p)), (2, .int (nI (by2 f pF))), (3, .int (nI f0)), (4, .int (nI k)), (5, .int (nI (by2 f p)))], [.int (nI (by2 f (p + 2))), .ref m0, .int (nI (f0 + k)), .ref (q 28)], M618) _
                          have hu_205 := by2_lt f (p + 2)
                          refine pl_call (a := [.ref m0, .int (nI (by2 f (p + 2)))]) (rest := [.int (nI (f0 + k)), .ref (q 28)]) rfl rfl rfl (rd_symOf (n := n) (f := f) (tx := tx) (cN := cN) (A := A) (N := N) (mj := mj) (E := E) (k := (by2 f (p + 2))) hR620 hl51 hl52 hl53 hF_622 hY_623 hP_624 (hEP) (hN) (hmj) (by omega)) (fun v632 M633 q634 => ?_)
                          obtain ⟨s635, q208_s, rfl, rfl⟩ := q634
                          show pl _ _ _ (211, [(6, .int (nI (f0 + k))), (0, .ref m0), (1, .int (nI p)), (2, .int (nI (by2 f pF))), (3, .int (nI f0)), (4, .int (nI k)), (5, .int (nI (by2 f p)))], [.int (nI s635), .int (nI (f0 + k)), .ref (q 28)], M618) _
                          have hsl_208 := q208_s.1
                          have htl_208 := hY_623.1.2.2.1
                          refine pr_st (a := 28) (j := f0 + k) rfl hR620 rfl (by omega) (fun M636 R637 i1_211 hR638 hS639 => ?_)
                          have hF_640 := hF_622.mono (fun _ _ => rfl) (rRx hS639 (by decide))
                          have hY_641 := hY_623.mono (fun _ _ => rfl) (rRx hS639 (by decide))
                          have hP_642 := hP_624.mono (fun _ _ => rfl) (rRx hS639 (by decide))
                          have hK_643 := hK_625.mono (fun _ _ => rfl) (rRx hS639 (by decide))
                          have c27_644 := c27_628.mono (fun _ _ => rfl) (rRx hS639 (by decide))
                          have hER645 := hER627.st hS639 (by decide)
                          show pl _ _ _ (212, [(6, .int (nI (f0 + k))), (0, .ref m0), (1, .int (nI p)), (2, .int (nI (by2 f pF))), (3, .int (nI f0)), (4, .int (nI k)), (5, .int (nI (by2 f p)))], [], M636) _
                          have c28_646 : CE 28 (f0 + k) (nI s635) I1 R637 := CE.st hS639
                          have hN9_647 := FN.st (I' := I1) hN9_626 hS639 rfl
                          refine ps_st (S' := (213, [(6, .int (nI (f0 + k))), (0, .ref m0), (1, .int (nI p)), (2, .int (nI (by2 f pF))), (3, .int (nI f0)), (4, .int (nI k)), (5, .int (nI (by2 f p)))], [.ref m0], M636)) rfl rfl rfl ?_
                          refine pr_ref (j := 29) (S' := (216, [(6, .int (nI (f0 + k))), (0, .ref m0), (1, .int (nI p)), (2, .int (nI (by2 f pF))), (3, .int (nI f0)), (4, .int (nI k)), (5, .int (nI (by2 f p)))], [.ref (q 29)], M636)) rfl hR638 rfl rfl ?_
                          refine ps_st (S' := (218, [(6, .int (nI (f0 + k))), (0, .ref m0), (1, .int (nI p)), (2, .int (nI (by2 f pF))), (3, .int (nI f0)), (4, .int (nI k)), (5, .int (nI (by2 f p)))], [.int (nI (f0 + k)), .ref (q 29)], M636)) rfl rfl rfl ?_
                          refine ps_st (S' := (219, [(6, .int (nI (f0 + k))), (0, .ref m0), (1, .int (nI p)), (2, .int (nI (by2 f pF))), (3, .int (nI f0)), (4, .int (nI k)), (5, .int (nI (by2 f p)))], [.ref m0, .int (nI (f0 + k)), .ref (q 29)], M636)) rfl rfl rfl ?_
                          refine ps_st (S' := (220, [(6, .int (nI (f0 + k))), (0, .ref m0), (1, .int (nI p)), (2, .int (nI (by2 f pF))), (3, .int (nI f0)), (4, .int (nI k)), (5, .int (nI (by2 f p)))], [.ref m0, .ref m0, .int (nI (f0 + k)), .ref (q 29)], M636)) rfl rfl rfl ?_
                          refine ps_st (S' := (221, [(6, .int (nI (f0 + k))), (0, .ref m0), (1, .int (nI p)), (2, .int (nI (by2 f pF))), (3, .int (nI f0)), (4, .int (nI k)), (5, .int (nI (by2 f p)))], [.int (nI p), .ref m0, .ref m0, .int (nI (f0 + k)), .ref (q 29)], M636)) rfl rfl rfl ?_
                          refine ps_st (S' := (222, [(6, .int (nI (f0 + k))), (0, .ref m0), (1, .int (nI p)), (2, .int (nI (by2 f pF))), (3, .int (nI f0)), (4, .int (nI k)), (5, .int (nI (by2 f p)))], [.int 4, .int (nI p), .ref m0, .ref m0, .int (nI (f0 + k)), .ref (q 29)], M636)) rfl rfl rfl ?_
                          refine ps_st (S' := (223, [(6, .int (nI (f0 + k))), (0, .ref m0), (1, .int (nI p)), (2, .int (nI (by2 f pF))), (3, .int (nI f0)), (4, .int (nI k)), (5, .int (nI (by2 f p)))], [.int ((nI p) + 4), .ref m0, .ref m0, .int (nI (f0 + k)), .ref (q 29)], M636)) rfl rfl rfl ?_
                          rw [nI_add1 (p := p) (k := 4) (x := 4) rfl (by omega)]
                          show pl _ _ _ (_, [(6, .int (nI (f0 + k))), (0, .ref m0), (1, .int (nI p)), (2, .int (nI (by2 f pF))), (3, .int (nI f0)), (4, .int (nI k)), (5, .int (nI (by2 f p)))], [.int (nI (p + 4)), .ref m0, .ref m0, .int (nI (f0 + k)), .ref (q 29)], M636) _
                          refine pl_call (a := [.ref m0, .int (nI (p + 4))]) (rest := [.ref m0, .int (nI (f0 + k)), .ref (q 29)]) rfl rfl rfl (rd_u2 (n := n) (f := f) (p := (p + 4)) hR638 hF_640 (by omega)) (fun v648 M649 q650 => ?_)
                          obtain ⟨rfl, rfl⟩ := q650
                          show pl _ _ _ (226, [(6, .int (nI (f0 + k))), (0, .ref m0), (1, .int (nI p)), (2, .int (nI (by2 f pF))), (3, .int (nI f0)), (4, .int (nI k)), (5, .int (nI (by2 f p)))], [.int (nI (by2 f (p + 4))), .ref m0, .int (nI (f0 + k)), .ref (q 29)], M636) _
                          have hu_223 := by2_lt f (p + 4)
                          refine pl_call (a := [.ref m0, .int (nI (by2 f (p + 4)))]) (rest := [.int (nI (f0 + k)), .ref (q 29)]) rfl rfl rfl (rd_symOf (n := n) (f := f) (tx := tx) (cN := cN) (A := A) (N := N) (mj := mj) (E := E) (k := (by2 f (p + 4))) hR638 hl51 hl52 hl53 hF_640 hY_641 hP_642 (hEP) (hN) (hmj) (by omega)) (fun v651 M652 q653 => ?_)
                          obtain ⟨s654, q226_s, rfl, rfl⟩ := q653
                          show pl _ _ _ (229, [(6, .int (nI (f0 + k))), (0, .ref m0), (1, .int (nI p)), (2, .int (nI (by2 f pF))), (3, .int (nI f0)), (4, .int (nI k)), (5, .int (nI (by2 f p)))], [.int (nI s654), .int (nI (f0 + k)), .ref (q 29)], M636) _
                          have hsl_226 := q226_s.1
                          have htl_226 := hY_641.1.2.2.1
                          refine pr_st (a := 29) (j := f0 + k) rfl hR638 rfl (by omega) (fun M655 R656 i1_229 hR657 hS658 => ?_)
                          have hF_659 := hF_640.mono (fun _ _ => rfl) (rRx hS658 (by decide))
                          have hY_660 := hY_641.mono (fun _ _ => rfl) (rRx hS658 (by decide))
                          have hP_661 := hP_642.mono (fun _ _ => rfl) (rRx hS658 (by decide))
                          have hK_662 := hK_643.mono (fun _ _ => rfl) (rRx hS658 (by decide))
                          have c27_663 := c27_644.mono (fun _ _ => rfl) (rRx hS658 (by decide))
                          have c28_664 := c28_646.mono (fun _ _ => rfl) (rRx hS658 (by decide))
                          have hER665 := hER645.st hS658 (by decide)
                          show pl _ _ _ (230, [(6, .int (nI (f0 + k))), (0, .ref m0), (1, .int (nI p)), (2, .int (nI (by2 f pF))), (3, .int (nI f0)), (4, .int (nI k)), (5, .int (nI (by2 f p)))], [], M655) _
                          have c29_666 : CE 29 (f0 + k) (nI s654) I1 R656 := CE.st hS658
                          have hN9_667 := FN.st (I' := I1) hN9_647 hS658 rfl
                          refine ps_st (S' := (231, [(6, .int (nI (f0 + k))), (0, .ref m0), (1, .int (nI p)), (2, .int (nI (by2 f pF))), (3, .int (nI f0)), (4, .int (nI k)), (5, .int (nI (by2 f p)))], [.ref m0], M655)) rfl rfl rfl ?_
                          refine pr_ref (j := 30) (S' := (234, [(6, .int (nI (f0 + k))), (0, .ref m0), (1, .int (nI p)), (2, .int (nI (by2 f pF))), (3, .int (nI f0)), (4, .int (nI k)), (5, .int (nI (by2 f p)))], [.ref (q 30)], M655)) rfl hR657 rfl rfl ?_
                          refine ps_st (S' := (236, [(6, .int (nI (f0 + k))), (0, .ref m0), (1, .int (nI p)), (2, .int (nI (by2 f pF))), (3, .int (nI f0)), (4, .int (nI k)), (5, .int (nI (by2 f p)))], [.int (nI (f0 + k)), .ref (q 30)], M655)) rfl rfl rfl ?_
                          refine ps_st (S' := (237, [(6, .int (nI (f0 + k))), (0, .ref m0), (1, .int (nI p)), (2, .int (nI (by2 f pF))), (3, .int (nI f0)), (4, .int (nI k)), (5, .int (nI (by2 f p)))], [.int 0, .int (nI (f0 + k)), .ref (q 30)], M655)) rfl rfl rfl ?_
                          refine pr_st (a := 30) (j := f0 + k) rfl hR657 rfl (by omega) (fun M668 R669 i1_237 hR670 hS671 => ?_)
                          have hF_672 := hF_659.mono (fun _ _ => rfl) (rRx hS671 (by decide))
                          have hY_673 := hY_660.mono (fun _ _ => rfl) (rRx hS671 (by decide))
                          have hP_674 := hP_661.mono (fun _ _ => rfl) (rRx hS671 (by decide))
                          have hK_675 := hK_662.mono (fun _ _ => rfl) (rRx hS671 (by decide))
                          have c27_676 := c27_663.mono (fun _ _ => rfl) (rRx hS671 (by decide))
                          have c28_677 := c28_664.mono (fun _ _ => rfl) (rRx hS671 (by decide))
                          have c29_678 := c29_666.mono (fun _ _ => rfl) (rRx hS671 (by decide))
                          have hN9_679 := hN9_667.mono (fun _ _ => rfl) (rRx hS671 (by decide))
                          have hER680 := hER665.st hS671 (by decide)
                          show pl _ _ _ (238, [(6, .int (nI (f0 + k))), (0, .ref m0), (1, .int (nI p)), (2, .int (nI (by2 f pF))), (3, .int (nI f0)), (4, .int (nI k)), (5, .int (nI (by2 f p)))], [], M668) _
                          refine ps_st (S' := (239, [(6, .int (nI (f0 + k))), (0, .ref m0), (1, .int (nI p)), (2, .int (nI (by2 f pF))), (3, .int (nI f0)), (4, .int (nI k)), (5, .int (nI (by2 f p)))], [.ref m0], M668)) rfl rfl rfl ?_
                          refine pr_ref (j := 31) (S' := (242, [(6, .int (nI (f0 + k))), (0, .ref m0), (1, .int (nI p)), (2, .int (nI (by2 f pF))), (3, .int (nI f0)), (4, .int (nI k)), (5, .int (nI (by2 f p)))], [.ref (q 31)], M668)) rfl hR670 rfl rfl ?_
                          refine ps_st (S' := (244, [(6, .int (nI (f0 + k))), (0, .ref m0), (1, .int (nI p)), (2, .int (nI (by2 f pF))), (3, .int (nI f0)), (4, .int (nI k)), (5, .int (nI (by2 f p)))], [.int (nI (f0 + k)), .ref (q 31)], M668)) rfl rfl rfl ?_
                          refine ps_st (S' := (245, [(6, .int (nI (f0 + k))), (0, .ref m0), (1, .int (nI p)), (2, .int (nI (by2 f pF))), (3, .int (nI f0)), (4, .int (nI k)), (5, .int (nI (by2 f p)))], [.int 0, .int (nI (f0 + k)), .ref (q 31)], M668)) rfl rfl rfl ?_
                          refine pr_st (a := 31) (j := f0 + k) rfl hR670 rfl (by omega) (fun M681 R682 i1_245 hR683 hS684 => ?_)
                          have hF_685 := hF_672.mono (fun _ _ => rfl) (rRx hS684 (by decide))
                          have hY_686 := hY_673.mono (fun _ _ => rfl) (rRx hS684 (by decide))
                          have hP_687 := hP_674.mono (fun _ _ => rfl) (rRx hS684 (by decide))
                          have hK_688 := hK_675.mono (fun _ _ => rfl) (rRx hS684 (by decide))
                          have c27_689 := c27_676.mono (fun _ _ => rfl) (rRx hS684 (by decide))
                          have c28_690 := c28_677.mono (fun _ _ => rfl) (rRx hS684 (by decide))
                          have c29_691 := c29_678.mono (fun _ _ => rfl) (rRx hS684 (by decide))
                          have hN9_692 := hN9_679.mono (fun _ _ => rfl) (rRx hS684 (by decide))
                          have hER693 := hER680.st hS684 (by decide)
                          show pl _ _ _ (246, [(6, .int (nI (f0 + k))), (0, .ref m0), (1, .int (nI p)), (2, .int (nI (by2 f pF))), (3, .int (nI f0)), (4, .int (nI k)), (5, .int (nI (by2 f p)))], [], M681) _
                          refine ps_st (S' := (247, [(6, .int (nI (f0 + k))), (0, .ref m0), (1, .int (nI p)), (2, .int (nI (by2 f pF))), (3, .int (nI f0)), (4, .int (nI k)), (5, .int (nI (by2 f p)))], [.ref m0], M681)) rfl rfl rfl ?_
                          refine pr_ref (j := 32) (S' := (250, [(6, .int (nI (f0 + k))), (0, .ref m0), (1, .int (nI p)), (2, .int (nI (by2 f pF))), (3, .int (nI f0)), (4, .int (nI k)), (5, .int (nI (by2 f p)))], [.ref (q 32)], M681)) rfl hR683 rfl rfl ?_
                          refine ps_st (S' := (252, [(6, .int (nI (f0 + k))), (0, .ref m0), (1, .int (nI p)), (2, .int (nI (by2 f pF))), (3, .int (nI f0)), (4, .int (nI k)), (5, .int (nI (by2 f p)))], [.int (nI (f0 + k)), .ref (q 32)], M681)) rfl rfl rfl ?_
                          refine ps_st (S' := (253, [(6, .int (nI (f0 + k))), (0, .ref m0), (1, .int (nI p)), (2, .int (nI (by2 f pF))), (3, .int (nI f0)), (4, .int (nI k)), (5, .int (nI (by2 f p)))], [.ref m0, .int (nI (f0 + k)), .ref (q 32)], M681)) rfl rfl rfl ?_
                          refine ps_st (S' := (254, [(6, .int (nI (f0 + k))), (0, .ref m0), (1, .int (nI p)), (2, .int (nI (by2 f pF))), (3, .int (nI f0)), (4, .int (nI k)), (5, .int (nI (by2 f p)))], [.int (nI p), .ref m0, .int (nI (f0 + k)), .ref (q 32)], M681)) rfl rfl rfl ?_
                          refine ps_st (S' := (255, [(6, .int (nI (f0 + k))), (0, .ref m0), (1, .int (nI p)), (2, .int (nI (by2 f pF))), (3, .int (nI f0)), (4, .int (nI k)), (5, .int (nI (by2 f p)))], [.int 2, .int (nI p), .ref m0, .int (nI (f0 + k)), .ref (q 32)], M681)) rfl rfl rfl ?_
                          refine ps_st (S' := (256, [(6, .int (nI (f0 + k))), (0, .ref m0), (1, .int (nI p)), (2, .int (nI (by2 f pF))), (3, .int (nI f0)), (4, .int (nI k)), (5, .int (nI (by2 f p)))], [.int ((nI p) + 2), .ref m0, .int (nI (f0 + k)), .ref (q 32)], M681)) rfl rfl rfl ?_
                          rw [nI_add1 (p := p) (k := 2) (x := 2) rfl (by omega)]
                          show pl _ _ _ (_, [(6, .int (nI (f0 + k))), (0, .ref m0), (1, .int (nI p)), (2, .int (nI (by2 f pF))), (3, .int (nI f0)), (4, .int (nI k)), (5, .int (nI (by2 f p)))], [.int (nI (p + 2)), .ref m0, .int (nI (f0 + k)), .ref (q 32)], M681) _
                          refine pl_call (a := [.ref m0, .int (nI (p + 2))]) (rest := [.int (nI (f0 + k)), .ref (q 32)]) rfl rfl rfl (rd_u2 (n := n) (f := f) (p := (p + 2)) hR683 hF_685 (by omega)) (fun v694 M695 q696 => ?_)
                          obtain ⟨rfl, rfl⟩ := q696
                          show pl _ _ _ (259, [(6, .int (nI (f0 + k))), (0, .ref m0), (1, .int (nI p)), (2, .int (nI (by2 f pF))), (3, .int (nI f0)), (4, .int (nI k)), (5, .int (nI (by2 f p)))], [.int (nI (by2 f (p + 2))), .int (nI (f0 + k)), .ref (q 32)], M681) _
                          have hu_256 := by2_lt f (p + 2)
                          refine pr_st (a := 32) (j := f0 + k) rfl hR683 rfl (by omega) (fun M697 R698 i1_259 hR699 hS700 => ?_)
                          have hF_701 := hF_685.mono (fun _ _ => rfl) (rRx hS700 (by decide))
                          have hY_702 := hY_686.mono (fun _ _ => rfl) (rRx hS700 (by decide))
                          have hP_703 := hP_687.mono (fun _ _ => rfl) (rRx hS700 (by decide))
                          have hK_704 := hK_688.mono (fun _ _ => rfl) (rRx hS700 (by decide))
                          have c27_705 := c27_689.mono (fun _ _ => rfl) (rRx hS700 (by decide))
                          have c28_706 := c28_690.mono (fun _ _ => rfl) (rRx hS700 (by decide))
                          have c29_707 := c29_691.mono (fun _ _ => rfl) (rRx hS700 (by decide))
                          have hN9_708 := hN9_692.mono (fun _ _ => rfl) (rRx hS700 (by decide))
                          have hER709 := hER693.st hS700 (by decide)
                          show pl _ _ _ (260, [(6, .int (nI (f0 + k))), (0, .ref m0), (1, .int (nI p)), (2, .int (nI (by2 f pF))), (3, .int (nI f0)), (4, .int (nI k)), (5, .int (nI (by2 f p)))], [], M697) _
                          refine ps_st (S' := (261, [(6, .int (nI (f0 + k))), (0, .ref m0), (1, .int (nI p)), (2, .int (nI (by2 f pF))), (3, .int (nI f0)), (4, .int (nI k)), (5, .int (nI (by2 f p)))], [.ref m0], M697)) rfl rfl rfl ?_
                          refine pr_ref (j := 33) (S' := (264, [(6, .int (nI (f0 + k))), (0, .ref m0), (1, .int (nI p)), (2, .int (nI (by2 f pF))), (3, .int (nI f0)), (4, .int (nI k)), (5, .int (nI (by2 f p)))], [.ref (q 33)], M697)) rfl hR699 rfl rfl ?_
                          refine ps_st (S' := (266, [(6, .int (nI (f0 + k))), (0, .ref m0), (1, .int (nI p)), (2, .int (nI (by2 f pF))), (3, .int (nI f0)), (4, .int (nI k)), (5, .int (nI (by2 f p)))], [.int (nI (f0 + k)), .ref (q 33)], M697)) rfl rfl rfl ?_
                          refine ps_st (S' := (267, [(6, .int (nI (f0 + k))), (0, .ref m0), (1, .int (nI p)), (2, .int (nI (by2 f pF))), (3, .int (nI f0)), (4, .int (nI k)), (5, .int (nI (by2 f p)))], [.ref m0, .int (nI (f0 + k)), .ref (q 33)], M697)) rfl rfl rfl ?_
                          refine ps_st (S' := (268, [(6, .int (nI (f0 + k))), (0, .ref m0), (1, .int (nI p)), (2, .int (nI (by2 f pF))), (3, .int (nI f0)), (4, .int (nI k)), (5, .int (nI (by2 f p)))], [.int (nI p), .ref m0, .int (nI (f0 + k)), .ref (q 33)], M697)) rfl rfl rfl ?_
                          refine ps_st (S' := (269, [(6, .int (nI (f0 + k))), (0, .ref m0), (1, .int (nI p)), (2, .int (nI (by2 f pF))), (3, .int (nI f0)), (4, .int (nI k)), (5, .int (nI (by2 f p)))], [.int 4, .int (nI p), .ref m0, .int (nI (f0 + k)), .ref (q 33)], M697)) rfl rfl rfl ?_
                          refine ps_st (S' := (270, [(6, .int (nI (f0 + k))), (0, .ref m0), (1, .int (nI p)), (2, .int (nI (by2 f pF))), (3, .int (nI f0)), (4, .int (nI k)), (5, .int (nI (by2 f p)))], [.int ((nI p) + 4), .ref m0, .int (nI (f0 + k)), .ref (q 33)], M697)) rfl rfl rfl ?_
                          rw [nI_add1 (p := p) (k := 4) (x := 4) rfl (by omega)]
                          show pl _ _ _ (_, [(6, .int (nI (f0 + k))), (0, .ref m0), (1, .int (nI p)), (2, .int (nI (by2 f pF))), (3, .int (nI f0)), (4, .int (nI k)), (5, .int (nI (by2 f p)))], [.int (nI (p + 4)), .ref m0, .int (nI (f0 + k)), .ref (q 33)], M697) _
                          refine pl_call (a := [.ref m0, .int (nI (p + 4))]) (rest := [.int (nI (f0 + k)), .ref (q 33)]) rfl rfl rfl (rd_u2 (n := n) (f := f) (p := (p + 4)) hR699 hF_701 (by omega)) (fun v710 M711 q712 => ?_)
                          obtain ⟨rfl, rfl⟩ := q712
                          show pl _ _ _ (273, [(6, .int (nI (f0 + k))), (0, .ref m0), (1, .int (nI p)), (2, .int (nI (by2 f pF))), (3, .int (nI f0)), (4, .int (nI k)), (5, .int (nI (by2 f p)))], [.int (nI (by2 f (p + 4))), .int (nI (f0 + k)), .ref (q 33)], M697) _
                          have hu_270 := by2_lt f (p + 4)
                          refine pr_st (a := 33) (j := f0 + k) rfl hR699 rfl (by omega) (fun M713 R714 i1_273 hR715 hS716 => ?_)
                          have hF_717 := hF_701.mono (fun _ _ => rfl) (rRx hS716 (by decide))
                          have hY_718 := hY_702.mono (fun _ _ => rfl) (rRx hS716 (by decide))
                          have hP_719 := hP_703.mono (fun _ _ => rfl) (rRx hS716 (by decide))
                          have hK_720 := hK_704.mono (fun _ _ => rfl) (rRx hS716 (by decide))
                          have c27_721 := c27_705.mono (fun _ _ => rfl) (rRx hS716 (by decide))
                          have c28_722 := c28_706.mono (fun _ _ => rfl) (rRx hS716 (by decide))
                          have c29_723 := c29_707.mono (fun _ _ => rfl) (rRx hS716 (by decide))
                          have hN9_724 := hN9_708.mono (fun _ _ => rfl) (rRx hS716 (by decide))
                          have hER725 := hER709.st hS716 (by decide)
                          show pl _ _ _ (274, [(6, .int (nI (f0 + k))), (0, .ref m0), (1, .int (nI p)), (2, .int (nI (by2 f pF))), (3, .int (nI f0)), (4, .int (nI k)), (5, .int (nI (by2 f p)))], [], M713) _
                          refine ps_st (S' := (275, [(6, .int (nI (f0 + k))), (0, .ref m0), (1, .int (nI p)), (2, .int (nI (by2 f pF))), (3, .int (nI f0)), (4, .int (nI k)), (5, .int (nI (by2 f p)))], [.int (nI f0)], M713)) rfl rfl rfl ?_
                          refine ps_st (S' := (277, [(0, .ref m0), (1, .int (nI p)), (2, .int (nI (by2 f pF))), (3, .int (nI f0)), (4, .int (nI k)), (6, .int (nI (f0 + k))), (7, .int (nI f0))], [], M713)) rfl rfl rfl ?_
                          have h19 : ¬ fflN cf (by2 f p) = 0 := by
                            have e1 := ffl_0 cf (by2 f p)
                            have e2 := sev_0 (by2 f p)
                            have e3 := hall_80 (by2 f p)
                            omega
                          exact ih.2 (k) (p) (0) (s635) (s654) M713 I1 R714 hR715 hEI1 hER725 hl51 hl52 hl53 hl58 hl55 hl25 hF_717 hY_718 hP_719 hK_720 hN9_724 c27_721 c28_722 c29_723 (by omega) (hpk) (by omega) (hs) (by omega) (by omega) (q208_s) (q226_s) (by omega) (by omega) (h19) (by omega) (by omega) (rfl)
                        · have c_166 : ¬ (¬ (nI (fldN (tX f n E (by2 f (p + 4))))) = 0) := of_decide_eq_false c_166
                          have n_166 : fldN (tX f n E (by2 f (p + 4))) = 0 := (eq_nI (p := fldN (tX f n E (by2 f (p + 4)))) (n := 0) (Nat.lt_trans (le1_fld _) (by decide)) (by decide)).mp (Decidable.not_not.mp c_166)
                          refine ps_st (S' := (170, [(0, .ref m0), (1, .int (nI p))], [.ref m0], M1)) rfl rfl rfl ?_
                          refine ps_st (S' := (172, [(0, .ref m0), (1, .int (nI p))], [.int 21, .ref m0], M1)) rfl rfl rfl ?_
                          refine ps_st (S' := (173, [(0, .ref m0), (1, .int (nI p))], [.int (nI p), .int 21, .ref m0], M1)) rfl rfl rfl ?_
                          refine ps_st (S' := (174, [(0, .ref m0), (1, .int (nI p))], [.int 4, .int (nI p), .int 21, .ref m0], M1)) rfl rfl rfl ?_
                          refine ps_st (S' := (175, [(0, .ref m0), (1, .int (nI p))], [.int ((nI p) + 4), .int 21, .ref m0], M1)) rfl rfl rfl ?_
                          rw [nI_add1 (p := p) (k := 4) (x := 4) rfl (by omega)]
                          show pl _ _ _ (_, [(0, .ref m0), (1, .int (nI p))], [.int (nI (p + 4)), .int 21, .ref m0], M1) _
                          refine pl_call (a := [.ref m0, .int 21, .int (nI (p + 4))]) (rest := []) rfl rfl rfl (rd_wrong (x1 := 21) (x2 := (nI (p + 4))) hR1) (fun v726 M727 q728 => ?_)
                          obtain ⟨I729, R730, rfl, hR731, hI732, hX733, hi734, hi735⟩ := q728
                          have hi736 := (hI732 51 (by decide)).trans hl51
                          have hi737 := (hI732 52 (by decide)).trans hl52
                          have hi738 := (hI732 53 (by decide)).trans hl53
                          have hi739 := (hI732 58 (by decide)).trans hl58
                          have hi740 := (hI732 55 (by decide)).trans hl55
                          have hi741 := (hI732 25 (by decide)).trans hl25
                          have hF_742 := hF1.mono (cIx hI732 (by decide)) (cRx hX733 (by decide))
                          have hY_743 := hY1.mono (cIx hI732 (by decide)) (cRx hX733 (by decide))
                          have hP_744 := hP1.mono (cIx hI732 (by decide)) (cRx hX733 (by decide))
                          have hK_745 := hK1.mono (cIx hI732 (by decide)) (cRx hX733 (by decide))
                          have hN9_746 := hN91.mono (cIx hI732 (by decide)) (cRx hX733 (by decide))
                          have hEI747 := hEI1.tr hI732 (by decide)
                          have hER748 := hER1.tr hX733 (by decide)
                          show pl _ _ _ (178, [(0, .ref m0), (1, .int (nI p))], [.int 0], M727) _
                          exact ps_ret rfl rfl (Or.inr ⟨(21, p + 4), I729, R730, by
                              rw [← hs, flS_st (i := k) (by omega), ← hpk, fh_21 (by have e1 := ffl_0 cf (by2 f p); have e2 := sev_0 (by2 f p); have e3 := hall_80 (by2 f p); omega) (by omega) (by omega)], rfl, hR731, hEI747, hER748, hi734, hi735⟩)
                    · have c_123 : ¬ (¬ (nI (unqN (tX f n E (by2 f (p + 2))))) = 0) := of_decide_eq_false c_123
                      have n_123 : unqN (tX f n E (by2 f (p + 2))) = 0 := (eq_nI (p := unqN (tX f n E (by2 f (p + 2)))) (n := 0) (Nat.lt_trans (le1_unq _) (by decide)) (by decide)).mp (Decidable.not_not.mp c_123)
                      refine ps_st (S' := (127, [(0, .ref m0), (1, .int (nI p))], [.ref m0], M1)) rfl rfl rfl ?_
                      refine ps_st (S' := (129, [(0, .ref m0), (1, .int (nI p))], [.int 20, .ref m0], M1)) rfl rfl rfl ?_
                      refine ps_st (S' := (130, [(0, .ref m0), (1, .int (nI p))], [.int (nI p), .int 20, .ref m0], M1)) rfl rfl rfl ?_
                      refine ps_st (S' := (131, [(0, .ref m0), (1, .int (nI p))], [.int 2, .int (nI p), .int 20, .ref m0], M1)) rfl rfl rfl ?_
                      refine ps_st (S' := (132, [(0, .ref m0), (1, .int (nI p))], [.int ((nI p) + 2), .int 20, .ref m0], M1)) rfl rfl rfl ?_
                      rw [nI_add1 (p := p) (k := 2) (x := 2) rfl (by omega)]
                      show pl _ _ _ (_, [(0, .ref m0), (1, .int (nI p))], [.int (nI (p + 2)), .int 20, .ref m0], M1) _
                      refine pl_call (a := [.ref m0, .int 20, .int (nI (p + 2))]) (rest := []) rfl rfl rfl (rd_wrong (x1 := 20) (x2 := (nI (p + 2))) hR1) (fun v749 M750 q751 => ?_)
                      obtain ⟨I752, R753, rfl, hR754, hI755, hX756, hi757, hi758⟩ := q751
                      have hi759 := (hI755 51 (by decide)).trans hl51
                      have hi760 := (hI755 52 (by decide)).trans hl52
                      have hi761 := (hI755 53 (by decide)).trans hl53
                      have hi762 := (hI755 58 (by decide)).trans hl58
                      have hi763 := (hI755 55 (by decide)).trans hl55
                      have hi764 := (hI755 25 (by decide)).trans hl25
                      have hF_765 := hF1.mono (cIx hI755 (by decide)) (cRx hX756 (by decide))
                      have hY_766 := hY1.mono (cIx hI755 (by decide)) (cRx hX756 (by decide))
                      have hP_767 := hP1.mono (cIx hI755 (by decide)) (cRx hX756 (by decide))
                      have hK_768 := hK1.mono (cIx hI755 (by decide)) (cRx hX756 (by decide))
                      have hN9_769 := hN91.mono (cIx hI755 (by decide)) (cRx hX756 (by decide))
                      have hEI770 := hEI1.tr hI755 (by decide)
                      have hER771 := hER1.tr hX756 (by decide)
                      show pl _ _ _ (135, [(0, .ref m0), (1, .int (nI p))], [.int 0], M750) _
                      exact ps_ret rfl rfl (Or.inr ⟨(20, p + 2), I752, R753, by
                          rw [← hs, flS_st (i := k) (by omega), ← hpk, fh_20 (by have e1 := ffl_0 cf (by2 f p); have e2 := sev_0 (by2 f p); have e3 := hall_80 (by2 f p); omega) (by omega)], rfl, hR754, hEI770, hER771, hi757, hi758⟩)
                · have c_70 : ¬ ((nI (aN cf 512)) = 0) := of_decide_eq_false c_70
                  have n_70 : ¬ (aN cf 512 = 0) := fun h9 => c_70 ((eq_nI (p := aN cf 512) (n := 0) (Nat.lt_of_le_of_lt (an_le _ _) (by decide)) (by decide)).mpr h9)
                  refine ps_st (S' := (75, [(0, .ref m0), (1, .int (nI p)), (2, .int (nI (by2 f pF))), (3, .int (nI f0)), (4, .int (nI k)), (5, .int (nI (by2 f p)))], [.int (nI (by2 f p))], M1)) rfl rfl rfl ?_
                  refine ps_st (S' := (78, [(0, .ref m0), (1, .int (nI p)), (2, .int (nI (by2 f pF))), (3, .int (nI f0)), (4, .int (nI k)), (5, .int (nI (by2 f p)))], [.int 16607, .int (nI (by2 f p))], M1)) rfl rfl rfl ?_
                  refine ps_st (S' := (79, [(0, .ref m0), (1, .int (nI p)), (2, .int (nI (by2 f pF))), (3, .int (nI f0)), (4, .int (nI k)), (5, .int (nI (by2 f p)))], [.int ((nI (by2 f p)) &&& 16607)], M1)) rfl rfl rfl ?_
                  rw [nI_an (p := by2 f p) (k := 16607) (x := 16607) rfl]
                  show pl _ _ _ (_, [(0, .ref m0), (1, .int (nI p)), (2, .int (nI (by2 f pF))), (3, .int (nI f0)), (4, .int (nI k)), (5, .int (nI (by2 f p)))], [.int (nI (aN (by2 f p) 16607))], M1) _
                  refine ps_st (S' := (81, [(0, .ref m0), (1, .int (nI p)), (2, .int (nI (by2 f pF))), (3, .int (nI f0)), (4, .int (nI k)), (5, .int (nI (by2 f p)))], [.int 25, .int (nI (aN (by2 f p) 16607))], M1)) rfl rfl rfl ?_
                  refine ps_if2 (S1 := (92, [(0, .ref m0), (1, .int (nI p)), (2, .int (nI (by2 f pF))), (3, .int (nI f0)), (4, .int (nI k)), (5, .int (nI (by2 f p)))], [], M1)) (S2 := (84, [(0, .ref m0), (1, .int (nI p))], [], M1)) rfl rfl rfl (fun c_81 => ?_) (fun c_81 => ?_)
                  · have c_81 : (nI (aN (by2 f p) 16607)) = 25 := of_decide_eq_true c_81
                    have n_81 : aN (by2 f p) 16607 = 25 := (eq_nI (p := aN (by2 f p) 16607) (n := 25) (Nat.lt_of_le_of_lt (an_le _ _) (by decide)) (by decide)).mp c_81
                    refine ps_st (S' := (93, [(0, .ref m0), (1, .int (nI p)), (2, .int (nI (by2 f pF))), (3, .int (nI f0)), (4, .int (nI k)), (5, .int (nI (by2 f p)))], [.ref m0], M1)) rfl rfl rfl ?_
                    refine ps_st (S' := (94, [(0, .ref m0), (1, .int (nI p)), (2, .int (nI (by2 f pF))), (3, .int (nI f0)), (4, .int (nI k)), (5, .int (nI (by2 f p)))], [.ref m0, .ref m0], M1)) rfl rfl rfl ?_
                    refine ps_st (S' := (95, [(0, .ref m0), (1, .int (nI p)), (2, .int (nI (by2 f pF))), (3, .int (nI f0)), (4, .int (nI k)), (5, .int (nI (by2 f p)))], [.int (nI p), .ref m0, .ref m0], M1)) rfl rfl rfl ?_
                    refine ps_st (S' := (96, [(0, .ref m0), (1, .int (nI p)), (2, .int (nI (by2 f pF))), (3, .int (nI f0)), (4, .int (nI k)), (5, .int (nI (by2 f p)))], [.int 2, .int (nI p), .ref m0, .ref m0], M1)) rfl rfl rfl ?_
                    refine ps_st (S' := (97, [(0, .ref m0), (1, .int (nI p)), (2, .int (nI (by2 f pF))), (3, .int (nI f0)), (4, .int (nI k)), (5, .int (nI (by2 f p)))], [.int ((nI p) + 2), .ref m0, .ref m0], M1)) rfl rfl rfl ?_
                    rw [nI_add1 (p := p) (k := 2) (x := 2) rfl (by omega)]
                    show pl _ _ _ (_, [(0, .ref m0), (1, .int (nI p)), (2, .int (nI (by2 f pF))), (3, .int (nI f0)), (4, .int (nI k)), (5, .int (nI (by2 f p)))], [.int (nI (p + 2)), .ref m0, .ref m0], M1) _
                    refine pl_call (a := [.ref m0, .int (nI (p + 2))]) (rest := [.ref m0]) rfl rfl rfl (rd_u2 (n := n) (f := f) (p := (p + 2)) hR1 hF1 (by omega)) (fun v772 M773 q774 => ?_)
                    obtain ⟨rfl, rfl⟩ := q774
                    show pl _ _ _ (100, [(0, .ref m0), (1, .int (nI p)), (2, .int (nI (by2 f pF))), (3, .int (nI f0)), (4, .int (nI k)), (5, .int (nI (by2 f p)))], [.int (nI (by2 f (p + 2))), .ref m0], M1) _
                    have hu_97 := by2_lt f (p + 2)
                    refine pl_call (a := [.ref m0, .int (nI (by2 f (p + 2)))]) (rest := []) rfl rfl rfl (rd_tag (n := n) (f := f) (tx := tx) (cN := cN) (A := A) (N := N) (mj := mj) (E := E) (k := (by2 f (p + 2))) hR1 hl51 hl52 hl53 hF1 hY1 hP1 (hEP) (hN) (hmj) (by2_lt _ _)) (fun v775 M776 q777 => ?_)
                    obtain ⟨rfl, rfl⟩ := q777
                    show pl _ _ _ (103, [(0, .ref m0), (1, .int (nI p)), (2, .int (nI (by2 f pF))), (3, .int (nI f0)), (4, .int (nI k)), (5, .int (nI (by2 f p)))], [.int (nI (tg f E (by2 f (p + 2))))], M1) _
                    have htg_100 := tg_lt f E (by2 f (p + 2))
                    refine ps_st (S' := (104, [(0, .ref m0), (1, .int (nI p)), (2, .int (nI (by2 f pF))), (3, .int (nI f0)), (4, .int (nI k)), (5, .int (nI (by2 f p)))], [.int 1, .int (nI (tg f E (by2 f (p + 2))))], M1)) rfl rfl rfl ?_
                    refine ps_if2 (S1 := (126, [(0, .ref m0), (1, .int (nI p))], [], M1)) (S2 := (107, [(0, .ref m0), (1, .int (nI p)), (2, .int (nI (by2 f pF))), (3, .int (nI f0)), (4, .int (nI k)), (5, .int (nI (by2 f p)))], [], M1)) rfl rfl rfl (fun c_104 => ?_) (fun c_104 => ?_)
                    · have c_104 : ¬ (nI (tg f E (by2 f (p + 2)))) = 1 := of_decide_eq_true c_104
                      have n_104 : ¬ (tg f E (by2 f (p + 2)) = 1) := fun h9 => c_104 ((eq_nI (p := tg f E (by2 f (p + 2))) (n := 1) (Nat.lt_trans (tg_lt _ _ _) (by decide)) (by decide)).mpr h9)
                      refine ps_st (S' := (127, [(0, .ref m0), (1, .int (nI p))], [.ref m0], M1)) rfl rfl rfl ?_
                      refine ps_st (S' := (129, [(0, .ref m0), (1, .int (nI p))], [.int 20, .ref m0], M1)) rfl rfl rfl ?_
                      refine ps_st (S' := (130, [(0, .ref m0), (1, .int (nI p))], [.int (nI p), .int 20, .ref m0], M1)) rfl rfl rfl ?_
                      refine ps_st (S' := (131, [(0, .ref m0), (1, .int (nI p))], [.int 2, .int (nI p), .int 20, .ref m0], M1)) rfl rfl rfl ?_
                      refine ps_st (S' := (132, [(0, .ref m0), (1, .int (nI p))], [.int ((nI p) + 2), .int 20, .ref m0], M1)) rfl rfl rfl ?_
                      rw [nI_add1 (p := p) (k := 2) (x := 2) rfl (by omega)]
                      show pl _ _ _ (_, [(0, .ref m0), (1, .int (nI p))], [.int (nI (p + 2)), .int 20, .ref m0], M1) _
                      refine pl_call (a := [.ref m0, .int 20, .int (nI (p + 2))]) (rest := []) rfl rfl rfl (rd_wrong (x1 := 20) (x2 := (nI (p + 2))) hR1) (fun v778 M779 q780 => ?_)
                      obtain ⟨I781, R782, rfl, hR783, hI784, hX785, hi786, hi787⟩ := q780
                      have hi788 := (hI784 51 (by decide)).trans hl51
                      have hi789 := (hI784 52 (by decide)).trans hl52
                      have hi790 := (hI784 53 (by decide)).trans hl53
                      have hi791 := (hI784 58 (by decide)).trans hl58
                      have hi792 := (hI784 55 (by decide)).trans hl55
                      have hi793 := (hI784 25 (by decide)).trans hl25
                      have hF_794 := hF1.mono (cIx hI784 (by decide)) (cRx hX785 (by decide))
                      have hY_795 := hY1.mono (cIx hI784 (by decide)) (cRx hX785 (by decide))
                      have hP_796 := hP1.mono (cIx hI784 (by decide)) (cRx hX785 (by decide))
                      have hK_797 := hK1.mono (cIx hI784 (by decide)) (cRx hX785 (by decide))
                      have hN9_798 := hN91.mono (cIx hI784 (by decide)) (cRx hX785 (by decide))
                      have hEI799 := hEI1.tr hI784 (by decide)
                      have hER800 := hER1.tr hX785 (by decide)
                      show pl _ _ _ (135, [(0, .ref m0), (1, .int (nI p))], [.int 0], M779) _
                      exact ps_ret rfl rfl (Or.inr ⟨(20, p + 2), I781, R782, by
                          rw [← hs, flS_st (i := k) (by omega), ← hpk, fh_20 (by have e1 := ffl_0 cf (by2 f p); have e2 := sev_0 (by2 f p); have e3 := hall_80 (by2 f p); omega) (by rw [tx_no (by omega)]; decide)], rfl, hR783, hEI799, hER800, hi786, hi787⟩)
                    · have c_104 : ¬ (¬ (nI (tg f E (by2 f (p + 2)))) = 1) := of_decide_eq_false c_104
                      have n_104 : tg f E (by2 f (p + 2)) = 1 := (eq_nI (p := tg f E (by2 f (p + 2))) (n := 1) (Nat.lt_trans (tg_lt _ _ _) (by decide)) (by decide)).mp (Decidable.not_not.mp c_104)
                      refine ps_st (S' := (108, [(0, .ref m0), (1, .int (nI p)), (2, .int (nI (by2 f pF))), (3, .int (nI f0)), (4, .int (nI k)), (5, .int (nI (by2 f p)))], [.ref m0], M1)) rfl rfl rfl ?_
                      refine ps_st (S' := (109, [(0, .ref m0), (1, .int (nI p)), (2, .int (nI (by2 f pF))), (3, .int (nI f0)), (4, .int (nI k)), (5, .int (nI (by2 f p)))], [.ref m0, .ref m0], M1)) rfl rfl rfl ?_
                      refine ps_st (S' := (110, [(0, .ref m0), (1, .int (nI p)), (2, .int (nI (by2 f pF))), (3, .int (nI f0)), (4, .int (nI k)), (5, .int (nI (by2 f p)))], [.ref m0, .ref m0, .ref m0], M1)) rfl rfl rfl ?_
                      refine ps_st (S' := (111, [(0, .ref m0), (1, .int (nI p)), (2, .int (nI (by2 f pF))), (3, .int (nI f0)), (4, .int (nI k)), (5, .int (nI (by2 f p)))], [.int (nI p), .ref m0, .ref m0, .ref m0], M1)) rfl rfl rfl ?_
                      refine ps_st (S' := (112, [(0, .ref m0), (1, .int (nI p)), (2, .int (nI (by2 f pF))), (3, .int (nI f0)), (4, .int (nI k)), (5, .int (nI (by2 f p)))], [.int 2, .int (nI p), .ref m0, .ref m0, .ref m0], M1)) rfl rfl rfl ?_
                      refine ps_st (S' := (113, [(0, .ref m0), (1, .int (nI p)), (2, .int (nI (by2 f pF))), (3, .int (nI f0)), (4, .int (nI k)), (5, .int (nI (by2 f p)))], [.int ((nI p) + 2), .ref m0, .ref m0, .ref m0], M1)) rfl rfl rfl ?_
                      rw [nI_add1 (p := p) (k := 2) (x := 2) rfl (by omega)]
                      show pl _ _ _ (_, [(0, .ref m0), (1, .int (nI p)), (2, .int (nI (by2 f pF))), (3, .int (nI f0)), (4, .int (nI k)), (5, .int (nI (by2 f p)))], [.int (nI (p + 2)), .ref m0, .ref m0, .ref m0], M1) _
                      refine pl_call (a := [.ref m0, .int (nI (p + 2))]) (rest := [.ref m0, .ref m0]) rfl rfl rfl (rd_u2 (n := n) (f := f) (p := (p + 2)) hR1 hF1 (by omega)) (fun v801 M802 q803 => ?_)
                      obtain ⟨rfl, rfl⟩ := q803
                      show pl _ _ _ (116, [(0, .ref m0), (1, .int (nI p)), (2, .int (nI (by2 f pF))), (3, .int (nI f0)), (4, .int (nI k)), (5, .int (nI (by2 f p)))], [.int (nI (by2 f (p + 2))), .ref m0, .ref m0], M1) _
                      have hu_113 := by2_lt f (p + 2)
                      refine pl_call (a := [.ref m0, .int (nI (by2 f (p + 2)))]) (rest := [.ref m0]) rfl rfl rfl (rd_symOf (n := n) (f := f) (tx := tx) (cN := cN) (A := A) (N := N) (mj := mj) (E := E) (k := (by2 f (p + 2))) hR1 hl51 hl52 hl53 hF1 hY1 hP1 (hEP) (hN) (hmj) (by omega)) (fun v804 M805 q806 => ?_)
                      obtain ⟨s807, q116_s, rfl, rfl⟩ := q806
                      show pl _ _ _ (119, [(0, .ref m0), (1, .int (nI p)), (2, .int (nI (by2 f pF))), (3, .int (nI f0)), (4, .int (nI k)), (5, .int (nI (by2 f p)))], [.int (nI s807), .ref m0], M1) _
                      have hsl_116 := q116_s.1
                      have htl_116 := hY1.1.2.2.1
                      refine ps_st (S' := (120, [(0, .ref m0), (1, .int (nI p)), (2, .int (nI (by2 f pF))), (3, .int (nI f0)), (4, .int (nI k)), (5, .int (nI (by2 f p)))], [.int 1, .int (nI s807), .ref m0], M1)) rfl rfl rfl ?_
                      refine pl_call (a := [.ref m0, .int (nI s807), .int 1]) (rest := []) rfl rfl rfl (rd_unq1 (tx := tx) (cN := cN) (A := A) (s := s807) (l := (tX f n E (by2 f (p + 2)))) hR1 hY1 (q116_s)) (fun v808 M809 q810 => ?_)
                      obtain ⟨rfl, rfl⟩ := q810
                      show pl _ _ _ (123, [(0, .ref m0), (1, .int (nI p)), (2, .int (nI (by2 f pF))), (3, .int (nI f0)), (4, .int (nI k)), (5, .int (nI (by2 f p)))], [.int (nI (unqN (tX f n E (by2 f (p + 2)))))], M1) _
                      refine ps_if (S1 := (136, [(0, .ref m0), (1, .int (nI p)), (2, .int (nI (by2 f pF))), (3, .int (nI f0)), (4, .int (nI k)), (5, .int (nI (by2 f p)))], [], M1)) (S2 := (126, [(0, .ref m0), (1, .int (nI p))], [], M1)) rfl rfl rfl (fun c_123 => ?_) (fun c_123 => ?_)
                      · have c_123 : ¬ (nI (unqN (tX f n E (by2 f (p + 2))))) = 0 := of_decide_eq_true c_123
                        have n_123 : ¬ (unqN (tX f n E (by2 f (p + 2))) = 0) := fun h9 => c_123 ((eq_nI (p := unqN (tX f n E (by2 f (p + 2)))) (n := 0) (Nat.lt_trans (le1_unq _) (by decide)) (by decide)).mpr h9)
                        refine ps_st (S' := (137, [(0, .ref m0), (1, .int (nI p)), (2, .int (nI (by2 f pF))), (3, .int (nI f0)), (4, .int (nI k)), (5, .int (nI (by2 f p)))], [.ref m0], M1)) rfl rfl rfl ?_
                        refine ps_st (S' := (138, [(0, .ref m0), (1, .int (nI p)), (2, .int (nI (by2 f pF))), (3, .int (nI f0)), (4, .int (nI k)), (5, .int (nI (by2 f p)))], [.ref m0, .ref m0], M1)) rfl rfl rfl ?_
                        refine ps_st (S' := (139, [(0, .ref m0), (1, .int (nI p)), (2, .int (nI (by2 f pF))), (3, .int (nI f0)), (4, .int (nI k)), (5, .int (nI (by2 f p)))], [.int (nI p), .ref m0, .ref m0], M1)) rfl rfl rfl ?_
                        refine ps_st (S' := (140, [(0, .ref m0), (1, .int (nI p)), (2, .int (nI (by2 f pF))), (3, .int (nI f0)), (4, .int (nI k)), (5, .int (nI (by2 f p)))], [.int 4, .int (nI p), .ref m0, .ref m0], M1)) rfl rfl rfl ?_
                        refine ps_st (S' := (141, [(0, .ref m0), (1, .int (nI p)), (2, .int (nI (by2 f pF))), (3, .int (nI f0)), (4, .int (nI k)), (5, .int (nI (by2 f p)))], [.int ((nI p) + 4), .ref m0, .ref m0], M1)) rfl rfl rfl ?_
                        rw [nI_add1 (p := p) (k := 4) (x := 4) rfl (by omega)]
                        show pl _ _ _ (_, [(0, .ref m0), (1, .int (nI p)), (2, .int (nI (by2 f pF))), (3, .int (nI f0)), (4, .int (nI k)), (5, .int (nI (by2 f p)))], [.int (nI (p + 4)), .ref m0, .ref m0], M1) _
                        refine pl_call (a := [.ref m0, .int (nI (p + 4))]) (rest := [.ref m0]) rfl rfl rfl (rd_u2 (n := n) (f := f) (p := (p + 4)) hR1 hF1 (by omega)) (fun v811 M812 q813 => ?_)
                        obtain ⟨rfl, rfl⟩ := q813
                        show pl _ _ _ (144, [(0, .ref m0), (1, .int (nI p)), (2, .int (nI (by2 f pF))), (3, .int (nI f0)), (4, .int (nI k)), (5, .int (nI (by2 f p)))], [.int (nI (by2 f (p + 4))), .ref m0], M1) _
                        have hu_141 := by2_lt f (p + 4)
                        refine pl_call (a := [.ref m0, .int (nI (by2 f (p + 4)))]) (rest := []) rfl rfl rfl (rd_tag (n := n) (f := f) (tx := tx) (cN := cN) (A := A) (N := N) (mj := mj) (E := E) (k := (by2 f (p + 4))) hR1 hl51 hl52 hl53 hF1 hY1 hP1 (hEP) (hN) (hmj) (by2_lt _ _)) (fun v814 M815 q816 => ?_)
                        obtain ⟨rfl, rfl⟩ := q816
                        show pl _ _ _ (147, [(0, .ref m0), (1, .int (nI p)), (2, .int (nI (by2 f pF))), (3, .int (nI f0)), (4, .int (nI k)), (5, .int (nI (by2 f p)))], [.int (nI (tg f E (by2 f (p + 4))))], M1) _
                        have htg_144 := tg_lt f E (by2 f (p + 4))
                        refine ps_st (S' := (148, [(0, .ref m0), (1, .int (nI p)), (2, .int (nI (by2 f pF))), (3, .int (nI f0)), (4, .int (nI k)), (5, .int (nI (by2 f p)))], [.int 1, .int (nI (tg f E (by2 f (p + 4))))], M1)) rfl rfl rfl ?_
                        refine ps_if2 (S1 := (169, [(0, .ref m0), (1, .int (nI p))], [], M1)) (S2 := (151, [(0, .ref m0), (1, .int (nI p)), (2, .int (nI (by2 f pF))), (3, .int (nI f0)), (4, .int (nI k)), (5, .int (nI (by2 f p)))], [], M1)) rfl rfl rfl (fun c_148 => ?_) (fun c_148 => ?_)
                        · have c_148 : ¬ (nI (tg f E (by2 f (p + 4)))) = 1 := of_decide_eq_true c_148
                          have n_148 : ¬ (tg f E (by2 f (p + 4)) = 1) := fun h9 => c_148 ((eq_nI (p := tg f E (by2 f (p + 4))) (n := 1) (Nat.lt_trans (tg_lt _ _ _) (by decide)) (by decide)).mpr h9)
                          refine ps_st (S' := (170, [(0, .ref m0), (1, .int (nI p))], [.ref m0], M1)) rfl rfl rfl ?_
                          refine ps_st (S' := (172, [(0, .ref m0), (1, .int (nI p))], [.int 21, .ref m0], M1)) rfl rfl rfl ?_
                          refine ps_st (S' := (173, [(0, .ref m0), (1, .int (nI p))], [.int (nI p), .int 21, .ref m0], M1)) rfl rfl rfl ?_
                          refine ps_st (S' := (174, [(0, .ref m0), (1, .int (nI p))], [.int 4, .int (nI p), .int 21, .ref m0], M1)) rfl rfl rfl ?_
                          refine ps_st (S' := (175, [(0, .ref m0), (1, .int (nI p))], [.int ((nI p) + 4), .int 21, .ref m0], M1)) rfl rfl rfl ?_
                          rw [nI_add1 (p := p) (k := 4) (x := 4) rfl (by omega)]
                          show pl _ _ _ (_, [(0, .ref m0), (1, .int (nI p))], [.int (nI (p + 4)), .int 21, .ref m0], M1) _
                          refine pl_call (a := [.ref m0, .int 21, .int (nI (p + 4))]) (rest := []) rfl rfl rfl (rd_wrong (x1 := 21) (x2 := (nI (p + 4))) hR1) (fun v817 M818 q819 => ?_)
                          obtain ⟨I820, R821, rfl, hR822, hI823, hX824, hi825, hi826⟩ := q819
                          have hi827 := (hI823 51 (by decide)).trans hl51
                          have hi828 := (hI823 52 (by decide)).trans hl52
                          have hi829 := (hI823 53 (by decide)).trans hl53
                          have hi830 := (hI823 58 (by decide)).trans hl58
                          have hi831 := (hI823 55 (by decide)).trans hl55
                          have hi832 := (hI823 25 (by decide)).trans hl25
                          have hF_833 := hF1.mono (cIx hI823 (by decide)) (cRx hX824 (by decide))
                          have hY_834 := hY1.mono (cIx hI823 (by decide)) (cRx hX824 (by decide))
                          have hP_835 := hP1.mono (cIx hI823 (by decide)) (cRx hX824 (by decide))
                          have hK_836 := hK1.mono (cIx hI823 (by decide)) (cRx hX824 (by decide))
                          have hN9_837 := hN91.mono (cIx hI823 (by decide)) (cRx hX824 (by decide))
                          have hEI838 := hEI1.tr hI823 (by decide)
                          have hER839 := hER1.tr hX824 (by decide)
                          show pl _ _ _ (178, [(0, .ref m0), (1, .int (nI p))], [.int 0], M818) _
                          exact ps_ret rfl rfl (Or.inr ⟨(21, p + 4), I820, R821, by
                              rw [← hs, flS_st (i := k) (by omega), ← hpk, fh_21 (by have e1 := ffl_0 cf (by2 f p); have e2 := sev_0 (by2 f p); have e3 := hall_80 (by2 f p); omega) (by omega) (by rw [tx_no (by omega)]; decide)], rfl, hR822, hEI838, hER839, hi825, hi826⟩)
                        · have c_148 : ¬ (¬ (nI (tg f E (by2 f (p + 4)))) = 1) := of_decide_eq_false c_148
                          have n_148 : tg f E (by2 f (p + 4)) = 1 := (eq_nI (p := tg f E (by2 f (p + 4))) (n := 1) (Nat.lt_trans (tg_lt _ _ _) (by decide)) (by decide)).mp (Decidable.not_not.mp c_148)
                          refine ps_st (S' := (152, [(0, .ref m0), (1, .int (nI p)), (2, .int (nI (by2 f pF))), (3, .int (nI f0)), (4, .int (nI k)), (5, .int (nI (by2 f p)))], [.ref m0], M1)) rfl rfl rfl ?_
                          refine ps_st (S' := (153, [(0, .ref m0), (1, .int (nI p)), (2, .int (nI (by2 f pF))), (3, .int (nI f0)), (4, .int (nI k)), (5, .int (nI (by2 f p)))], [.ref m0, .ref m0], M1)) rfl rfl rfl ?_
                          refine ps_st (S' := (154, [(0, .ref m0), (1, .int (nI p)), (2, .int (nI (by2 f pF))), (3, .int (nI f0)), (4, .int (nI k)), (5, .int (nI (by2 f p)))], [.ref m0, .ref m0, .ref m0], M1)) rfl rfl rfl ?_
                          refine ps_st (S' := (155, [(0, .ref m0), (1, .int (nI p)), (2, .int (nI (by2 f pF))), (3, .int (nI f0)), (4, .int (nI k)), (5, .int (nI (by2 f p)))], [.int (nI p), .ref m0, .ref m0, .ref m0], M1)) rfl rfl rfl ?_
                          refine ps_st (S' := (156, [(0, .ref m0), (1, .int (nI p)), (2, .int (nI (by2 f pF))), (3, .int (nI f0)), (4, .int (nI k)), (5, .int (nI (by2 f p)))], [.int 4, .int (nI p), .ref m0, .ref m0, .ref m0], M1)) rfl rfl rfl ?_
                          refine ps_st (S' := (157, [(0, .ref m0), (1, .int (nI p)), (2, .int (nI (by2 f pF))), (3, .int (nI f0)), (4, .int (nI k)), (5, .int (nI (by2 f p)))], [.int ((nI p) + 4), .ref m0, .ref m0, .ref m0], M1)) rfl rfl rfl ?_
                          rw [nI_add1 (p := p) (k := 4) (x := 4) rfl (by omega)]
                          show pl _ _ _ (_, [(0, .ref m0), (1, .int (nI p)), (2, .int (nI (by2 f pF))), (3, .int (nI f0)), (4, .int (nI k)), (5, .int (nI (by2 f p)))], [.int (nI (p + 4)), .ref m0, .ref m0, .ref m0], M1) _
                          refine pl_call (a := [.ref m0, .int (nI (p + 4))]) (rest := [.ref m0, .ref m0]) rfl rfl rfl (rd_u2 (n := n) (f := f) (p := (p + 4)) hR1 hF1 (by omega)) (fun v840 M841 q842 => ?_)
                          obtain ⟨rfl, rfl⟩ := q842
                          show pl _ _ _ (160, [(0, .ref m0), (1, .int (nI p)), (2, .int (nI (by2 f pF))), (3, .int (nI f0)), (4, .int (nI k)), (5, .int (nI (by2 f p)))], [.int (nI (by2 f (p + 4))), .ref m0, .ref m0], M1) _
                          have hu_157 := by2_lt f (p + 4)
                          refine pl_call (a := [.ref m0, .int (nI (by2 f (p + 4)))]) (rest := [.ref m0]) rfl rfl rfl (rd_symOf (n := n) (f := f) (tx := tx) (cN := cN) (A := A) (N := N) (mj := mj) (E := E) (k := (by2 f (p + 4))) hR1 hl51 hl52 hl53 hF1 hY1 hP1 (hEP) (hN) (hmj) (by omega)) (fun v843 M844 q845 => ?_)
                          obtain ⟨s846, q160_s, rfl, rfl⟩ := q845
                          show pl _ _ _ (163, [(0, .ref m0), (1, .int (nI p)), (2, .int (nI (by2 f pF))), (3, .int (nI f0)), (4, .int (nI k)), (5, .int (nI (by2 f p)))], [.int (nI s846), .ref m0], M1) _
                          have hsl_160 := q160_s.1
                          have htl_160 := hY1.1.2.2.1
                          refine pl_call (a := [.ref m0, .int (nI s846)]) (rest := []) rfl rfl rfl (rd_isField (tx := tx) (cN := cN) (A := A) (s := s846) (l := (tX f n E (by2 f (p + 4)))) hR1 hY1 (q160_s)) (fun v847 M848 q849 => ?_)
                          obtain ⟨rfl, rfl⟩ := q849
                          show pl _ _ _ (166, [(0, .ref m0), (1, .int (nI p)), (2, .int (nI (by2 f pF))), (3, .int (nI f0)), (4, .int (nI k)), (5, .int (nI (by2 f p)))], [.int (nI (fldN (tX f n E (by2 f (p + 4)))))], M1) _
                          refine ps_if (S1 := (179, [(0, .ref m0), (1, .int (nI p)), (2, .int (nI (by2 f pF))), (3, .int (nI f0)), (4, .int (nI k)), (5, .int (nI (by2 f p)))], [], M1)) (S2 := (169, [(0, .ref m0), (1, .int (nI p))], [], M1)) rfl rfl rfl (fun c_166 => ?_) (fun c_166 => ?_)
                          · have c_166 : ¬ (nI (fldN (tX f n E (by2 f (p + 4))))) = 0 := of_decide_eq_true c_166
                            have n_166 : ¬ (fldN (tX f n E (by2 f (p + 4))) = 0) := fun h9 => c_166 ((eq_nI (p := fldN (tX f n E (by2 f (p + 4)))) (n := 0) (Nat.lt_trans (le1_fld _) (by decide)) (by decide)).mpr h9)
                            refine ps_st (S' := (180, [(0, .ref m0), (1, .int (nI p)), (2, .int (nI (by2 f pF))), (3, .int (nI f0)), (4, .int (nI k)), (5, .int (nI (by2 f p)))], [.ref m0], M1)) rfl rfl rfl ?_
                            refine pr_int (j := 25) (S' := (183, [(0, .ref m0), (1, .int (nI p)), (2, .int (nI (by2 f pF))), (3, .int (nI f0)), (4, .int (nI k)), (5, .int (nI (by2 f p)))], [.int (nI (f0 + k))], M1)) rfl hR1 rfl hl25 rfl ?_
                            refine ps_st (S' := (185, [(6, .int (nI (f0 + k))), (0, .ref m0), (1, .int (nI p)), (2, .int (nI (by2 f pF))), (3, .int (nI f0)), (4, .int (nI k)), (5, .int (nI (by2 f p)))], [], M1)) rfl rfl rfl ?_
                            refine ps_st (S' := (186, [(6, .int (nI (f0 + k))), (0, .ref m0), (1, .int (nI p)), (2, .int (nI (by2 f pF))), (3, .int (nI f0)), (4, .int (nI k)), (5, .int (nI (by2 f p)))], [.ref m0], M1)) rfl rfl rfl ?_
                            refine pr_ref (j := 27) (S' := (189, [(6, .int (nI (f0 + k))), (0, .ref m0), (1, .int (nI p)), (2, .int (nI (by2 f pF))), (3, .int (nI f0)), (4, .int (nI k)), (5, .int (nI (by2 f p)))], [.ref (q 27)], M1)) rfl hR1 rfl rfl ?_
                            refine ps_st (S' := (191, [(6, .int (nI (f0 + k))), (0, .ref m0), (1, .int (nI p)), (2, .int (nI (by2 f pF))), (3, .int (nI f0)), (4, .int (nI k)), (5, .int (nI (by2 f p)))], [.int (nI (f0 + k)), .ref (q 27)], M1)) rfl rfl rfl ?_
                            refine ps_st (S' := (193, [(6, .int (nI (f0 + k))), (0, .ref m0), (1, .int (nI p)), (2, .int (nI (by2 f pF))), (3, .int (nI f0)), (4, .int (nI k)), (5, .int (nI (by2 f p)))], [.int (nI (by2 f p)), .int (nI (f0 + k)), .ref (q 27)], M1)) rfl rfl rfl ?_
                            refine pr_st (a := 27) (j := f0 + k) rfl hR1 rfl (by omega) (fun M850 R851 i1_193 hR852 hS853 => ?_)
                            have hF_854 := hF1.mono (fun _ _ => rfl) (rRx hS853 (by decide))
                            have hY_855 := hY1.mono (fun _ _ => rfl) (rRx hS853 (by decide))
                            have hP_856 := hP1.mono (fun _ _ => rfl) (rRx hS853 (by decide))
                            have hK_857 := hK1.mono (fun _ _ => rfl) (rRx hS853 (by decide))
                            have hN9_858 := hN91.mono (fun _ _ => rfl) (rRx hS853 (by decide))
                            have hER859 := hER1.st hS853 (by decide)
                            show pl _ _ _ (194, [(6, .int (nI (f0 + k))), (0, .ref m0), (1, .int (nI p)), (2, .int (nI (by2 f pF))), (3, .int (nI f0)), (4, .int (nI k)), (5, .int (nI (by2 f p)))], [], M850) _
                            have c27_860 : CE 27 (f0 + k) (nI (by2 f p)) I1 R851 := CE.st hS853
                            refine ps_st (S' := (195, [(6, .int (nI (f0 + k))), (0, .ref m0), (1, .int (nI p)), (2, .int (nI (by2 f pF))), (3, .int (nI f0)), (4, .int (nI k)), (5, .int (nI (by2 f p)))], [.ref m0], M850)) rfl rfl rfl ?_
                            refine pr_ref (j := 28) (S' := (198, [(6, .int (nI (f0 + k))), (0, .ref m0), (1, .int (nI p)), (2, .int (nI (by2 f pF))), (3, .int (nI f0)), (4, .int (nI k)), (5, .int (nI (by2 f p)))], [.ref (q 28)], M850)) rfl hR852 rfl rfl ?_
                            refine ps_st (S' := (200, [(6, .int (nI (f0 + k))), (0, .ref m0), (1, .int (nI p)), (2, .int (nI (by2 f pF))), (3, .int (nI f0)), (4, .int (nI k)), (5, .int (nI (by2 f p)))], [.int (nI (f0 + k)), .ref (q 28)], M850)) rfl rfl rfl ?_
                            refine ps_st (S' := (201, [(6, .int (nI (f0 + k))), (0, .ref m0), (1, .int (nI p)), (2, .int (nI (by2 f pF))), (3, .int (nI f0)), (4, .int (nI k)), (5, .int (nI (by2 f p)))], [.ref m0, .int (nI (f0 + k)), .ref (q 28)], M850)) rfl rfl rfl ?_
                            refine ps_st (S' := (202, [(6, .int (nI (f0 + k))), (0, .ref m0), (1, .int (nI p)), (2, .int (nI (by2 f pF))), (3, .int (nI f0)), (4, .int (nI k)), (5, .int (nI (by2 f p)))], [.ref m0, .ref m0, .int (nI (f0 + k)), .ref (q 28)], M850)) rfl rfl rfl ?_
                            refine ps_st (S' := (203, [(6, .int (nI (f0 + k))), (0, .ref m0), (1, .int (nI p)), (2, .int (nI (by2 f pF))), (3, .int (nI f0)), (4, .int (nI k)), (5, .int (nI (by2 f p)))], [.int (nI p), .ref m0, .ref m0, .int (nI (f0 + k)), .ref (q 28)], M850)) rfl rfl rfl ?_
                            refine ps_st (S' := (204, [(6, .int (nI (f0 + k))), (0, .ref m0), (1, .int (nI p)), (2, .int (nI (by2 f pF))), (3, .int (nI f0)), (4, .int (nI k)), (5, .int (nI (by2 f p)))], [.int 2, .int (nI p), .ref m0, .ref m0, .int (nI (f0 + k)), .ref (q 28)], M850)) rfl rfl rfl ?_
                            refine ps_st (S' := (205, [(6, .int (nI (f0 + k))), (0, .ref m0), (1, .int (nI p)), (2, .int (nI (by2 f pF))), (3, .int (nI f0)), (4, .int (nI k)), (5, .int (nI (by2 f p)))], [.int ((nI p) + 2), .ref m0, .ref m0, .int (nI (f0 + k)), .ref (q 28)], M850)) rfl rfl rfl ?_
                            rw [nI_add1 (p := p) (k := 2) (x := 2) rfl (by omega)]
                            show pl _ _ _ (_, [(6, .int (nI (f0 + k))), (0, .ref m0), (1, .int (nI p)), (2, .int (nI (by2 f pF))), (3, .int (nI f0)), (4, .int (nI k)), (5, .int (nI (by2 f p)))], [.int (nI (p + 2)), .ref m0, .ref m0, .int (nI (f0 + k)), .ref (q 28)], M850) _
                            refine pl_call (a := [.ref m0, .int (nI (p + 2))]) (rest := [.ref m0, .int (nI (f0 + k)), .ref (q 28)]) rfl rfl rfl (rd_u2 (n := n) (f := f) (p := (p + 2)) hR852 hF_854 (by omega)) (fun v861 M862 q863 => ?_)
                            obtain ⟨rfl, rfl⟩ := q863
                            show pl _ _ _ (208, [(6, .int (nI (f0 + k))), (0, .ref m0), (1, .int (nI p)), (2, .int (nI (by2 f pF))), (3, .int (nI f0)), (4, .int (nI k)), (5, .int (nI (by2 f p)))], [.int (nI (by2 f (p + 2))), .ref m0, .int (nI (f0 + k)), .ref (q 28)], M850) _
                            have hu_205 := by2_lt f (p + 2)
                            refine pl_call (a := [.ref m0, .int (nI (by2 f (p + 2)))]) (rest := [.int (nI (f0 + k)), .ref (q 28)]) rfl rfl rfl (rd_symOf (n := n) (f := f) (tx := tx) (cN := cN) (A := A) (N := N) (mj := mj) (E := E) (k := (by2 f (p + 2))) hR852 hl51 hl52 hl53 hF_854 hY_855 hP_856 (hEP) (hN) (hmj) (by omega)) (fun v864 M865 q866 => ?_)
                            obtain ⟨s867, q208_s, rfl, rfl⟩ := q866
                            show pl _ _ _ (211, [(6, .int (nI (f0 + k))), (0, .ref m0), (1, .int (nI p)), (2, .int (nI (by2 f pF))), (3, .int (nI f0)), (4, .int (nI k)), (5, .int (nI (by2 f p)))], [.int (nI s867), .int (nI (f0 + k)), .ref (q 28)], M850) _
                            have hsl_208 := q208_s.1
                            have htl_208 := hY_855.1.2.2.1
                            refine pr_st (a := 28) (j := f0 + k) rfl hR852 rfl (by omega) (fun M868 R869 i1_211 hR870 hS871 => ?_)
                            have hF_872 := hF_854.mono (fun _ _ => rfl) (rRx hS871 (by decide))
                            have hY_873 := hY_855.mono (fun _ _ => rfl) (rRx hS871 (by decide))
                            have hP_874 := hP_856.mono (fun _ _ => rfl) (rRx hS871 (by decide))
                            have hK_875 := hK_857.mono (fun _ _ => rfl) (rRx hS871 (by decide))
                            have c27_876 := c27_860.mono (fun _ _ => rfl) (rRx hS871 (by decide))
                            have hER877 := hER859.st hS871 (by decide)
                            show pl _ _ _ (212, [(6, .int (nI (f0 + k))), (0, .ref m0), (1, .int (nI p)), (2, .int (nI (by2 f pF))), (3, .int (nI f0)), (4, .int (nI k)), (5, .int (nI (by2 f p)))], [], M868) _
                            have c28_878 : CE 28 (f0 + k) (nI s867) I1 R869 := CE.st hS871
                            have hN9_879 := FN.st (I' := I1) hN9_858 hS871 rfl
                            refine ps_st (S' := (213, [(6, .int (nI (f0 + k))), (0, .ref m0), (1, .int (nI p)), (2, .int (nI (by2 f pF))), (3, .int (nI f0)), (4, .int (nI k)), (5, .int (nI (by2 f p)))], [.ref m0], M868)) rfl rfl rfl ?_
                            refine pr_ref (j := 29) (S' := (216, [(6, .int (nI (f0 + k))), (0, .ref m0), (1, .int (nI p)), (2, .int (nI (by2 f pF))), (3, .int (nI f0)), (4, .int (nI k)), (5, .int (nI (by2 f p)))], [.ref (q 29)], M868)) rfl hR870 rfl rfl ?_
                            refine ps_st (S' := (218, [(6, .int (nI (f0 + k))), (0, .ref m0), (1, .int (nI p)), (2, .int (nI (by2 f pF))), (3, .int (nI f0)), (4, .int (nI k)), (5, .int (nI (by2 f p)))], [.int (nI (f0 + k)), .ref (q 29)], M868)) rfl rfl rfl ?_
                            refine ps_st (S' := (219, [(6, .int (nI (f0 + k))), (0, .ref m0), (1, .int (nI p)), (2, .int (nI (by2 f pF))), (3, .int (nI f0)), (4, .int (nI k)), (5, .int (nI (by2 f p)))], [.ref m0, .int (nI (f0 + k)), .ref (q 29)], M868)) rfl rfl rfl ?_
                            refine ps_st (S' := (220, [(6, .int (nI (f0 + k))), (0, .ref m0), (1, .int (nI p)), (2, .int (nI (by2 f pF))), (3, .int (nI f0)), (4, .int (nI k)), (5, .int (nI (by2 f p)))], [.ref m0, .ref m0, .int (nI (f0 + k)), .ref (q 29)], M868)) rfl rfl rfl ?_
                            refine ps_st (S' := (221, [(6, .int (nI (f0 + k))), (0, .ref m0), (1, .int (nI p)), (2, .int (nI (by2 f pF))), (3, .int (nI f0)), (4, .int (nI k)), (5, .int (nI (by2 f p)))], [.int (nI p), .ref m0, .ref m0, .int (nI (f0 + k)), .ref (q 29)], M868)) rfl rfl rfl ?_
                            refine ps_st (S' := (222, [(6, .int (nI (f0 + k))), (0, .ref m0), (1, .int (nI p)), (2, .int (nI (by2 f pF))), (3, .int (nI f0)), (4, .int (nI k)), (5, .int (nI (by2 f p)))], [.int 4, .int (nI p), .ref m0, .ref m0, .int (nI (f0 + k)), .ref (q 29)], M868)) rfl rfl rfl ?_
                            refine ps_st (S' := (223, [(6, .int (nI (f0 + k))), (0, .ref m0), (1, .int (nI p)), (2, .int (nI (by2 f pF))), (3, .int (nI f0)), (4, .int (nI k)), (5, .int (nI (by2 f p)))], [.int ((nI p) + 4), .ref m0, .ref m0, .int (nI (f0 + k)), .ref (q 29)], M868)) rfl rfl rfl ?_
                            rw [nI_add1 (p := p) (k := 4) (x := 4) rfl (by omega)]
                            show pl _ _ _ (_, [(6, .int (nI (f0 + k))), (0, .ref m0), (1, .int (nI p)), (2, .int (nI (by2 f pF))), (3, .int (nI f0)), (4, .int (nI k)), (5, .int (nI (by2 f p)))], [.int (nI (p + 4)), .ref m0, .ref m0, .int (nI (f0 + k)), .ref (q 29)], M868) _
                            refine pl_call (a := [.ref m0, .int (nI (p + 4))]) (rest := [.ref m0, .int (nI (f0 + k)), .ref (q 29)]) rfl rfl rfl (rd_u2 (n := n) (f := f) (p := (p + 4)) hR870 hF_872 (by omega)) (fun v880 M881 q882 => ?_)
                            obtain ⟨rfl, rfl⟩ := q882
                            show pl _ _ _ (226, [(6, .int (nI (f0 + k))), (0, .ref m0), (1, .int (nI p)), (2, .int (nI (by2 f pF))), (3, .int (nI f0)), (4, .int (nI k)), (5, .int (nI (by2 f p)))], [.int (nI (by2 f (p + 4))), .ref m0, .int (nI (f0 + k)), .ref (q 29)], M868) _
                            have hu_223 := by2_lt f (p + 4)
                            refine pl_call (a := [.ref m0, .int (nI (by2 f (p + 4)))]) (rest := [.int (nI (f0 + k)), .ref (q 29)]) rfl rfl rfl (rd_symOf (n := n) (f := f) (tx := tx) (cN := cN) (A := A) (N := N) (mj := mj) (E := E) (k := (by2 f (p + 4))) hR870 hl51 hl52 hl53 hF_872 hY_873 hP_874 (hEP) (hN) (hmj) (by omega)) (fun v883 M884 q885 => ?_)
                            obtain ⟨s886, q226_s, rfl, rfl⟩ := q885
                            show pl _ _ _ (229, [(6, .int (nI (f0 + k))), (0, .ref m0), (1, .int (nI p)), (2, .int (nI (by2 f pF))), (3, .int (nI f0)), (4, .int (nI k)), (5, .int (nI (by2 f p)))], [.int (nI s886), .int (nI (f0 + k)), .ref (q 29)], M868) _
                            have hsl_226 := q226_s.1
                            have htl_226 := hY_873.1.2.2.1
                            refine pr_st (a := 29) (j := f0 + k) rfl hR870 rfl (by omega) (fun M887 R888 i1_229 hR889 hS890 => ?_)
                            have hF_891 := hF_872.mono (fun _ _ => rfl) (rRx hS890 (by decide))
                            have hY_892 := hY_873.mono (fun _ _ => rfl) (rRx hS890 (by decide))
                            have hP_893 := hP_874.mono (fun _ _ => rfl) (rRx hS890 (by decide))
                            have hK_894 := hK_875.mono (fun _ _ => rfl) (rRx hS890 (by decide))
                            have c27_895 := c27_876.mono (fun _ _ => rfl) (rRx hS890 (by decide))
                            have c28_896 := c28_878.mono (fun _ _ => rfl) (rRx hS890 (by decide))
                            have hER897 := hER877.st hS890 (by decide)
                            show pl _ _ _ (230, [(6, .int (nI (f0 + k))), (0, .ref m0), (1, .int (nI p)), (2, .int (nI (by2 f pF))), (3, .int (nI f0)), (4, .int (nI k)), (5, .int (nI (by2 f p)))], [], M887) _
                            have c29_898 : CE 29 (f0 + k) (nI s886) I1 R888 := CE.st hS890
                            have hN9_899 := FN.st (I' := I1) hN9_879 hS890 rfl
                            refine ps_st (S' := (231, [(6, .int (nI (f0 + k))), (0, .ref m0), (1, .int (nI p)), (2, .int (nI (by2 f pF))), (3, .int (nI f0)), (4, .int (nI k)), (5, .int (nI (by2 f p)))], [.ref m0], M887)) rfl rfl rfl ?_
                            refine pr_ref (j := 30) (S' := (234, [(6, .int (nI (f0 + k))), (0, .ref m0), (1, .int (nI p)), (2, .int (nI (by2 f pF))), (3, .int (nI f0)), (4, .int (nI k)), (5, .int (nI (by2 f p)))], [.ref (q 30)], M887)) rfl hR889 rfl rfl ?_
                            refine ps_st (S' := (236, [(6, .int (nI (f0 + k))), (0, .ref m0), (1, .int (nI p)), (2, .int (nI (by2 f pF))), (3, .int (nI f0)), (4, .int (nI k)), (5, .int (nI (by2 f p)))], [.int (nI (f0 + k)), .ref (q 30)], M887)) rfl rfl rfl ?_
                            refine ps_st (S' := (237, [(6, .int (nI (f0 + k))), (0, .ref m0), (1, .int (nI p)), (2, .int (nI (by2 f pF))), (3, .int (nI f0)), (4, .int (nI k)), (5, .int (nI (by2 f p)))], [.int 0, .int (nI (f0 + k)), .ref (q 30)], M887)) rfl rfl rfl ?_
                            refine pr_st (a := 30) (j := f0 + k) rfl hR889 rfl (by omega) (fun M900 R901 i1_237 hR902 hS903 => ?_)
                            have hF_904 := hF_891.mono (fun _ _ => rfl) (rRx hS903 (by decide))
                            have hY_905 := hY_892.mono (fun _ _ => rfl) (rRx hS903 (by decide))
                            have hP_906 := hP_893.mono (fun _ _ => rfl) (rRx hS903 (by decide))
                            have hK_907 := hK_894.mono (fun _ _ => rfl) (rRx hS903 (by decide))
                            have c27_908 := c27_895.mono (fun _ _ => rfl) (rRx hS903 (by decide))
                            have c28_909 := c28_896.mono (fun _ _ => rfl) (rRx hS903 (by decide))
                            have c29_910 := c29_898.mono (fun _ _ => rfl) (rRx hS903 (by decide))
                            have hN9_911 := hN9_899.mono (fun _ _ => rfl) (rRx hS903 (by decide))
                            have hER912 := hER897.st hS903 (by decide)
                            show pl _ _ _ (238, [(6, .int (nI (f0 + k))), (0, .ref m0), (1, .int (nI p)), (2, .int (nI (by2 f pF))), (3, .int (nI f0)), (4, .int (nI k)), (5, .int (nI (by2 f p)))], [], M900) _
                            refine ps_st (S' := (239, [(6, .int (nI (f0 + k))), (0, .ref m0), (1, .int (nI p)), (2, .int (nI (by2 f pF))), (3, .int (nI f0)), (4, .int (nI k)), (5, .int (nI (by2 f p)))], [.ref m0], M900)) rfl rfl rfl ?_
                            refine pr_ref (j := 31) (S' := (242, [(6, .int (nI (f0 + k))), (0, .ref m0), (1, .int (nI p)), (2, .int (nI (by2 f pF))), (3, .int (nI f0)), (4, .int (nI k)), (5, .int (nI (by2 f p)))], [.ref (q 31)], M900)) rfl hR902 rfl rfl ?_
                            refine ps_st (S' := (244, [(6, .int (nI (f0 + k))), (0, .ref m0), (1, .int (nI p)), (2, .int (nI (by2 f pF))), (3, .int (nI f0)), (4, .int (nI k)), (5, .int (nI (by2 f p)))], [.int (nI (f0 + k)), .ref (q 31)], M900)) rfl rfl rfl ?_
                            refine ps_st (S' := (245, [(6, .int (nI (f0 + k))), (0, .ref m0), (1, .int (nI p)), (2, .int (nI (by2 f pF))), (3, .int (nI f0)), (4, .int (nI k)), (5, .int (nI (by2 f p)))], [.int 0, .int (nI (f0 + k)), .ref (q 31)], M900)) rfl rfl rfl ?_
                            refine pr_st (a := 31) (j := f0 + k) rfl hR902 rfl (by omega) (fun M913 R914 i1_245 hR915 hS916 => ?_)
                            have hF_917 := hF_904.mono (fun _ _ => rfl) (rRx hS916 (by decide))
                            have hY_918 := hY_905.mono (fun _ _ => rfl) (rRx hS916 (by decide))
                            have hP_919 := hP_906.mono (fun _ _ => rfl) (rRx hS916 (by decide))
                            have hK_920 := hK_907.mono (fun _ _ => rfl) (rRx hS916 (by decide))
                            have c27_921 := c27_908.mono (fun _ _ => rfl) (rRx hS916 (by decide))
                            have c28_922 := c28_909.mono (fun _ _ => rfl) (rRx hS916 (by decide))
                            have c29_923 := c29_910.mono (fun _ _ => rfl) (rRx hS916 (by decide))
                            have hN9_924 := hN9_911.mono (fun _ _ => rfl) (rRx hS916 (by decide))
                            have hER925 := hER912.st hS916 (by decide)
                            show pl _ _ _ (246, [(6, .int (nI (f0 + k))), (0, .ref m0), (1, .int (nI p)), (2, .int (nI (by2 f pF))), (3, .int (nI f0)), (4, .int (nI k)), (5, .int (nI (by2 f p)))], [], M913) _
                            refine ps_st (S' := (247, [(6, .int (nI (f0 + k))), (0, .ref m0), (1, .int (nI p)), (2, .int (nI (by2 f pF))), (3, .int (nI f0)), (4, .int (nI k)), (5, .int (nI (by2 f p)))], [.ref m0], M913)) rfl rfl rfl ?_
                            refine pr_ref (j := 32) (S' := (250, [(6, .int (nI (f0 + k))), (0, .ref m0), (1, .int (nI p)), (2, .int (nI (by2 f pF))), (3, .int (nI f0)), (4, .int (nI k)), (5, .int (nI (by2 f p)))], [.ref (q 32)], M913)) rfl hR915 rfl rfl ?_
                            refine ps_st (S' := (252, [(6, .int (nI (f0 + k))), (0, .ref m0), (1, .int (nI p)), (2, .int (nI (by2 f pF))), (3, .int (nI f0)), (4, .int (nI k)), (5, .int (nI (by2 f p)))], [.int (nI (f0 + k)), .ref (q 32)], M913)) rfl rfl rfl ?_
                            refine ps_st (S' := (253, [(6, .int (nI (f0 + k))), (0, .ref m0), (1, .int (nI p)), (2, .int (nI (by2 f pF))), (3, .int (nI f0)), (4, .int (nI k)), (5, .int (nI (by2 f p)))], [.ref m0, .int (nI (f0 + k)), .ref (q 32)], M913)) rfl rfl rfl ?_
                            refine ps_st (S' := (254, [(6, .int (nI (f0 + k))), (0, .ref m0), (1, .int (nI p)), (2, .int (nI (by2 f pF))), (3, .int (nI f0)), (4, .int (nI k)), (5, .int (nI (by2 f p)))], [.int (nI p), .ref m0, .int (nI (f0 + k)), .ref (q 32)], M913)) rfl rfl rfl ?_
                            refine ps_st (S' := (255, [(6, .int (nI (f0 + k))), (0, .ref m0), (1, .int (nI p)), (2, .int (nI (by2 f pF))), (3, .int (nI f0)), (4, .int (nI k)), (5, .int (nI (by2 f p)))], [.int 2, .int (nI p), .ref m0, .int (nI (f0 + k)), .ref (q 32)], M913)) rfl rfl rfl ?_
                            refine ps_st (S' := (256, [(6, .int (nI (f0 + k))), (0, .ref m0), (1, .int (nI p)), (2, .int (nI (by2 f pF))), (3, .int (nI f0)), (4, .int (nI k)), (5, .int (nI (by2 f p)))], [.int ((nI p) + 2), .ref m0, .int (nI (f0 + k)), .ref (q 32)], M913)) rfl rfl rfl ?_
                            rw [nI_add1 (p := p) (k := 2) (x := 2) rfl (by omega)]
                            show pl _ _ _ (_, [(6, .int (nI (f0 + k))), (0, .ref m0), (1, .int (nI p)), (2, .int (nI (by2 f pF))), (3, .int (nI f0)), (4, .int (nI k)), (5, .int (nI (by2 f p)))], [.int (nI (p + 2)), .ref m0, .int (nI (f0 + k)), .ref (q 32)], M913) _
                            refine pl_call (a := [.ref m0, .int (nI (p + 2))]) (rest := [.int (nI (f0 + k)), .ref (q 32)]) rfl rfl rfl (rd_u2 (n := n) (f := f) (p := (p + 2)) hR915 hF_917 (by omega)) (fun v926 M927 q928 => ?_)
                            obtain ⟨rfl, rfl⟩ := q928
                            show pl _ _ _ (259, [(6, .int (nI (f0 + k))), (0, .ref m0), (1, .int (nI p)), (2, .int (nI (by2 f pF))), (3, .int (nI f0)), (4, .int (nI k)), (5, .int (nI (by2 f p)))], [.int (nI (by2 f (p + 2))), .int (nI (f0 + k)), .ref (q 32)], M913) _
                            have hu_256 := by2_lt f (p + 2)
                            refine pr_st (a := 32) (j := f0 + k) rfl hR915 rfl (by omega) (fun M929 R930 i1_259 hR931 hS932 => ?_)
                            have hF_933 := hF_917.mono (fun _ _ => rfl) (rRx hS932 (by decide))
                            have hY_934 := hY_918.mono (fun _ _ => rfl) (rRx hS932 (by decide))
                            have hP_935 := hP_919.mono (fun _ _ => rfl) (rRx hS932 (by decide))
                            have hK_936 := hK_920.mono (fun _ _ => rfl) (rRx hS932 (by decide))
                            have c27_937 := c27_921.mono (fun _ _ => rfl) (rRx hS932 (by decide))
                            have c28_938 := c28_922.mono (fun _ _ => rfl) (rRx hS932 (by decide))
                            have c29_939 := c29_923.mono (fun _ _ => rfl) (rRx hS932 (by decide))
                            have hN9_940 := hN9_924.mono (fun _ _ => rfl) (rRx hS932 (by decide))
                            have hER941 := hER925.st hS932 (by decide)
                            show pl _ _ _ (260, [(6, .int (nI (f0 + k))), (0, .ref m0), (1, .int (nI p)), (2, .int (nI (by2 f pF))), (3, .int (nI f0)), (4, .int (nI k)), (5, .int (nI (by2 f p)))], [], M929) _
                            refine ps_st (S' := (261, [(6, .int (nI (f0 + k))), (0, .ref m0), (1, .int (nI p)), (2, .int (nI (by2 f pF))), (3, .int (nI f0)), (4, .int (nI k)), (5, .int (nI (by2 f p)))], [.ref m0], M929)) rfl rfl rfl ?_
                            refine pr_ref (j := 33) (S' := (264, [(6, .int (nI (f0 + k))), (0, .ref m0), (1, .int (nI p)), (2, .int (nI (by2 f pF))), (3, .int (nI f0)), (4, .int (nI k)), (5, .int (nI (by2 f p)))], [.ref (q 33)], M929)) rfl hR931 rfl rfl ?_
                            refine ps_st (S' := (266, [(6, .int (nI (f0 + k))), (0, .ref m0), (1, .int (nI p)), (2, .int (nI (by2 f pF))), (3, .int (nI f0)), (4, .int (nI k)), (5, .int (nI (by2 f p)))], [.int (nI (f0 + k)), .ref (q 33)], M929)) rfl rfl rfl ?_
                            refine ps_st (S' := (267, [(6, .int (nI (f0 + k))), (0, .ref m0), (1, .int (nI p)), (2, .int (nI (by2 f pF))), (3, .int (nI f0)), (4, .int (nI k)), (5, .int (nI (by2 f p)))], [.ref m0, .int (nI (f0 + k)), .ref (q 33)], M929)) rfl rfl rfl ?_
                            refine ps_st (S' := (268, [(6, .int (nI (f0 + k))), (0, .ref m0), (1, .int (nI p)), (2, .int (nI (by2 f pF))), (3, .int (nI f0)), (4, .int (nI k)), (5, .int (nI (by2 f p)))], [.int (nI p), .ref m0, .int (nI (f0 + k)), .ref (q 33)], M929)) rfl rfl rfl ?_
                            refine ps_st (S' := (269, [(6, .int (nI (f0 + k))), (0, .ref m0), (1, .int (nI p)), (2, .int (nI (by2 f pF))), (3, .int (nI f0)), (4, .int (nI k)), (5, .int (nI (by2 f p)))], [.int 4, .int (nI p), .ref m0, .int (nI (f0 + k)), .ref (q 33)], M929)) rfl rfl rfl ?_
                            refine ps_st (S' := (270, [(6, .int (nI (f0 + k))), (0, .ref m0), (1, .int (nI p)), (2, .int (nI (by2 f pF))), (3, .int (nI f0)), (4, .int (nI k)), (5, .int (nI (by2 f p)))], [.int ((nI p) + 4), .ref m0, .int (nI (f0 + k)), .ref (q 33)], M929)) rfl rfl rfl ?_
                            rw [nI_add1 (p := p) (k := 4) (x := 4) rfl (by omega)]
                            show pl _ _ _ (_, [(6, .int (nI (f0 + k))), (0, .ref m0), (1, .int (nI p)), (2, .int (nI (by2 f pF))), (3, .int (nI f0)), (4, .int (nI k)), (5, .int (nI (by2 f p)))], [.int (nI (p + 4)), .ref m0, .int (nI (f0 + k)), .ref (q 33)], M929) _
                            refine pl_call (a := [.ref m0, .int (nI (p + 4))]) (rest := [.int (nI (f0 + k)), .ref (q 33)]) rfl rfl rfl (rd_u2 (n := n) (f := f) (p := (p + 4)) hR931 hF_933 (by omega)) (fun v942 M943 q944 => ?_)
                            obtain ⟨rfl, rfl⟩ := q944
                            show pl _ _ _ (273, [(6, .int (nI (f0 + k))), (0, .ref m0), (1, .int (nI p)), (2, .int (nI (by2 f pF))), (3, .int (nI f0)), (4, .int (nI k)), (5, .int (nI (by2 f p)))], [.int (nI (by2 f (p + 4))), .int (nI (f0 + k)), .ref (q 33)], M929) _
                            have hu_270 := by2_lt f (p + 4)
                            refine pr_st (a := 33) (j := f0 + k) rfl hR931 rfl (by omega) (fun M945 R946 i1_273 hR947 hS948 => ?_)
                            have hF_949 := hF_933.mono (fun _ _ => rfl) (rRx hS948 (by decide))
                            have hY_950 := hY_934.mono (fun _ _ => rfl) (rRx hS948 (by decide))
                            have hP_951 := hP_935.mono (fun _ _ => rfl) (rRx hS948 (by decide))
                            have hK_952 := hK_936.mono (fun _ _ => rfl) (rRx hS948 (by decide))
                            have c27_953 := c27_937.mono (fun _ _ => rfl) (rRx hS948 (by decide))
                            have c28_954 := c28_938.mono (fun _ _ => rfl) (rRx hS948 (by decide))
                            have c29_955 := c29_939.mono (fun _ _ => rfl) (rRx hS948 (by decide))
                            have hN9_956 := hN9_940.mono (fun _ _ => rfl) (rRx hS948 (by decide))
                            have hER957 := hER941.st hS948 (by decide)
                            show pl _ _ _ (274, [(6, .int (nI (f0 + k))), (0, .ref m0), (1, .int (nI p)), (2, .int (nI (by2 f pF))), (3, .int (nI f0)), (4, .int (nI k)), (5, .int (nI (by2 f p)))], [], M945) _
                            refine ps_st (S' := (275, [(6, .int (nI (f0 + k))), (0, .ref m0), (1, .int (nI p)), (2, .int (nI (by2 f pF))), (3, .int (nI f0)), (4, .int (nI k)), (5, .int (nI (by2 f p)))], [.int (nI f0)], M945)) rfl rfl rfl ?_
                            refine ps_st (S' := (277, [(0, .ref m0), (1, .int (nI p)), (2, .int (nI (by2 f pF))), (3, .int (nI f0)), (4, .int (nI k)), (6, .int (nI (f0 + k))), (7, .int (nI f0))], [], M945)) rfl rfl rfl ?_
                            have h19 : ¬ fflN cf (by2 f p) = 0 := by
                              have e1 := ffl_0 cf (by2 f p)
                              have e2 := sev_0 (by2 f p)
                              have e3 := hall_80 (by2 f p)
                              omega
                            exact ih.2 (k) (p) (0) (s867) (s886) M945 I1 R946 hR947 hEI1 hER957 hl51 hl52 hl53 hl58 hl55 hl25 hF_949 hY_950 hP_951 hK_952 hN9_956 c27_953 c28_954 c29_955 (by omega) (hpk) (by omega) (hs) (by omega) (by omega) (q208_s) (q226_s) (by omega) (by omega) (h19) (by omega) (by omega) (rfl)
                          · have c_166 : ¬ (¬ (nI (fldN (tX f n E (by2 f (p + 4))))) = 0) := of_decide_eq_false c_166
                            have n_166 : fldN (tX f n E (by2 f (p + 4))) = 0 := (eq_nI (p := fldN (tX f n E (by2 f (p + 4)))) (n := 0) (Nat.lt_trans (le1_fld _) (by decide)) (by decide)).mp (Decidable.not_not.mp c_166)
                            refine ps_st (S' := (170, [(0, .ref m0), (1, .int (nI p))], [.ref m0], M1)) rfl rfl rfl ?_
                            refine ps_st (S' := (172, [(0, .ref m0), (1, .int (nI p))], [.int 21, .ref m0], M1)) rfl rfl rfl ?_
                            refine ps_st (S' := (173, [(0, .ref m0), (1, .int (nI p))], [.int (nI p), .int 21, .ref m0], M1)) rfl rfl rfl ?_
                            refine ps_st (S' := (174, [(0, .ref m0), (1, .int (nI p))], [.int 4, .int (nI p), .int 21, .ref m0], M1)) rfl rfl rfl ?_
                            refine ps_st (S' := (175, [(0, .ref m0), (1, .int (nI p))], [.int ((nI p) + 4), .int 21, .ref m0], M1)) rfl rfl rfl ?_
                            rw [nI_add1 (p := p) (k := 4) (x := 4) rfl (by omega)]
                            show pl _ _ _ (_, [(0, .ref m0), (1, .int (nI p))], [.int (nI (p + 4)), .int 21, .ref m0], M1) _
                            refine pl_call (a := [.ref m0, .int 21, .int (nI (p + 4))]) (rest := []) rfl rfl rfl (rd_wrong (x1 := 21) (x2 := (nI (p + 4))) hR1) (fun v958 M959 q960 => ?_)
                            obtain ⟨I961, R962, rfl, hR963, hI964, hX965, hi966, hi967⟩ := q960
                            have hi968 := (hI964 51 (by decide)).trans hl51
                            have hi969 := (hI964 52 (by decide)).trans hl52
                            have hi970 := (hI964 53 (by decide)).trans hl53
                            have hi971 := (hI964 58 (by decide)).trans hl58
                            have hi972 := (hI964 55 (by decide)).trans hl55
                            have hi973 := (hI964 25 (by decide)).trans hl25
                            have hF_974 := hF1.mono (cIx hI964 (by decide)) (cRx hX965 (by decide))
                            have hY_975 := hY1.mono (cIx hI964 (by decide)) (cRx hX965 (by decide))
                            have hP_976 := hP1.mono (cIx hI964 (by decide)) (cRx hX965 (by decide))
                            have hK_977 := hK1.mono (cIx hI964 (by decide)) (cRx hX965 (by decide))
                            have hN9_978 := hN91.mono (cIx hI964 (by decide)) (cRx hX965 (by decide))
                            have hEI979 := hEI1.tr hI964 (by decide)
                            have hER980 := hER1.tr hX965 (by decide)
                            show pl _ _ _ (178, [(0, .ref m0), (1, .int (nI p))], [.int 0], M959) _
                            exact ps_ret rfl rfl (Or.inr ⟨(21, p + 4), I961, R962, by
                                rw [← hs, flS_st (i := k) (by omega), ← hpk, fh_21 (by have e1 := ffl_0 cf (by2 f p); have e2 := sev_0 (by2 f p); have e3 := hall_80 (by2 f p); omega) (by omega) (by omega)], rfl, hR963, hEI979, hER980, hi966, hi967⟩)
                      · have c_123 : ¬ (¬ (nI (unqN (tX f n E (by2 f (p + 2))))) = 0) := of_decide_eq_false c_123
                        have n_123 : unqN (tX f n E (by2 f (p + 2))) = 0 := (eq_nI (p := unqN (tX f n E (by2 f (p + 2)))) (n := 0) (Nat.lt_trans (le1_unq _) (by decide)) (by decide)).mp (Decidable.not_not.mp c_123)
                        refine ps_st (S' := (127, [(0, .ref m0), (1, .int (nI p))], [.ref m0], M1)) rfl rfl rfl ?_
                        refine ps_st (S' := (129, [(0, .ref m0), (1, .int (nI p))], [.int 20, .ref m0], M1)) rfl rfl rfl ?_
                        refine ps_st (S' := (130, [(0, .ref m0), (1, .int (nI p))], [.int (nI p), .int 20, .ref m0], M1)) rfl rfl rfl ?_
                        refine ps_st (S' := (131, [(0, .ref m0), (1, .int (nI p))], [.int 2, .int (nI p), .int 20, .ref m0], M1)) rfl rfl rfl ?_
                        refine ps_st (S' := (132, [(0, .ref m0), (1, .int (nI p))], [.int ((nI p) + 2), .int 20, .ref m0], M1)) rfl rfl rfl ?_
                        rw [nI_add1 (p := p) (k := 2) (x := 2) rfl (by omega)]
                        show pl _ _ _ (_, [(0, .ref m0), (1, .int (nI p))], [.int (nI (p + 2)), .int 20, .ref m0], M1) _
                        refine pl_call (a := [.ref m0, .int 20, .int (nI (p + 2))]) (rest := []) rfl rfl rfl (rd_wrong (x1 := 20) (x2 := (nI (p + 2))) hR1) (fun v981 M982 q983 => ?_)
                        obtain ⟨I984, R985, rfl, hR986, hI987, hX988, hi989, hi990⟩ := q983
                        have hi991 := (hI987 51 (by decide)).trans hl51
                        have hi992 := (hI987 52 (by decide)).trans hl52
                        have hi993 := (hI987 53 (by decide)).trans hl53
                        have hi994 := (hI987 58 (by decide)).trans hl58
                        have hi995 := (hI987 55 (by decide)).trans hl55
                        have hi996 := (hI987 25 (by decide)).trans hl25
                        have hF_997 := hF1.mono (cIx hI987 (by decide)) (cRx hX988 (by decide))
                        have hY_998 := hY1.mono (cIx hI987 (by decide)) (cRx hX988 (by decide))
                        have hP_999 := hP1.mono (cIx hI987 (by decide)) (cRx hX988 (by decide))
                        have hK_1000 := hK1.mono (cIx hI987 (by decide)) (cRx hX988 (by decide))
                        have hN9_1001 := hN91.mono (cIx hI987 (by decide)) (cRx hX988 (by decide))
                        have hEI1002 := hEI1.tr hI987 (by decide)
                        have hER1003 := hER1.tr hX988 (by decide)
                        show pl _ _ _ (135, [(0, .ref m0), (1, .int (nI p))], [.int 0], M982) _
                        exact ps_ret rfl rfl (Or.inr ⟨(20, p + 2), I984, R985, by
                            rw [← hs, flS_st (i := k) (by omega), ← hpk, fh_20 (by have e1 := ffl_0 cf (by2 f p); have e2 := sev_0 (by2 f p); have e3 := hall_80 (by2 f p); omega) (by omega)], rfl, hR986, hEI1002, hER1003, hi989, hi990⟩)
                  · have c_81 : ¬ ((nI (aN (by2 f p) 16607)) = 25) := of_decide_eq_false c_81
                    have n_81 : ¬ (aN (by2 f p) 16607 = 25) := fun h9 => c_81 ((eq_nI (p := aN (by2 f p) 16607) (n := 25) (Nat.lt_of_le_of_lt (an_le _ _) (by decide)) (by decide)).mpr h9)
                    refine ps_st (S' := (85, [(0, .ref m0), (1, .int (nI p))], [.ref m0], M1)) rfl rfl rfl ?_
                    refine ps_st (S' := (87, [(0, .ref m0), (1, .int (nI p))], [.int 19, .ref m0], M1)) rfl rfl rfl ?_
                    refine ps_st (S' := (88, [(0, .ref m0), (1, .int (nI p))], [.int (nI p), .int 19, .ref m0], M1)) rfl rfl rfl ?_
                    refine pl_call (a := [.ref m0, .int 19, .int (nI p)]) (rest := []) rfl rfl rfl (rd_wrong (x1 := 19) (x2 := (nI p)) hR1) (fun v1004 M1005 q1006 => ?_)
                    obtain ⟨I1007, R1008, rfl, hR1009, hI1010, hX1011, hi1012, hi1013⟩ := q1006
                    have hi1014 := (hI1010 51 (by decide)).trans hl51
                    have hi1015 := (hI1010 52 (by decide)).trans hl52
                    have hi1016 := (hI1010 53 (by decide)).trans hl53
                    have hi1017 := (hI1010 58 (by decide)).trans hl58
                    have hi1018 := (hI1010 55 (by decide)).trans hl55
                    have hi1019 := (hI1010 25 (by decide)).trans hl25
                    have hF_1020 := hF1.mono (cIx hI1010 (by decide)) (cRx hX1011 (by decide))
                    have hY_1021 := hY1.mono (cIx hI1010 (by decide)) (cRx hX1011 (by decide))
                    have hP_1022 := hP1.mono (cIx hI1010 (by decide)) (cRx hX1011 (by decide))
                    have hK_1023 := hK1.mono (cIx hI1010 (by decide)) (cRx hX1011 (by decide))
                    have hN9_1024 := hN91.mono (cIx hI1010 (by decide)) (cRx hX1011 (by decide))
                    have hEI1025 := hEI1.tr hI1010 (by decide)
                    have hER1026 := hER1.tr hX1011 (by decide)
                    show pl _ _ _ (91, [(0, .ref m0), (1, .int (nI p))], [.int 0], M1005) _
                    exact ps_ret rfl rfl (Or.inr ⟨(19, p), I1007, R1008, by
                        rw [← hs, flS_st (i := k) (by omega), ← hpk, fh_19 (by have e1 := ffl_0 cf (by2 f p); have e2 := sev_0 (by2 f p); have e3 := hall_80 (by2 f p); omega)], rfl, hR1009, hEI1025, hER1026, hi1012, hi1013⟩)
      · skip
        intro k p j a d M1 I1 R1 hR1 hEI1 hER1 hl51 hl52 hl53 hl58 hl55 hl25 hF1 hY1 hP1 hK1 hN91 c271 c281 c291 hk0 hpk hpe hs hj hx hsa hsd ht1 ht2 h19 h20 h21 hd9
        have hn := hF1.1
        have hu9 := by2_lt f pF
        have htl := hY1.1.2.2.1
        have hBl := hMB.1
        refine ps_st1 (S' := (279, [(0, .ref m0), (1, .int (nI p)), (2, .int (nI (by2 f pF))), (3, .int (nI f0)), (4, .int (nI k)), (6, .int (nI (f0 + k))), (7, .int (nI (f0 + j)))], [.int (nI (f0 + j))], M1)) rfl rfl rfl ?_
        refine ps_st (S' := (281, [(0, .ref m0), (1, .int (nI p)), (2, .int (nI (by2 f pF))), (3, .int (nI f0)), (4, .int (nI k)), (6, .int (nI (f0 + k))), (7, .int (nI (f0 + j)))], [.int (nI (f0 + k)), .int (nI (f0 + j))], M1)) rfl rfl rfl ?_
        refine ps_if2 (S1 := (332, [(0, .ref m0), (1, .int (nI p)), (2, .int (nI (by2 f pF))), (3, .int (nI f0)), (4, .int (nI k)), (6, .int (nI (f0 + k))), (7, .int (nI (f0 + j)))], [], M1)) (S2 := (284, [(0, .ref m0), (1, .int (nI p)), (2, .int (nI (by2 f pF))), (3, .int (nI f0)), (4, .int (nI k)), (6, .int (nI (f0 + k))), (7, .int (nI (f0 + j)))], [], M1)) rfl rfl rfl (fun c_281 => ?_) (fun c_281 => ?_)
        · have c_281 : (nI (f0 + k)) ≤ (nI (f0 + j)) := of_decide_eq_true c_281
          have n_281 : f0 + k ≤ f0 + j := (le_nI (p := f0 + k) (n := f0 + j) (by omega) (by omega)).mp c_281
          refine ps_st (S' := (333, [(0, .ref m0), (1, .int (nI p)), (2, .int (nI (by2 f pF))), (3, .int (nI f0)), (4, .int (nI k)), (6, .int (nI (f0 + k))), (7, .int (nI (f0 + j)))], [.ref m0], M1)) rfl rfl rfl ?_
          refine ps_st (S' := (334, [(0, .ref m0), (1, .int (nI p)), (2, .int (nI (by2 f pF))), (3, .int (nI f0)), (4, .int (nI k)), (6, .int (nI (f0 + k))), (7, .int (nI (f0 + j)))], [.ref m0, .ref m0], M1)) rfl rfl rfl ?_
          refine pr_int (j := 25) (S' := (337, [(0, .ref m0), (1, .int (nI p)), (2, .int (nI (by2 f pF))), (3, .int (nI f0)), (4, .int (nI k)), (6, .int (nI (f0 + k))), (7, .int (nI (f0 + j)))], [.int (nI (f0 + k)), .ref m0], M1)) rfl hR1 rfl hl25 rfl ?_
          refine ps_st (S' := (338, [(0, .ref m0), (1, .int (nI p)), (2, .int (nI (by2 f pF))), (3, .int (nI f0)), (4, .int (nI k)), (6, .int (nI (f0 + k))), (7, .int (nI (f0 + j)))], [.int 1, .int (nI (f0 + k)), .ref m0], M1)) rfl rfl rfl ?_
          refine ps_st (S' := (339, [(0, .ref m0), (1, .int (nI p)), (2, .int (nI (by2 f pF))), (3, .int (nI f0)), (4, .int (nI k)), (6, .int (nI (f0 + k))), (7, .int (nI (f0 + j)))], [.int ((nI (f0 + k)) + 1), .ref m0], M1)) rfl rfl rfl ?_
          rw [nI_add1 (p := f0 + k) (k := 1) (x := 1) rfl (by omega)]
          show pl _ _ _ (_, [(0, .ref m0), (1, .int (nI p)), (2, .int (nI (by2 f pF))), (3, .int (nI f0)), (4, .int (nI k)), (6, .int (nI (f0 + k))), (7, .int (nI (f0 + j)))], [.int (nI (f0 + k + 1)), .ref m0], M1) _
          refine pr_put (j := 25) rfl hR1 rfl (fun M1027 I1028 hR1029 hi1030 hI1031 => ?_)
          have hi1032 := (hI1031 51 (by decide)).trans hl51
          have hi1033 := (hI1031 52 (by decide)).trans hl52
          have hi1034 := (hI1031 53 (by decide)).trans hl53
          have hi1035 := (hI1031 58 (by decide)).trans hl58
          have hi1036 := (hI1031 55 (by decide)).trans hl55
          have hF_1037 := hF1.mono (pIx hI1031 (by decide)) (fun _ _ => rfl)
          have hY_1038 := hY1.mono (pIx hI1031 (by decide)) (fun _ _ => rfl)
          have hP_1039 := hP1.mono (pIx hI1031 (by decide)) (fun _ _ => rfl)
          have hK_1040 := hK1.mono (pIx hI1031 (by decide)) (fun _ _ => rfl)
          have hN9_1041 := hN91.mono (pIx hI1031 (by decide)) (fun _ _ => rfl)
          have c27_1042 := c271.mono (pIx hI1031 (by decide)) (fun _ _ => rfl)
          have c28_1043 := c281.mono (pIx hI1031 (by decide)) (fun _ _ => rfl)
          have c29_1044 := c291.mono (pIx hI1031 (by decide)) (fun _ _ => rfl)
          have hEI1045 := hEI1.put hI1031 (by decide)
          show pl _ _ _ (342, [(0, .ref m0), (1, .int (nI p)), (2, .int (nI (by2 f pF))), (3, .int (nI f0)), (4, .int (nI k)), (6, .int (nI (f0 + k))), (7, .int (nI (f0 + j)))], [], M1027) _
          refine ps_st (S' := (343, [(0, .ref m0), (1, .int (nI p)), (2, .int (nI (by2 f pF))), (3, .int (nI f0)), (4, .int (nI k)), (6, .int (nI (f0 + k))), (7, .int (nI (f0 + j)))], [.ref m0], M1027)) rfl rfl rfl ?_
          refine ps_st (S' := (344, [(0, .ref m0), (1, .int (nI p)), (2, .int (nI (by2 f pF))), (3, .int (nI f0)), (4, .int (nI k)), (6, .int (nI (f0 + k))), (7, .int (nI (f0 + j)))], [.int (nI p), .ref m0], M1027)) rfl rfl rfl ?_
          refine ps_st (S' := (346, [(0, .ref m0), (1, .int (nI p)), (2, .int (nI (by2 f pF))), (3, .int (nI f0)), (4, .int (nI k)), (6, .int (nI (f0 + k))), (7, .int (nI (f0 + j)))], [.int 6, .int (nI p), .ref m0], M1027)) rfl rfl rfl ?_
          refine ps_st (S' := (347, [(0, .ref m0), (1, .int (nI p)), (2, .int (nI (by2 f pF))), (3, .int (nI f0)), (4, .int (nI k)), (6, .int (nI (f0 + k))), (7, .int (nI (f0 + j)))], [.int ((nI p) + 6), .ref m0], M1027)) rfl rfl rfl ?_
          rw [nI_add1 (p := p) (k := 6) (x := 6) rfl (by omega)]
          show pl _ _ _ (_, [(0, .ref m0), (1, .int (nI p)), (2, .int (nI (by2 f pF))), (3, .int (nI f0)), (4, .int (nI k)), (6, .int (nI (f0 + k))), (7, .int (nI (f0 + j)))], [.int (nI (p + 6)), .ref m0], M1027) _
          refine ps_st (S' := (348, [(0, .ref m0), (1, .int (nI p)), (2, .int (nI (by2 f pF))), (3, .int (nI f0)), (4, .int (nI k)), (6, .int (nI (f0 + k))), (7, .int (nI (f0 + j)))], [.int 1, .int (nI (p + 6)), .ref m0], M1027)) rfl rfl rfl ?_
          refine ps_st (S' := (350, [(0, .ref m0), (1, .int (nI p)), (2, .int (nI (by2 f pF))), (3, .int (nI f0)), (4, .int (nI k)), (6, .int (nI (f0 + k))), (7, .int (nI (f0 + j)))], [.int (nI (f0 + k)), .int 1, .int (nI (p + 6)), .ref m0], M1027)) rfl rfl rfl ?_
          have hm9 := hMB.2.2.2 k (by omega)
          rw [← hpk] at hm9
          have hX9 : FX (by2 f p) d (f0 + k) I1028 R1 := ⟨c27_1042, c29_1044⟩
          have hu8 := by2_lt f p
          refine pl_call (a := [.ref m0, .int (nI (p + 6)), .int 1, .int (nI (f0 + k))]) (rest := []) rfl rfl rfl (rd_checkAttributes1 (n := n) (f := f) (tx := tx) (cN := cN) (A := A) (N := N) (mj := mj) (E := E) (p1 := (p + 6)) (e := (E1 k)) (x := (f0 + k)) (fl := (by2 f p)) (ds := d) (l := (tX f n E (by2 f (p + 4)))) hR1029 hi1032 hi1033 hi1034 hF_1037 hY_1038 hP_1039 hK_1040 hX9 (hEP) (hN) (hmj) (⟨by omega, by omega⟩) (hm9.2.2.1) (hx) (hsd) (h21) (hu8)) (fun v1046 M1047 q1048 => ?_)
          rcases q1048 with q1048 | q1048
          · skip
            obtain ⟨e91049, I1050, R1051, q350_s, rfl, hR1052, hI1053, hX1054, hi1055, hi1056⟩ := q1048
            have hi1057 := (hI1053 51 (by decide)).trans hi1032
            have hi1058 := (hI1053 52 (by decide)).trans hi1033
            have hi1059 := (hI1053 53 (by decide)).trans hi1034
            have hi1060 := (hI1053 58 (by decide)).trans hi1035
            have hi1061 := (hI1053 55 (by decide)).trans hi1036
            have hi1062 := (hI1053 25 (by decide)).trans hi1030
            have hF_1063 := hF_1037.mono (cIx hI1053 (by decide)) (cRx hX1054 (by decide))
            have hY_1064 := hY_1038.mono (cIx hI1053 (by decide)) (cRx hX1054 (by decide))
            have hP_1065 := hP_1039.mono (cIx hI1053 (by decide)) (cRx hX1054 (by decide))
            have hK_1066 := hK_1040.mono (cIx hI1053 (by decide)) (cRx hX1054 (by decide))
            have hN9_1067 := hN9_1041.mono (cIx hI1053 (by decide)) (cRx hX1054 (by decide))
            have c27_1068 := c27_1042.mono (cIx hI1053 (by decide)) (cRx hX1054 (by decide))
            have c28_1069 := c28_1043.mono (cIx hI1053 (by decide)) (cRx hX1054 (by decide))
            have c29_1070 := c29_1044.mono (cIx hI1053 (by decide)) (cRx hX1054 (by decide))
            have hX_1071 := hX9.mono (cIx hI1053 (by decide)) (cRx hX1054 (by decide))
            have hEI1072 := hEI1045.tr hI1053 (by decide)
            have hER1073 := hER1.tr hX1054 (by decide)
            show pl _ _ _ (353, [(0, .ref m0), (1, .int (nI p)), (2, .int (nI (by2 f pF))), (3, .int (nI f0)), (4, .int (nI k)), (6, .int (nI (f0 + k))), (7, .int (nI (f0 + j)))], [.int (-1)], M1047) _
            refine ps_st (S' := (354, [(1, .int (-1)), (0, .ref m0), (2, .int (nI (by2 f pF))), (3, .int (nI f0)), (4, .int (nI k)), (6, .int (nI (f0 + k))), (7, .int (nI (f0 + j)))], [], M1047)) rfl rfl rfl ?_
            refine ps_st (S' := (355, [(1, .int (-1)), (0, .ref m0), (2, .int (nI (by2 f pF))), (3, .int (nI f0)), (4, .int (nI k)), (6, .int (nI (f0 + k))), (7, .int (nI (f0 + j)))], [.int (-1)], M1047)) rfl rfl rfl ?_
            refine ps_if (S1 := (360, [(1, .int (-1)), (0, .ref m0), (2, .int (nI (by2 f pF))), (3, .int (nI f0)), (4, .int (nI k)), (6, .int (nI (f0 + k))), (7, .int (nI (f0 + j)))], [], M1047)) (S2 := (358, [(1, .int (-1)), (0, .ref m0), (2, .int (nI (by2 f pF))), (3, .int (nI f0)), (4, .int (nI k)), (6, .int (nI (f0 + k))), (7, .int (nI (f0 + j)))], [], M1047)) rfl rfl rfl (fun c_355 => ?_) (fun c_355 => ?_)
            · exact absurd (of_decide_eq_true c_355) (by decide)
            refine ps_st (S' := (359, [(1, .int (-1)), (0, .ref m0), (2, .int (nI (by2 f pF))), (3, .int (nI f0)), (4, .int (nI k)), (6, .int (nI (f0 + k))), (7, .int (nI (f0 + j)))], [.int 0], M1047)) rfl rfl rfl ?_
            exact ps_ret rfl rfl (Or.inr ⟨e91049, I1050, R1051, by
                rw [← hs, flS_st (i := k) (by omega), ← hpk, fh_n hpk h19 h20 h21 (by rw [← hd9, show k - j = 0 by omega]; rfl), q350_s], rfl, hR1052, hEI1072, hER1073, hi1055, hi1056⟩)
          · skip
            obtain ⟨I1074, R1075, q350_s, rfl, hR1076, hI1077, hX1078⟩ := q1048
            have hi1079 := (hI1077 51 (by decide)).trans hi1032
            have hi1080 := (hI1077 52 (by decide)).trans hi1033
            have hi1081 := (hI1077 53 (by decide)).trans hi1034
            have hi1082 := (hI1077 58 (by decide)).trans hi1035
            have hi1083 := (hI1077 55 (by decide)).trans hi1036
            have hi1084 := (hI1077 25 (by decide)).trans hi1030
            have hF_1085 := hF_1037.mono (cIx hI1077 (by decide)) (cRx hX1078 (by decide))
            have hY_1086 := hY_1038.mono (cIx hI1077 (by decide)) (cRx hX1078 (by decide))
            have hP_1087 := hP_1039.mono (cIx hI1077 (by decide)) (cRx hX1078 (by decide))
            have hK_1088 := hK_1040.mono (cIx hI1077 (by decide)) (cRx hX1078 (by decide))
            have hN9_1089 := hN9_1041.mono (cIx hI1077 (by decide)) (cRx hX1078 (by decide))
            have c27_1090 := c27_1042.mono (cIx hI1077 (by decide)) (cRx hX1078 (by decide))
            have c28_1091 := c28_1043.mono (cIx hI1077 (by decide)) (cRx hX1078 (by decide))
            have c29_1092 := c29_1044.mono (cIx hI1077 (by decide)) (cRx hX1078 (by decide))
            have hX_1093 := hX9.mono (cIx hI1077 (by decide)) (cRx hX1078 (by decide))
            have hEI1094 := hEI1045.tr hI1077 (by decide)
            have hER1095 := hER1.tr hX1078 (by decide)
            show pl _ _ _ (353, [(0, .ref m0), (1, .int (nI p)), (2, .int (nI (by2 f pF))), (3, .int (nI f0)), (4, .int (nI k)), (6, .int (nI (f0 + k))), (7, .int (nI (f0 + j)))], [.int (nI (E1 k))], M1047) _
            refine ps_st (S' := (354, [(1, .int (nI (E1 k))), (0, .ref m0), (2, .int (nI (by2 f pF))), (3, .int (nI f0)), (4, .int (nI k)), (6, .int (nI (f0 + k))), (7, .int (nI (f0 + j)))], [], M1047)) rfl rfl rfl ?_
            refine ps_st (S' := (355, [(1, .int (nI (E1 k))), (0, .ref m0), (2, .int (nI (by2 f pF))), (3, .int (nI f0)), (4, .int (nI k)), (6, .int (nI (f0 + k))), (7, .int (nI (f0 + j)))], [.int (nI (E1 k))], M1047)) rfl rfl rfl ?_
            refine ps_if (S1 := (360, [(1, .int (nI (E1 k))), (0, .ref m0), (2, .int (nI (by2 f pF))), (3, .int (nI f0)), (4, .int (nI k)), (6, .int (nI (f0 + k))), (7, .int (nI (f0 + j)))], [], M1047)) (S2 := (358, [(1, .int (nI (E1 k))), (0, .ref m0), (2, .int (nI (by2 f pF))), (3, .int (nI f0)), (4, .int (nI k)), (6, .int (nI (f0 + k))), (7, .int (nI (f0 + j)))], [], M1047)) rfl rfl rfl (fun c_355 => ?_) (fun c_355 => ?_)
            rotate_left
            · exact absurd ((le_nI (p := 0) (n := E1 k) (by decide) (by omega)).mpr (by omega)) (of_decide_eq_false c_355)
            refine ps_st (S' := (363, [(4, .int ((nI k) + 1)), (1, .int (nI (E1 k))), (0, .ref m0), (2, .int (nI (by2 f pF))), (3, .int (nI f0)), (6, .int (nI (f0 + k))), (7, .int (nI (f0 + j)))], [], M1047)) rfl rfl rfl ?_
            rw [nI_add1 (p := k) (k := 1) (x := 1) rfl (by omega)]
            show pl _ _ _ (_, [(4, .int (nI (k + 1))), (1, .int (nI (E1 k))), (0, .ref m0), (2, .int (nI (by2 f pF))), (3, .int (nI f0)), (6, .int (nI (f0 + k))), (7, .int (nI (f0 + j)))], [], M1047) _
            refine ps_st (S' := (22, [(0, .ref m0), (1, .int (nI (E1 k))), (2, .int (nI (by2 f pF))), (3, .int (nI f0)), (4, .int (nI (k + 1)))], [], M1047)) rfl rfl rfl ?_
            have hN8 := FN.more hN9_1089 hpk c28_1091 c29_1092 hsa hsd ht1 ht2
            exact ih.1 (k + 1) (E1 k) M1047 I1074 R1075 hR1076 hEI1094 hER1095 hi1079 hi1080 hi1081 hi1082 hi1083 hi1084 hF_1085 hY_1086 hP_1087 hK_1088 hN8 (by omega) (fun h9 => (hm9.2.2.2 (by omega)).symm) (hm9.2.1) (by
                rw [← hs, flS_st (i := k) (by omega), ← hpk, fh_n hpk h19 h20 h21 (by rw [← hd9, show k - j = 0 by omega]; rfl), q350_s])
        · have c_281 : ¬ ((nI (f0 + k)) ≤ (nI (f0 + j))) := of_decide_eq_false c_281
          have n_281 : ¬ (f0 + k ≤ f0 + j) := fun h9 => c_281 ((le_nI (p := f0 + k) (n := f0 + j) (by omega) (by omega)).mpr h9)
          obtain ⟨a9, d9, g1, g2, g3, g4, g5, g6⟩ := hN91 j (by omega)
          have g7 := g3.1
          have g8 := g4.1
          have g0 := hsa.1
          have g9 := hsd.1
          have sm1 := sm_sym (k := by2 f (B.getD j 0 + 2)) (m := by2 f (p + 2)) hY1 g3 hsa g5 ht1
          have sm2 := sm_sym (k := by2 f (B.getD j 0 + 4)) (m := by2 f (p + 4)) hY1 g4 hsd g6 ht2
          refine ps_st (S' := (285, [(0, .ref m0), (1, .int (nI p)), (2, .int (nI (by2 f pF))), (3, .int (nI f0)), (4, .int (nI k)), (6, .int (nI (f0 + k))), (7, .int (nI (f0 + j)))], [.ref m0], M1)) rfl rfl rfl ?_
          refine pr_ref (j := 28) (S' := (288, [(0, .ref m0), (1, .int (nI p)), (2, .int (nI (by2 f pF))), (3, .int (nI f0)), (4, .int (nI k)), (6, .int (nI (f0 + k))), (7, .int (nI (f0 + j)))], [.ref (q 28)], M1)) rfl hR1 rfl rfl ?_
          refine ps_st (S' := (290, [(0, .ref m0), (1, .int (nI p)), (2, .int (nI (by2 f pF))), (3, .int (nI f0)), (4, .int (nI k)), (6, .int (nI (f0 + k))), (7, .int (nI (f0 + j)))], [.int (nI (f0 + j)), .ref (q 28)], M1)) rfl rfl rfl ?_
          refine pr_ld (a := 28) (j := f0 + j) (y := (nI a9)) (S' := (291, [(0, .ref m0), (1, .int (nI p)), (2, .int (nI (by2 f pF))), (3, .int (nI f0)), (4, .int (nI k)), (6, .int (nI (f0 + k))), (7, .int (nI (f0 + j)))], [.int (nI a9)], M1)) rfl hR1 rfl (by omega) (fun _ => g1) rfl (fun i1_290 => ?_)
          refine ps_st (S' := (292, [(0, .ref m0), (1, .int (nI p)), (2, .int (nI (by2 f pF))), (3, .int (nI f0)), (4, .int (nI k)), (6, .int (nI (f0 + k))), (7, .int (nI (f0 + j)))], [.ref m0, .int (nI a9)], M1)) rfl rfl rfl ?_
          refine pr_ref (j := 28) (S' := (295, [(0, .ref m0), (1, .int (nI p)), (2, .int (nI (by2 f pF))), (3, .int (nI f0)), (4, .int (nI k)), (6, .int (nI (f0 + k))), (7, .int (nI (f0 + j)))], [.ref (q 28), .int (nI a9)], M1)) rfl hR1 rfl rfl ?_
          refine ps_st (S' := (297, [(0, .ref m0), (1, .int (nI p)), (2, .int (nI (by2 f pF))), (3, .int (nI f0)), (4, .int (nI k)), (6, .int (nI (f0 + k))), (7, .int (nI (f0 + j)))], [.int (nI (f0 + k)), .ref (q 28), .int (nI a9)], M1)) rfl rfl rfl ?_
          refine pr_ld (a := 28) (j := f0 + k) (y := (nI a)) (S' := (298, [(0, .ref m0), (1, .int (nI p)), (2, .int (nI (by2 f pF))), (3, .int (nI f0)), (4, .int (nI k)), (6, .int (nI (f0 + k))), (7, .int (nI (f0 + j)))], [.int (nI a), .int (nI a9)], M1)) rfl hR1 rfl (by omega) (fun _ => c281) rfl (fun i1_297 => ?_)
          refine ps_if2 (S1 := (326, [(0, .ref m0), (1, .int (nI p)), (2, .int (nI (by2 f pF))), (3, .int (nI f0)), (4, .int (nI k)), (6, .int (nI (f0 + k))), (7, .int (nI (f0 + j)))], [], M1)) (S2 := (301, [(0, .ref m0), (1, .int (nI p)), (2, .int (nI (by2 f pF))), (3, .int (nI f0)), (4, .int (nI k)), (6, .int (nI (f0 + k))), (7, .int (nI (f0 + j)))], [], M1)) rfl rfl rfl (fun c_298 => ?_) (fun c_298 => ?_)
          · have c_298 : ¬ (nI a9) = (nI a) := of_decide_eq_true c_298
            have n_298 : ¬ (a9 = a) := fun h9 => c_298 ((eq_nI (p := a9) (n := a) (by omega) (by omega)).mpr h9)
            refine ps_st (S' := (329, [(7, .int ((nI (f0 + j)) + 1)), (0, .ref m0), (1, .int (nI p)), (2, .int (nI (by2 f pF))), (3, .int (nI f0)), (4, .int (nI k)), (6, .int (nI (f0 + k)))], [], M1)) rfl rfl rfl ?_
            rw [nI_add1 (p := f0 + j) (k := 1) (x := 1) rfl (by omega)]
            show pl _ _ _ (_, [(7, .int (nI (f0 + j + 1))), (0, .ref m0), (1, .int (nI p)), (2, .int (nI (by2 f pF))), (3, .int (nI f0)), (4, .int (nI k)), (6, .int (nI (f0 + k)))], [], M1) _
            refine ps_st (S' := (277, [(0, .ref m0), (1, .int (nI p)), (2, .int (nI (by2 f pF))), (3, .int (nI f0)), (4, .int (nI k)), (6, .int (nI (f0 + k))), (7, .int (nI (f0 + j + 1)))], [], M1)) rfl rfl rfl ?_
            exact ih.2 (k) (p) (j + 1) (a) (d) M1 I1 R1 hR1 hEI1 hER1 hl51 hl52 hl53 hl58 hl55 hl25 hF1 hY1 hP1 hK1 hN91 c271 c281 c291 (hk0) (hpk) (hpe) (hs) (by omega) (hx) (hsa) (hsd) (ht1) (ht2) (h19) (h20) (h21) (by
                rw [← hd9, smeS_st (i := j) (by omega), if_neg (by omega)])
          · have c_298 : ¬ (¬ (nI a9) = (nI a)) := of_decide_eq_false c_298
            have n_298 : a9 = a := (eq_nI (p := a9) (n := a) (by omega) (by omega)).mp (Decidable.not_not.mp c_298)
            refine ps_st (S' := (302, [(0, .ref m0), (1, .int (nI p)), (2, .int (nI (by2 f pF))), (3, .int (nI f0)), (4, .int (nI k)), (6, .int (nI (f0 + k))), (7, .int (nI (f0 + j)))], [.ref m0], M1)) rfl rfl rfl ?_
            refine pr_ref (j := 29) (S' := (305, [(0, .ref m0), (1, .int (nI p)), (2, .int (nI (by2 f pF))), (3, .int (nI f0)), (4, .int (nI k)), (6, .int (nI (f0 + k))), (7, .int (nI (f0 + j)))], [.ref (q 29)], M1)) rfl hR1 rfl rfl ?_
            refine ps_st (S' := (307, [(0, .ref m0), (1, .int (nI p)), (2, .int (nI (by2 f pF))), (3, .int (nI f0)), (4, .int (nI k)), (6, .int (nI (f0 + k))), (7, .int (nI (f0 + j)))], [.int (nI (f0 + j)), .ref (q 29)], M1)) rfl rfl rfl ?_
            refine pr_ld (a := 29) (j := f0 + j) (y := (nI d9)) (S' := (308, [(0, .ref m0), (1, .int (nI p)), (2, .int (nI (by2 f pF))), (3, .int (nI f0)), (4, .int (nI k)), (6, .int (nI (f0 + k))), (7, .int (nI (f0 + j)))], [.int (nI d9)], M1)) rfl hR1 rfl (by omega) (fun _ => g2) rfl (fun i1_307 => ?_)
            refine ps_st (S' := (309, [(0, .ref m0), (1, .int (nI p)), (2, .int (nI (by2 f pF))), (3, .int (nI f0)), (4, .int (nI k)), (6, .int (nI (f0 + k))), (7, .int (nI (f0 + j)))], [.ref m0, .int (nI d9)], M1)) rfl rfl rfl ?_
            refine pr_ref (j := 29) (S' := (312, [(0, .ref m0), (1, .int (nI p)), (2, .int (nI (by2 f pF))), (3, .int (nI f0)), (4, .int (nI k)), (6, .int (nI (f0 + k))), (7, .int (nI (f0 + j)))], [.ref (q 29), .int (nI d9)], M1)) rfl hR1 rfl rfl ?_
            refine ps_st (S' := (314, [(0, .ref m0), (1, .int (nI p)), (2, .int (nI (by2 f pF))), (3, .int (nI f0)), (4, .int (nI k)), (6, .int (nI (f0 + k))), (7, .int (nI (f0 + j)))], [.int (nI (f0 + k)), .ref (q 29), .int (nI d9)], M1)) rfl rfl rfl ?_
            refine pr_ld (a := 29) (j := f0 + k) (y := (nI d)) (S' := (315, [(0, .ref m0), (1, .int (nI p)), (2, .int (nI (by2 f pF))), (3, .int (nI f0)), (4, .int (nI k)), (6, .int (nI (f0 + k))), (7, .int (nI (f0 + j)))], [.int (nI d), .int (nI d9)], M1)) rfl hR1 rfl (by omega) (fun _ => c291) rfl (fun i1_314 => ?_)
            refine ps_if2 (S1 := (326, [(0, .ref m0), (1, .int (nI p)), (2, .int (nI (by2 f pF))), (3, .int (nI f0)), (4, .int (nI k)), (6, .int (nI (f0 + k))), (7, .int (nI (f0 + j)))], [], M1)) (S2 := (318, [(0, .ref m0), (1, .int (nI p)), (2, .int (nI (by2 f pF))), (3, .int (nI f0)), (4, .int (nI k)), (6, .int (nI (f0 + k))), (7, .int (nI (f0 + j)))], [], M1)) rfl rfl rfl (fun c_315 => ?_) (fun c_315 => ?_)
            · have c_315 : ¬ (nI d9) = (nI d) := of_decide_eq_true c_315
              have n_315 : ¬ (d9 = d) := fun h9 => c_315 ((eq_nI (p := d9) (n := d) (by omega) (by omega)).mpr h9)
              refine ps_st (S' := (329, [(7, .int ((nI (f0 + j)) + 1)), (0, .ref m0), (1, .int (nI p)), (2, .int (nI (by2 f pF))), (3, .int (nI f0)), (4, .int (nI k)), (6, .int (nI (f0 + k)))], [], M1)) rfl rfl rfl ?_
              rw [nI_add1 (p := f0 + j) (k := 1) (x := 1) rfl (by omega)]
              show pl _ _ _ (_, [(7, .int (nI (f0 + j + 1))), (0, .ref m0), (1, .int (nI p)), (2, .int (nI (by2 f pF))), (3, .int (nI f0)), (4, .int (nI k)), (6, .int (nI (f0 + k)))], [], M1) _
              refine ps_st (S' := (277, [(0, .ref m0), (1, .int (nI p)), (2, .int (nI (by2 f pF))), (3, .int (nI f0)), (4, .int (nI k)), (6, .int (nI (f0 + k))), (7, .int (nI (f0 + j + 1)))], [], M1)) rfl rfl rfl ?_
              exact ih.2 (k) (p) (j + 1) (a) (d) M1 I1 R1 hR1 hEI1 hER1 hl51 hl52 hl53 hl58 hl55 hl25 hF1 hY1 hP1 hK1 hN91 c271 c281 c291 (hk0) (hpk) (hpe) (hs) (by omega) (hx) (hsa) (hsd) (ht1) (ht2) (h19) (h20) (h21) (by
                  rw [← hd9, smeS_st (i := j) (by omega), if_neg (by omega)])
            · have c_315 : ¬ (¬ (nI d9) = (nI d)) := of_decide_eq_false c_315
              have n_315 : d9 = d := (eq_nI (p := d9) (n := d) (by omega) (by omega)).mp (Decidable.not_not.mp c_315)
              refine ps_st (S' := (319, [(0, .ref m0), (1, .int (nI p)), (2, .int (nI (by2 f pF))), (3, .int (nI f0)), (4, .int (nI k)), (6, .int (nI (f0 + k))), (7, .int (nI (f0 + j)))], [.ref m0], M1)) rfl rfl rfl ?_
              refine ps_st (S' := (321, [(0, .ref m0), (1, .int (nI p)), (2, .int (nI (by2 f pF))), (3, .int (nI f0)), (4, .int (nI k)), (6, .int (nI (f0 + k))), (7, .int (nI (f0 + j)))], [.int 22, .ref m0], M1)) rfl rfl rfl ?_
              refine ps_st (S' := (322, [(0, .ref m0), (1, .int (nI p)), (2, .int (nI (by2 f pF))), (3, .int (nI f0)), (4, .int (nI k)), (6, .int (nI (f0 + k))), (7, .int (nI (f0 + j)))], [.int (nI p), .int 22, .ref m0], M1)) rfl rfl rfl ?_
              refine pl_call (a := [.ref m0, .int 22, .int (nI p)]) (rest := []) rfl rfl rfl (rd_wrong (x1 := 22) (x2 := (nI p)) hR1) (fun v1096 M1097 q1098 => ?_)
              obtain ⟨I1099, R1100, rfl, hR1101, hI1102, hX1103, hi1104, hi1105⟩ := q1098
              have hi1106 := (hI1102 51 (by decide)).trans hl51
              have hi1107 := (hI1102 52 (by decide)).trans hl52
              have hi1108 := (hI1102 53 (by decide)).trans hl53
              have hi1109 := (hI1102 58 (by decide)).trans hl58
              have hi1110 := (hI1102 55 (by decide)).trans hl55
              have hi1111 := (hI1102 25 (by decide)).trans hl25
              have hF_1112 := hF1.mono (cIx hI1102 (by decide)) (cRx hX1103 (by decide))
              have hY_1113 := hY1.mono (cIx hI1102 (by decide)) (cRx hX1103 (by decide))
              have hP_1114 := hP1.mono (cIx hI1102 (by decide)) (cRx hX1103 (by decide))
              have hK_1115 := hK1.mono (cIx hI1102 (by decide)) (cRx hX1103 (by decide))
              have hN9_1116 := hN91.mono (cIx hI1102 (by decide)) (cRx hX1103 (by decide))
              have c27_1117 := c271.mono (cIx hI1102 (by decide)) (cRx hX1103 (by decide))
              have c28_1118 := c281.mono (cIx hI1102 (by decide)) (cRx hX1103 (by decide))
              have c29_1119 := c291.mono (cIx hI1102 (by decide)) (cRx hX1103 (by decide))
              have hEI1120 := hEI1.tr hI1102 (by decide)
              have hER1121 := hER1.tr hX1103 (by decide)
              show pl _ _ _ (325, [(0, .ref m0), (1, .int (nI p)), (2, .int (nI (by2 f pF))), (3, .int (nI f0)), (4, .int (nI k)), (6, .int (nI (f0 + k))), (7, .int (nI (f0 + j)))], [.int 0], M1097) _
              exact ps_ret rfl rfl (Or.inr ⟨(22, p), I1099, R1100, by
                  rw [← hs, flS_st (i := k) (by omega), ← hpk, fh_22 hpk h19 h20 h21 (by rw [← hd9, smeS_st (i := j) (by omega), if_pos (by omega)]; exact fun h9 => by cases h9)], rfl, hR1101, hEI1120, hER1121, hi1104, hi1105⟩)
  refine ps_st (S' := (1, [(0, .ref m0)], [.ref m0], M)) rfl rfl rfl ?_
  refine pr_int (j := 55) (S' := (4, [(0, .ref m0)], [.int (nI pF)], M)) rfl hR rfl hi55 rfl ?_
  refine ps_st (S' := (5, [(1, .int (nI pF)), (0, .ref m0)], [], M)) rfl rfl rfl ?_
  refine ps_st (S' := (6, [(1, .int (nI pF)), (0, .ref m0)], [.ref m0], M)) rfl rfl rfl ?_
  refine ps_st (S' := (7, [(1, .int (nI pF)), (0, .ref m0)], [.int (nI pF), .ref m0], M)) rfl rfl rfl ?_
  refine pl_call (a := [.ref m0, .int (nI pF)]) (rest := []) rfl rfl rfl (rd_u2 (n := n) (f := f) (p := pF) hR hF (by omega)) (fun v1122 M1123 q1124 => ?_)
  obtain ⟨rfl, rfl⟩ := q1124
  show pl _ _ _ (10, [(1, .int (nI pF)), (0, .ref m0)], [.int (nI (by2 f pF))], M) _
  have hu_7 := by2_lt f pF
  refine ps_st (S' := (11, [(2, .int (nI (by2 f pF))), (1, .int (nI pF)), (0, .ref m0)], [], M)) rfl rfl rfl ?_
  refine ps_st (S' := (14, [(1, .int ((nI pF) + 2)), (2, .int (nI (by2 f pF))), (0, .ref m0)], [], M)) rfl rfl rfl ?_
  rw [nI_add1 (p := pF) (k := 2) (x := 2) rfl (by omega)]
  show pl _ _ _ (_, [(1, .int (nI (pF + 2))), (2, .int (nI (by2 f pF))), (0, .ref m0)], [], M) _
  refine ps_st (S' := (15, [(1, .int (nI (pF + 2))), (2, .int (nI (by2 f pF))), (0, .ref m0)], [.ref m0], M)) rfl rfl rfl ?_
  refine pr_int (j := 25) (S' := (18, [(1, .int (nI (pF + 2))), (2, .int (nI (by2 f pF))), (0, .ref m0)], [.int (nI f0)], M)) rfl hR rfl hi25 rfl ?_
  refine ps_st (S' := (19, [(3, .int (nI f0)), (1, .int (nI (pF + 2))), (2, .int (nI (by2 f pF))), (0, .ref m0)], [], M)) rfl rfl rfl ?_
  refine ps_st (S' := (20, [(3, .int (nI f0)), (1, .int (nI (pF + 2))), (2, .int (nI (by2 f pF))), (0, .ref m0)], [.int 0], M)) rfl rfl rfl ?_
  refine ps_st (S' := (22, [(0, .ref m0), (1, .int (nI (pF + 2))), (2, .int (nI (by2 f pF))), (3, .int (nI f0)), (4, .int 0)], [], M)) rfl rfl rfl ?_
  exact (LL kf).1 (0) (pF + 2) M I R hR hEI hER hi51 hi52 hi53 hi58 hi55 hi25 hF hY hP hK hFN0 (by omega) (fun h9 => (hMB.2.2.1 (by omega)).symm) (by omega) (rfl)
end
