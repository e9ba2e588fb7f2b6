section
/-! bootstraps and records as the reference checks them (laid by wip/p4/e10.py) -/

theorem fe_2 {f : Nat → Int32} {k p e : Nat} (h : e < p + 2) : ¬ s_fe f k p e = some e := by
  unfold s_fe
  rw [if_pos h]
  exact fun h9 => by cases h9
theorem fe_6 {f : Nat → Int32} {p e : Nat} (h : p + 2 ≤ e) : s_fe f 6 p e = s_bsE f e (by2 f p) (p + 2) := by
  unfold s_fe
  rw [if_neg (by omega), if_neg (by decide), if_neg (by decide), if_neg (by decide), if_pos rfl]
theorem fe_9 {f : Nat → Int32} {p e : Nat} (h : p + 2 ≤ e) : s_fe f 9 p e = s_rcE f e (by2 f p) (p + 2) := by
  unfold s_fe
  rw [if_neg (by omega), if_neg (by decide), if_neg (by decide), if_neg (by decide), if_neg (by decide), if_pos rfl]
set_option maxHeartbeats 4000000 in
theorem rd_bootstraps {g : xe_G} {m0 : Nat} {q : Nat → Nat} {z : Nat × Nat} {I : rI} {R : rR} {M : mi_H} {n : Nat} {f : Nat → Int32} {tx : List (List Nat)} {cN : Nat} {A : Nat → Nat} {N mj : Nat} {E : List (Nat × Nat)} {p0 e : Nat} (hR : RS g m0 q z I R M) (hi51 : I 51 = some 0) (hi52 : I 52 = some (nI N)) (hi53 : I 53 = some (nI mj)) (hF : FK n f I R) (hY : SYT tx cN A I R) (hP : RPV f n E tx N I R) (hEP : EP f n E) (hN : N < 65536) (hmj : mj < 65536) (he : p0 ≤ e ∧ e ≤ n) : pt (mT g) 185 [.ref m0, .int (nI p0), .int (nI e)] M (fun v M' => (∃  (I' : rI) (R' : rR), (¬ s_fe f 6 p0 e = some e) ∧ v = some (.int 30) ∧ RS g m0 q z I' R' M' ∧ eqI [70, 71] I I' ∧ eqR [] R R') ∨ (∃  (I' : rI) (R' : rR), (s_fe f 6 p0 e = some e) ∧ (bsA f E (by2 f p0) (p0 + 2) = 0) ∧ v = some (.int 38) ∧ RS g m0 q z I' R' M' ∧ eqI [70, 71] I I' ∧ eqR [] R R') ∨ (∃  (I' : rI) (R' : rR), (s_fe f 6 p0 e = some e) ∧ (¬ bsA f E (by2 f p0) (p0 + 2) = 0) ∧ v = some (.int 0) ∧ RS g m0 q z I' R' M' ∧ eqI [70, 71] I I' ∧ eqR [] R R' ∧ I' 71 = some (nI (by2 f p0)) ∧ I' 70 = some (nI p0))) := by
  refine pt_in (b := mb_185 g) rfl (fun kf => ?_)
  show pl (mT g) kf (mb_185 g).2 (0, [(0, .ref m0), (1, .int (nI p0)), (2, .int (nI e))], [], M) _
  have hEI : eqI [70, 71] I I := eqI.rf
  have hER : eqR [] R R := eqR.rf
  have hn := hF.1
  have LL : ∀ (kf : Nat), (∀ (i p : Nat) (M1 : mi_H) (I1 : rI) (R1 : rR), (RS g m0 q z I1 R1 M1) → (eqI [70, 71] I I1) → (eqR [] R R1) → (I1 51 = some 0) → (I1 52 = some (nI N)) → (I1 53 = some (nI mj)) → (FK n f I1 R1) → (SYT tx cN A I1 R1) → (RPV f n E tx N I1 R1) → (p0 + 2 ≤ e) → (i ≤ by2 f p0) → (p0 + 2 ≤ p ∧ p ≤ e) → (s_bsE f e (by2 f p0 - i) p = s_bsE f e (by2 f p0) (p0 + 2)) →  pl (mT g) kf (mb_185 g).2 (24, [(0, .ref m0), (1, .int (nI p0)), (2, .int (nI e)), (3, .int (nI (by2 f p0))), (4, .int (nI p)), (5, .int (nI i))], [], M1) (fun v M' => (∃  (I' : rI) (R' : rR), (¬ s_fe f 6 p0 e = some e) ∧ v = some (.int 30) ∧ RS g m0 q z I' R' M' ∧ eqI [70, 71] I I' ∧ eqR [] R R') ∨ (∃  (I' : rI) (R' : rR), (s_fe f 6 p0 e = some e) ∧ (bsA f E (by2 f p0) (p0 + 2) = 0) ∧ v = some (.int 38) ∧ RS g m0 q z I' R' M' ∧ eqI [70, 71] I I' ∧ eqR [] R R') ∨ (∃  (I' : rI) (R' : rR), (s_fe f 6 p0 e = some e) ∧ (¬ bsA f E (by2 f p0) (p0 + 2) = 0) ∧ v = some (.int 0) ∧ RS g m0 q z I' R' M' ∧ eqI [70, 71] I I' ∧ eqR [] R R' ∧ I' 71 = some (nI (by2 f p0)) ∧ I' 70 = some (nI p0)))) ∧ (∀ (i p : Nat) (M1 : mi_H) (I1 : rI) (R1 : rR), (RS g m0 q z I1 R1 M1) → (eqI [70, 71] I I1) → (eqR [] R R1) → (I1 51 = some 0) → (I1 52 = some (nI N)) → (I1 53 = some (nI mj)) → (FK n f I1 R1) → (SYT tx cN A I1 R1) → (RPV f n E tx N I1 R1) → (s_fe f 6 p0 e = some e) → (i ≤ by2 f p0) → (p ≤ e) → (s_bsE f e (by2 f p0 - i) p = some e) → (bsA f E (by2 f p0 - i) p = bsA f E (by2 f p0) (p0 + 2)) →  pl (mT g) kf (mb_185 g).2 (100, [(0, .ref m0), (1, .int (nI p0)), (3, .int (nI (by2 f p0))), (4, .int (nI p)), (5, .int (nI i))], [], M1) (fun v M' => (∃  (I' : rI) (R' : rR), (¬ s_fe f 6 p0 e = some e) ∧ v = some (.int 30) ∧ RS g m0 q z I' R' M' ∧ eqI [70, 71] I I' ∧ eqR [] R R') ∨ (∃  (I' : rI) (R' : rR), (s_fe f 6 p0 e = some e) ∧ (bsA f E (by2 f p0) (p0 + 2) = 0) ∧ v = some (.int 38) ∧ RS g m0 q z I' R' M' ∧ eqI [70, 71] I I' ∧ eqR [] R R') ∨ (∃  (I' : rI) (R' : rR), (s_fe f 6 p0 e = some e) ∧ (¬ bsA f E (by2 f p0) (p0 + 2) = 0) ∧ v = some (.int 0) ∧ RS g m0 q z I' R' M' ∧ eqI [70, 71] I I' ∧ eqR [] R R' ∧ I' 71 = some (nI (by2 f p0)) ∧ I' 70 = some (nI p0)))) ∧ (∀ (i p j : Nat) (M1 : mi_H) (I1 : rI) (R1 : rR), (RS g m0 q z I1 R1 M1) → (eqI [70, 71] I I1) → (eqR [] R R1) → (I1 51 = some 0) → (I1 52 = some (nI N)) → (I1 53 = some (nI mj)) → (FK n f I1 R1) → (SYT tx cN A I1 R1) → (RPV f n E tx N I1 R1) → (s_fe f 6 p0 e = some e) → (i < by2 f p0) → (j ≤ by2 f (p + 2)) → (p + 4 + 2 * by2 f (p + 2) ≤ e) → (s_bsE f e (by2 f p0 - (i + 1)) (p + 4 + 2 * by2 f (p + 2)) = some e) → (tg f E (by2 f p) = 15) → (bsA f E (by2 f p0 - i) p = bsA f E (by2 f p0) (p0 + 2)) → (ldA f E (by2 f (p + 2) - j) (p + 4 + 2 * j) = ldA f E (by2 f (p + 2)) (p + 4)) →  pl (mT g) kf (mb_185 g).2 (127, [(0, .ref m0), (1, .int (nI p0)), (3, .int (nI (by2 f p0))), (4, .int (nI p)), (5, .int (nI i)), (6, .int (nI j))], [], M1) (fun v M' => (∃  (I' : rI) (R' : rR), (¬ s_fe f 6 p0 e = some e) ∧ v = some (.int 30) ∧ RS g m0 q z I' R' M' ∧ eqI [70, 71] I I' ∧ eqR [] R R') ∨ (∃  (I' : rI) (R' : rR), (s_fe f 6 p0 e = some e) ∧ (bsA f E (by2 f p0) (p0 + 2) = 0) ∧ v = some (.int 38) ∧ RS g m0 q z I' R' M' ∧ eqI [70, 71] I I' ∧ eqR [] R R') ∨ (∃  (I' : rI) (R' : rR), (s_fe f 6 p0 e = some e) ∧ (¬ bsA f E (by2 f p0) (p0 + 2) = 0) ∧ v = some (.int 0) ∧ RS g m0 q z I' R' M' ∧ eqI [70, 71] I I' ∧ eqR [] R R' ∧ I' 71 = some (nI (by2 f p0)) ∧ I' 70 = some (nI p0)))) := by
    intro kf
    induction kf with
    | zero => exact ⟨by intros; exact pl_0, by intros; exact pl_0, by intros; exact pl_0⟩
    | succ kf ih =>
      refine ⟨?_, ?_, ?_⟩
      · skip
        intro i p M1 I1 R1 hR1 hEI1 hER1 hl51 hl52 hl53 hF1 hY1 hP1 h2 hi hp hs
        have hn := hF1.1
        have hu9 := by2_lt f p0
        refine ps_st1 (S' := (26, [(0, .ref m0), (1, .int (nI p0)), (2, .int (nI e)), (3, .int (nI (by2 f p0))), (4, .int (nI p)), (5, .int (nI i))], [.int (nI i)], M1)) rfl rfl rfl ?_
        refine ps_st (S' := (27, [(0, .ref m0), (1, .int (nI p0)), (2, .int (nI e)), (3, .int (nI (by2 f p0))), (4, .int (nI p)), (5, .int (nI i))], [.int (nI (by2 f p0)), .int (nI i)], M1)) rfl rfl rfl ?_
        refine ps_if2 (S1 := (83, [(0, .ref m0), (1, .int (nI p0)), (2, .int (nI e)), (3, .int (nI (by2 f p0))), (4, .int (nI p)), (5, .int (nI i))], [], M1)) (S2 := (30, [(0, .ref m0), (1, .int (nI p0)), (2, .int (nI e)), (3, .int (nI (by2 f p0))), (4, .int (nI p)), (5, .int (nI i))], [], M1)) rfl rfl rfl (fun c_27 => ?_) (fun c_27 => ?_)
        · have c_27 : (nI (by2 f p0)) ≤ (nI i) := of_decide_eq_true c_27
          have n_27 : by2 f p0 ≤ i := (le_nI (p := by2 f p0) (n := i) (Nat.lt_trans (by2_lt _ _) (by decide)) (by omega)).mp c_27
          refine ps_st (S' := (85, [(0, .ref m0), (1, .int (nI p0)), (2, .int (nI e)), (3, .int (nI (by2 f p0))), (4, .int (nI p)), (5, .int (nI i))], [.int (nI p)], M1)) rfl rfl rfl ?_
          refine ps_st (S' := (86, [(0, .ref m0), (1, .int (nI p0)), (2, .int (nI e)), (3, .int (nI (by2 f p0))), (4, .int (nI p)), (5, .int (nI i))], [.int (nI e), .int (nI p)], M1)) rfl rfl rfl ?_
          refine ps_if2 (S1 := (92, [(0, .ref m0), (1, .int (nI p0)), (2, .int (nI e)), (3, .int (nI (by2 f p0))), (4, .int (nI p)), (5, .int (nI i))], [], M1)) (S2 := (89, [(0, .ref m0), (1, .int (nI p0)), (2, .int (nI e)), (3, .int (nI (by2 f p0))), (4, .int (nI p)), (5, .int (nI i))], [], M1)) rfl rfl rfl (fun c_86 => ?_) (fun c_86 => ?_)
          · have c_86 : (nI p) = (nI e) := of_decide_eq_true c_86
            have n_86 : p = e := (eq_nI (p := p) (n := e) (by omega) (by omega)).mp c_86
            refine ps_st (S' := (93, [(0, .ref m0), (1, .int (nI p0)), (2, .int (nI e)), (3, .int (nI (by2 f p0))), (4, .int (nI p)), (5, .int (nI i))], [.int (nI p0)], M1)) rfl rfl rfl ?_
            refine ps_st (S' := (94, [(0, .ref m0), (1, .int (nI p0)), (2, .int (nI e)), (3, .int (nI (by2 f p0))), (4, .int (nI p)), (5, .int (nI i))], [.int 2, .int (nI p0)], M1)) rfl rfl rfl ?_
            refine ps_st (S' := (95, [(0, .ref m0), (1, .int (nI p0)), (2, .int (nI e)), (3, .int (nI (by2 f p0))), (4, .int (nI p)), (5, .int (nI i))], [.int ((nI p0) + 2)], M1)) rfl rfl rfl ?_
            rw [nI_add1 (p := p0) (k := 2) (x := 2) rfl (by omega)]
            show pl _ _ _ (_, [(0, .ref m0), (1, .int (nI p0)), (2, .int (nI e)), (3, .int (nI (by2 f p0))), (4, .int (nI p)), (5, .int (nI i))], [.int (nI (p0 + 2))], M1) _
            refine ps_st (S' := (97, [(4, .int (nI (p0 + 2))), (0, .ref m0), (1, .int (nI p0)), (2, .int (nI e)), (3, .int (nI (by2 f p0))), (5, .int (nI i))], [], M1)) rfl rfl rfl ?_
            refine ps_st (S' := (98, [(4, .int (nI (p0 + 2))), (0, .ref m0), (1, .int (nI p0)), (2, .int (nI e)), (3, .int (nI (by2 f p0))), (5, .int (nI i))], [.int 0], M1)) rfl rfl rfl ?_
            refine ps_st (S' := (100, [(0, .ref m0), (1, .int (nI p0)), (3, .int (nI (by2 f p0))), (4, .int (nI (p0 + 2))), (5, .int 0)], [], M1)) rfl rfl rfl ?_
            exact ih.2.1 (0) (p0 + 2) M1 I1 R1 hR1 hEI1 hER1 hl51 hl52 hl53 hF1 hY1 hP1 (by
                rw [fe_6 h2, ← hs, show by2 f p0 - i = 0 by omega, show p = e by omega]
                rfl) (by omega) (by omega) (by
                rw [show by2 f p0 - 0 = by2 f p0 from rfl, ← hs, show by2 f p0 - i = 0 by omega, show p = e by omega]
                rfl) (rfl)
          · have c_86 : ¬ ((nI p) = (nI e)) := of_decide_eq_false c_86
            have n_86 : ¬ (p = e) := fun h9 => c_86 ((eq_nI (p := p) (n := e) (by omega) (by omega)).mpr h9)
            refine ps_st (S' := (91, [(0, .ref m0), (1, .int (nI p0)), (2, .int (nI e)), (3, .int (nI (by2 f p0))), (4, .int (nI p)), (5, .int (nI i))], [.int 30], M1)) rfl rfl rfl ?_
            exact ps_ret rfl rfl (Or.inl ⟨I1, R1, by
                rw [fe_6 h2, ← hs]
                rw [show by2 f p0 - i = 0 by omega]
                exact fun h9 => n_86 (Option.some.inj h9), rfl, hR1, hEI1, hER1⟩)
        · have c_27 : ¬ ((nI (by2 f p0)) ≤ (nI i)) := of_decide_eq_false c_27
          have n_27 : ¬ (by2 f p0 ≤ i) := fun h9 => c_27 ((le_nI (p := by2 f p0) (n := i) (Nat.lt_trans (by2_lt _ _) (by decide)) (by omega)).mpr h9)
          refine ps_st (S' := (32, [(0, .ref m0), (1, .int (nI p0)), (2, .int (nI e)), (3, .int (nI (by2 f p0))), (4, .int (nI p)), (5, .int (nI i))], [.int (nI p)], M1)) rfl rfl rfl ?_
          refine ps_st (S' := (33, [(0, .ref m0), (1, .int (nI p0)), (2, .int (nI e)), (3, .int (nI (by2 f p0))), (4, .int (nI p)), (5, .int (nI i))], [.int 4, .int (nI p)], M1)) rfl rfl rfl ?_
          refine ps_st (S' := (34, [(0, .ref m0), (1, .int (nI p0)), (2, .int (nI e)), (3, .int (nI (by2 f p0))), (4, .int (nI p)), (5, .int (nI i))], [.int ((nI p) + 4)], M1)) rfl rfl rfl ?_
          rw [nI_add1 (p := p) (k := 4) (x := 4) rfl (by omega)]
          show pl _ _ _ (_, [(0, .ref m0), (1, .int (nI p0)), (2, .int (nI e)), (3, .int (nI (by2 f p0))), (4, .int (nI p)), (5, .int (nI i))], [.int (nI (p + 4))], M1) _
          refine ps_st (S' := (35, [(0, .ref m0), (1, .int (nI p0)), (2, .int (nI e)), (3, .int (nI (by2 f p0))), (4, .int (nI p)), (5, .int (nI i))], [.int (nI e), .int (nI (p + 4))], M1)) rfl rfl rfl ?_
          refine ps_if2 (S1 := (57, [], [], M1)) (S2 := (38, [(0, .ref m0), (1, .int (nI p0)), (2, .int (nI e)), (3, .int (nI (by2 f p0))), (4, .int (nI p)), (5, .int (nI i))], [], M1)) rfl rfl rfl (fun c_35 => ?_) (fun c_35 => ?_)
          · have c_35 : (nI e) < (nI (p + 4)) := of_decide_eq_true c_35
            have n_35 : e < p + 4 := (lt_nI (p := e) (n := p + 4) (by omega) (by omega)).mp c_35
            refine ps_st (S' := (59, [], [.int 30], M1)) rfl rfl rfl ?_
            exact ps_ret rfl rfl (Or.inl ⟨I1, R1, by
                rw [fe_6 h2, ← hs]
                rw [s_bsE_st (i := i) (p := p) (by omega), if_pos (by omega)]
                exact (fun h9 => (by cases h9)), rfl, hR1, hEI1, hER1⟩)
          · have c_35 : ¬ ((nI e) < (nI (p + 4))) := of_decide_eq_false c_35
            have n_35 : ¬ (e < p + 4) := fun h9 => c_35 ((lt_nI (p := e) (n := p + 4) (by omega) (by omega)).mpr h9)
            refine ps_st (S' := (40, [(0, .ref m0), (1, .int (nI p0)), (2, .int (nI e)), (3, .int (nI (by2 f p0))), (4, .int (nI p)), (5, .int (nI i))], [.int (nI p)], M1)) rfl rfl rfl ?_
            refine ps_st (S' := (41, [(0, .ref m0), (1, .int (nI p0)), (2, .int (nI e)), (3, .int (nI (by2 f p0))), (4, .int (nI p)), (5, .int (nI i))], [.int 4, .int (nI p)], M1)) rfl rfl rfl ?_
            refine ps_st (S' := (42, [(0, .ref m0), (1, .int (nI p0)), (2, .int (nI e)), (3, .int (nI (by2 f p0))), (4, .int (nI p)), (5, .int (nI i))], [.int ((nI p) + 4)], M1)) rfl rfl rfl ?_
            rw [nI_add1 (p := p) (k := 4) (x := 4) rfl (by omega)]
            show pl _ _ _ (_, [(0, .ref m0), (1, .int (nI p0)), (2, .int (nI e)), (3, .int (nI (by2 f p0))), (4, .int (nI p)), (5, .int (nI i))], [.int (nI (p + 4))], M1) _
            refine ps_st (S' := (43, [(0, .ref m0), (1, .int (nI p0)), (2, .int (nI e)), (3, .int (nI (by2 f p0))), (4, .int (nI p)), (5, .int (nI i))], [.int 2, .int (nI (p + 4))], M1)) rfl rfl rfl ?_
            refine ps_st (S' := (44, [(0, .ref m0), (1, .int (nI p0)), (2, .int (nI e)), (3, .int (nI (by2 f p0))), (4, .int (nI p)), (5, .int (nI i))], [.ref m0, .int 2, .int (nI (p + 4))], M1)) rfl rfl rfl ?_
            refine ps_st (S' := (46, [(0, .ref m0), (1, .int (nI p0)), (2, .int (nI e)), (3, .int (nI (by2 f p0))), (4, .int (nI p)), (5, .int (nI i))], [.int (nI p), .ref m0, .int 2, .int (nI (p + 4))], M1)) rfl rfl rfl ?_
            refine ps_st (S' := (47, [(0, .ref m0), (1, .int (nI p0)), (2, .int (nI e)), (3, .int (nI (by2 f p0))), (4, .int (nI p)), (5, .int (nI i))], [.int 2, .int (nI p), .ref m0, .int 2, .int (nI (p + 4))], M1)) rfl rfl rfl ?_
            refine ps_st (S' := (48, [(0, .ref m0), (1, .int (nI p0)), (2, .int (nI e)), (3, .int (nI (by2 f p0))), (4, .int (nI p)), (5, .int (nI i))], [.int ((nI p) + 2), .ref m0, .int 2, .int (nI (p + 4))], M1)) rfl rfl rfl ?_
            rw [nI_add1 (p := p) (k := 2) (x := 2) rfl (by omega)]
            show pl _ _ _ (_, [(0, .ref m0), (1, .int (nI p0)), (2, .int (nI e)), (3, .int (nI (by2 f p0))), (4, .int (nI p)), (5, .int (nI i))], [.int (nI (p + 2)), .ref m0, .int 2, .int (nI (p + 4))], M1) _
            refine pl_call (a := [.ref m0, .int (nI (p + 2))]) (rest := [.int 2, .int (nI (p + 4))]) rfl rfl rfl (rd_u2 (n := n) (f := f) (p := (p + 2)) hR1 hF1 (by omega)) (fun v1 M2 q3 => ?_)
            obtain ⟨rfl, rfl⟩ := q3
            show pl _ _ _ (51, [(0, .ref m0), (1, .int (nI p0)), (2, .int (nI e)), (3, .int (nI (by2 f p0))), (4, .int (nI p)), (5, .int (nI i))], [.int (nI (by2 f (p + 2))), .int 2, .int (nI (p + 4))], M1) _
            have hu_48 := by2_lt f (p + 2)
            refine ps_st (S' := (52, [(0, .ref m0), (1, .int (nI p0)), (2, .int (nI e)), (3, .int (nI (by2 f p0))), (4, .int (nI p)), (5, .int (nI i))], [.int (2 * (nI (by2 f (p + 2)))), .int (nI (p + 4))], M1)) rfl rfl rfl ?_
            rw [nI_mul1 (p := 2) (k := by2 f (p + 2)) (x := 2) (y := (nI (by2 f (p + 2)))) rfl rfl (by omega)]
            show pl _ _ _ (_, [(0, .ref m0), (1, .int (nI p0)), (2, .int (nI e)), (3, .int (nI (by2 f p0))), (4, .int (nI p)), (5, .int (nI i))], [.int (nI (2 * (by2 f (p + 2)))), .int (nI (p + 4))], M1) _
            refine ps_st (S' := (53, [(0, .ref m0), (1, .int (nI p0)), (2, .int (nI e)), (3, .int (nI (by2 f p0))), (4, .int (nI p)), (5, .int (nI i))], [.int ((nI (p + 4)) + (nI (2 * (by2 f (p + 2)))))], M1)) rfl rfl rfl ?_
            rw [nI_add1 (p := p + 4) (k := 2 * (by2 f (p + 2))) (x := (nI (2 * (by2 f (p + 2))))) rfl (by omega)]
            show pl _ _ _ (_, [(0, .ref m0), (1, .int (nI p0)), (2, .int (nI e)), (3, .int (nI (by2 f p0))), (4, .int (nI p)), (5, .int (nI i))], [.int (nI (p + 4 + 2 * (by2 f (p + 2))))], M1) _
            refine ps_st (S' := (54, [(0, .ref m0), (1, .int (nI p0)), (2, .int (nI e)), (3, .int (nI (by2 f p0))), (4, .int (nI p)), (5, .int (nI i))], [.int (nI e), .int (nI (p + 4 + 2 * (by2 f (p + 2))))], M1)) rfl rfl rfl ?_
            refine ps_if2 (S1 := (60, [(0, .ref m0), (1, .int (nI p0)), (2, .int (nI e)), (3, .int (nI (by2 f p0))), (4, .int (nI p)), (5, .int (nI i))], [], M1)) (S2 := (57, [], [], M1)) rfl rfl rfl (fun c_54 => ?_) (fun c_54 => ?_)
            · have c_54 : (nI (p + 4 + 2 * (by2 f (p + 2)))) ≤ (nI e) := of_decide_eq_true c_54
              have n_54 : p + 4 + 2 * (by2 f (p + 2)) ≤ e := (le_nI (p := p + 4 + 2 * (by2 f (p + 2))) (n := e) (by omega) (by omega)).mp c_54
              refine ps_st (S' := (62, [(0, .ref m0), (1, .int (nI p0)), (2, .int (nI e)), (3, .int (nI (by2 f p0))), (4, .int (nI p)), (5, .int (nI i))], [.int (nI p)], M1)) rfl rfl rfl ?_
              refine ps_st (S' := (63, [(0, .ref m0), (1, .int (nI p0)), (2, .int (nI e)), (3, .int (nI (by2 f p0))), (4, .int (nI p)), (5, .int (nI i))], [.int 4, .int (nI p)], M1)) rfl rfl rfl ?_
              refine ps_st (S' := (64, [(0, .ref m0), (1, .int (nI p0)), (2, .int (nI e)), (3, .int (nI (by2 f p0))), (4, .int (nI p)), (5, .int (nI i))], [.int 2, .int 4, .int (nI p)], M1)) rfl rfl rfl ?_
              refine ps_st (S' := (65, [(0, .ref m0), (1, .int (nI p0)), (2, .int (nI e)), (3, .int (nI (by2 f p0))), (4, .int (nI p)), (5, .int (nI i))], [.ref m0, .int 2, .int 4, .int (nI p)], M1)) rfl rfl rfl ?_
              refine ps_st (S' := (67, [(0, .ref m0), (1, .int (nI p0)), (2, .int (nI e)), (3, .int (nI (by2 f p0))), (4, .int (nI p)), (5, .int (nI i))], [.int (nI p), .ref m0, .int 2, .int 4, .int (nI p)], M1)) rfl rfl rfl ?_
              refine ps_st (S' := (68, [(0, .ref m0), (1, .int (nI p0)), (2, .int (nI e)), (3, .int (nI (by2 f p0))), (4, .int (nI p)), (5, .int (nI i))], [.int 2, .int (nI p), .ref m0, .int 2, .int 4, .int (nI p)], M1)) rfl rfl rfl ?_
              refine ps_st (S' := (69, [(0, .ref m0), (1, .int (nI p0)), (2, .int (nI e)), (3, .int (nI (by2 f p0))), (4, .int (nI p)), (5, .int (nI i))], [.int ((nI p) + 2), .ref m0, .int 2, .int 4, .int (nI p)], M1)) rfl rfl rfl ?_
              rw [nI_add1 (p := p) (k := 2) (x := 2) rfl (by omega)]
              show pl _ _ _ (_, [(0, .ref m0), (1, .int (nI p0)), (2, .int (nI e)), (3, .int (nI (by2 f p0))), (4, .int (nI p)), (5, .int (nI i))], [.int (nI (p + 2)), .ref m0, .int 2, .int 4, .int (nI p)], M1) _
              refine pl_call (a := [.ref m0, .int (nI (p + 2))]) (rest := [.int 2, .int 4, .int (nI p)]) rfl rfl rfl (rd_u2 (n := n) (f := f) (p := (p + 2)) hR1 hF1 (by omega)) (fun v4 M5 q6 => ?_)
              obtain ⟨rfl, rfl⟩ := q6
              show pl _ _ _ (72, [(0, .ref m0), (1, .int (nI p0)), (2, .int (nI e)), (3, .int (nI (by2 f p0))), (4, .int (nI p)), (5, .int (nI i))], [.int (nI (by2 f (p + 2))), .int 2, .int 4, .int (nI p)], M1) _
              have hu_69 := by2_lt f (p + 2)
              refine ps_st (S' := (73, [(0, .ref m0), (1, .int (nI p0)), (2, .int (nI e)), (3, .int (nI (by2 f p0))), (4, .int (nI p)), (5, .int (nI i))], [.int (2 * (nI (by2 f (p + 2)))), .int 4, .int (nI p)], M1)) rfl rfl rfl ?_
              rw [nI_mul1 (p := 2) (k := by2 f (p + 2)) (x := 2) (y := (nI (by2 f (p + 2)))) rfl rfl (by omega)]
              show pl _ _ _ (_, [(0, .ref m0), (1, .int (nI p0)), (2, .int (nI e)), (3, .int (nI (by2 f p0))), (4, .int (nI p)), (5, .int (nI i))], [.int (nI (2 * (by2 f (p + 2)))), .int 4, .int (nI p)], M1) _
              refine ps_st (S' := (74, [(0, .ref m0), (1, .int (nI p0)), (2, .int (nI e)), (3, .int (nI (by2 f p0))), (4, .int (nI p)), (5, .int (nI i))], [.int (4 + (nI (2 * (by2 f (p + 2))))), .int (nI p)], M1)) rfl rfl rfl ?_
              rw [nI_add2 (p := 4) (k := 2 * (by2 f (p + 2))) (x := 4) (y := (nI (2 * (by2 f (p + 2))))) rfl rfl (by omega)]
              show pl _ _ _ (_, [(0, .ref m0), (1, .int (nI p0)), (2, .int (nI e)), (3, .int (nI (by2 f p0))), (4, .int (nI p)), (5, .int (nI i))], [.int (nI (4 + 2 * (by2 f (p + 2)))), .int (nI p)], M1) _
              refine ps_st (S' := (75, [(0, .ref m0), (1, .int (nI p0)), (2, .int (nI e)), (3, .int (nI (by2 f p0))), (4, .int (nI p)), (5, .int (nI i))], [.int ((nI p) + (nI (4 + 2 * (by2 f (p + 2)))))], M1)) rfl rfl rfl ?_
              rw [nI_add1 (p := p) (k := 4 + 2 * (by2 f (p + 2))) (x := (nI (4 + 2 * (by2 f (p + 2))))) rfl (by omega)]
              rw [show nI (p + (4 + 2 * (by2 f (p + 2)))) = nI (p + 4 + 2 * (by2 f (p + 2))) from congrArg nI (by omega)]
              show pl _ _ _ (_, [(0, .ref m0), (1, .int (nI p0)), (2, .int (nI e)), (3, .int (nI (by2 f p0))), (4, .int (nI p)), (5, .int (nI i))], [.int (nI (p + 4 + 2 * (by2 f (p + 2))))], M1) _
              refine ps_st (S' := (77, [(4, .int (nI (p + 4 + 2 * (by2 f (p + 2))))), (0, .ref m0), (1, .int (nI p0)), (2, .int (nI e)), (3, .int (nI (by2 f p0))), (5, .int (nI i))], [], M1)) rfl rfl rfl ?_
              refine ps_st (S' := (80, [(5, .int ((nI i) + 1)), (4, .int (nI (p + 4 + 2 * (by2 f (p + 2))))), (0, .ref m0), (1, .int (nI p0)), (2, .int (nI e)), (3, .int (nI (by2 f p0)))], [], M1)) rfl rfl rfl ?_
              rw [nI_add1 (p := i) (k := 1) (x := 1) rfl (by omega)]
              show pl _ _ _ (_, [(5, .int (nI (i + 1))), (4, .int (nI (p + 4 + 2 * (by2 f (p + 2))))), (0, .ref m0), (1, .int (nI p0)), (2, .int (nI e)), (3, .int (nI (by2 f p0)))], [], M1) _
              refine ps_st (S' := (24, [(0, .ref m0), (1, .int (nI p0)), (2, .int (nI e)), (3, .int (nI (by2 f p0))), (4, .int (nI (p + 4 + 2 * (by2 f (p + 2))))), (5, .int (nI (i + 1)))], [], M1)) rfl rfl rfl ?_
              exact ih.1 (i + 1) (p + 4 + 2 * by2 f (p + 2)) M1 I1 R1 hR1 hEI1 hER1 hl51 hl52 hl53 hF1 hY1 hP1 (h2) (by omega) (by omega) (by
                  rw [← hs, s_bsE_st (i := i) (p := p) (by omega), if_neg (by omega)])
            · have c_54 : ¬ ((nI (p + 4 + 2 * (by2 f (p + 2)))) ≤ (nI e)) := of_decide_eq_false c_54
              have n_54 : ¬ (p + 4 + 2 * (by2 f (p + 2)) ≤ e) := fun h9 => c_54 ((le_nI (p := p + 4 + 2 * (by2 f (p + 2))) (n := e) (by omega) (by omega)).mpr h9)
              refine ps_st (S' := (59, [], [.int 30], M1)) rfl rfl rfl ?_
              exact ps_ret rfl rfl (Or.inl ⟨I1, R1, by
                  rw [fe_6 h2, ← hs]
                  rw [s_bsE_st (i := i) (p := p) (by omega), if_neg (by omega)]
                  exact (fun h9 => (by have := s_bsE_le h9; omega)), rfl, hR1, hEI1, hER1⟩)
      · skip
        intro i p M1 I1 R1 hR1 hEI1 hER1 hl51 hl52 hl53 hF1 hY1 hP1 hfe hi hp hf hs
        have hn := hF1.1
        have hu9 := by2_lt f p0
        refine ps_st1 (S' := (102, [(0, .ref m0), (1, .int (nI p0)), (3, .int (nI (by2 f p0))), (4, .int (nI p)), (5, .int (nI i))], [.int (nI i)], M1)) rfl rfl rfl ?_
        refine ps_st (S' := (103, [(0, .ref m0), (1, .int (nI p0)), (3, .int (nI (by2 f p0))), (4, .int (nI p)), (5, .int (nI i))], [.int (nI (by2 f p0)), .int (nI i)], M1)) rfl rfl rfl ?_
        refine ps_if2 (S1 := (218, [(0, .ref m0), (1, .int (nI p0)), (3, .int (nI (by2 f p0))), (4, .int (nI p)), (5, .int (nI i))], [], M1)) (S2 := (106, [(0, .ref m0), (1, .int (nI p0)), (3, .int (nI (by2 f p0))), (4, .int (nI p)), (5, .int (nI i))], [], M1)) rfl rfl rfl (fun c_103 => ?_) (fun c_103 => ?_)
        · have c_103 : (nI (by2 f p0)) ≤ (nI i) := of_decide_eq_true c_103
          have n_103 : by2 f p0 ≤ i := (le_nI (p := by2 f p0) (n := i) (Nat.lt_trans (by2_lt _ _) (by decide)) (by omega)).mp c_103
          refine ps_st (S' := (219, [(0, .ref m0), (1, .int (nI p0)), (3, .int (nI (by2 f p0))), (4, .int (nI p)), (5, .int (nI i))], [.ref m0], M1)) rfl rfl rfl ?_
          refine ps_st (S' := (220, [(0, .ref m0), (1, .int (nI p0)), (3, .int (nI (by2 f p0))), (4, .int (nI p)), (5, .int (nI i))], [.int (nI p0), .ref m0], M1)) rfl rfl rfl ?_
          refine pr_put (j := 70) rfl hR1 rfl (fun M7 I8 hR9 hi10 hI11 => ?_)
          have hi12 := (hI11 51 (by decide)).trans hl51
          have hi13 := (hI11 52 (by decide)).trans hl52
          have hi14 := (hI11 53 (by decide)).trans hl53
          have hF_15 := hF1.mono (pIx hI11 (by decide)) (fun _ _ => rfl)
          have hY_16 := hY1.mono (pIx hI11 (by decide)) (fun _ _ => rfl)
          have hP_17 := hP1.mono (pIx hI11 (by decide)) (fun _ _ => rfl)
          have hEI18 := hEI1.put hI11 (by decide)
          show pl _ _ _ (223, [(0, .ref m0), (1, .int (nI p0)), (3, .int (nI (by2 f p0))), (4, .int (nI p)), (5, .int (nI i))], [], M7) _
          refine ps_st (S' := (224, [(0, .ref m0), (1, .int (nI p0)), (3, .int (nI (by2 f p0))), (4, .int (nI p)), (5, .int (nI i))], [.ref m0], M7)) rfl rfl rfl ?_
          refine ps_st (S' := (225, [(0, .ref m0), (1, .int (nI p0)), (3, .int (nI (by2 f p0))), (4, .int (nI p)), (5, .int (nI i))], [.int (nI (by2 f p0)), .ref m0], M7)) rfl rfl rfl ?_
          refine pr_put (j := 71) rfl hR9 rfl (fun M19 I20 hR21 hi22 hI23 => ?_)
          have hi24 := (hI23 51 (by decide)).trans hi12
          have hi25 := (hI23 52 (by decide)).trans hi13
          have hi26 := (hI23 53 (by decide)).trans hi14
          have hi27 := (hI23 70 (by decide)).trans hi10
          have hF_28 := hF_15.mono (pIx hI23 (by decide)) (fun _ _ => rfl)
          have hY_29 := hY_16.mono (pIx hI23 (by decide)) (fun _ _ => rfl)
          have hP_30 := hP_17.mono (pIx hI23 (by decide)) (fun _ _ => rfl)
          have hEI31 := hEI18.put hI23 (by decide)
          show pl _ _ _ (228, [(0, .ref m0), (1, .int (nI p0)), (3, .int (nI (by2 f p0))), (4, .int (nI p)), (5, .int (nI i))], [], M19) _
          refine ps_st (S' := (229, [(0, .ref m0), (1, .int (nI p0)), (3, .int (nI (by2 f p0))), (4, .int (nI p)), (5, .int (nI i))], [.int 0], M19)) rfl rfl rfl ?_
          exact ps_ret rfl rfl (Or.inr (Or.inr ⟨I20, R1, hfe, by
              rw [← hs, show by2 f p0 - i = 0 by omega]
              exact Nat.one_ne_zero, rfl, hR21, hEI31, hER1, hi22, hi27⟩))
        · have c_103 : ¬ ((nI (by2 f p0)) ≤ (nI i)) := of_decide_eq_false c_103
          have n_103 : ¬ (by2 f p0 ≤ i) := fun h9 => c_103 ((le_nI (p := by2 f p0) (n := i) (Nat.lt_trans (by2_lt _ _) (by decide)) (by omega)).mpr h9)
          have hq8 := s_bsE_in (i := i) (p := p) hf (by omega)
          refine ps_st (S' := (107, [(0, .ref m0), (1, .int (nI p0)), (3, .int (nI (by2 f p0))), (4, .int (nI p)), (5, .int (nI i))], [.ref m0], M1)) rfl rfl rfl ?_
          refine ps_st (S' := (108, [(0, .ref m0), (1, .int (nI p0)), (3, .int (nI (by2 f p0))), (4, .int (nI p)), (5, .int (nI i))], [.ref m0, .ref m0], M1)) rfl rfl rfl ?_
          refine ps_st (S' := (110, [(0, .ref m0), (1, .int (nI p0)), (3, .int (nI (by2 f p0))), (4, .int (nI p)), (5, .int (nI i))], [.int (nI p), .ref m0, .ref m0], M1)) rfl rfl rfl ?_
          refine pl_call (a := [.ref m0, .int (nI p)]) (rest := [.ref m0]) rfl rfl rfl (rd_u2 (n := n) (f := f) (p := p) hR1 hF1 (by omega)) (fun v32 M33 q34 => ?_)
          obtain ⟨rfl, rfl⟩ := q34
          show pl _ _ _ (113, [(0, .ref m0), (1, .int (nI p0)), (3, .int (nI (by2 f p0))), (4, .int (nI p)), (5, .int (nI i))], [.int (nI (by2 f p)), .ref m0], M1) _
          have hu_110 := by2_lt f p
          refine pl_call (a := [.ref m0, .int (nI (by2 f p))]) (rest := []) rfl rfl rfl (rd_tag (n := n) (f := f) (tx := tx) (cN := cN) (A := A) (N := N) (mj := mj) (E := E) (k := (by2 f p)) hR1 hl51 hl52 hl53 hF1 hY1 hP1 (hEP) (hN) (hmj) (by2_lt _ _)) (fun v35 M36 q37 => ?_)
          obtain ⟨rfl, rfl⟩ := q37
          show pl _ _ _ (116, [(0, .ref m0), (1, .int (nI p0)), (3, .int (nI (by2 f p0))), (4, .int (nI p)), (5, .int (nI i))], [.int (nI (tg f E (by2 f p)))], M1) _
          have htg_113 := tg_lt f E (by2 f p)
          refine ps_st (S' := (118, [(0, .ref m0), (1, .int (nI p0)), (3, .int (nI (by2 f p0))), (4, .int (nI p)), (5, .int (nI i))], [.int 15, .int (nI (tg f E (by2 f p)))], M1)) rfl rfl rfl ?_
          refine ps_if2 (S1 := (124, [(0, .ref m0), (1, .int (nI p0)), (3, .int (nI (by2 f p0))), (4, .int (nI p)), (5, .int (nI i))], [], M1)) (S2 := (121, [(0, .ref m0), (1, .int (nI p0)), (3, .int (nI (by2 f p0))), (4, .int (nI p)), (5, .int (nI i))], [], M1)) rfl rfl rfl (fun c_118 => ?_) (fun c_118 => ?_)
          · have c_118 : (nI (tg f E (by2 f p))) = 15 := of_decide_eq_true c_118
            have n_118 : tg f E (by2 f p) = 15 := (eq_nI (p := tg f E (by2 f p)) (n := 15) (Nat.lt_trans (tg_lt _ _ _) (by decide)) (by decide)).mp c_118
            refine ps_st (S' := (125, [(0, .ref m0), (1, .int (nI p0)), (3, .int (nI (by2 f p0))), (4, .int (nI p)), (5, .int (nI i))], [.int 0], M1)) rfl rfl rfl ?_
            refine ps_st (S' := (127, [(0, .ref m0), (1, .int (nI p0)), (3, .int (nI (by2 f p0))), (4, .int (nI p)), (5, .int (nI i)), (6, .int 0)], [], M1)) rfl rfl rfl ?_
            exact ih.2.2 (i) (p) (0) M1 I1 R1 hR1 hEI1 hER1 hl51 hl52 hl53 hF1 hY1 hP1 (hfe) (by omega) (by omega) (hq8.2.1) (hq8.2.2) (by omega) (hs) (rfl)
          · have c_118 : ¬ ((nI (tg f E (by2 f p))) = 15) := of_decide_eq_false c_118
            have n_118 : ¬ (tg f E (by2 f p) = 15) := fun h9 => c_118 ((eq_nI (p := tg f E (by2 f p)) (n := 15) (Nat.lt_trans (tg_lt _ _ _) (by decide)) (by decide)).mpr h9)
            refine ps_st (S' := (123, [(0, .ref m0), (1, .int (nI p0)), (3, .int (nI (by2 f p0))), (4, .int (nI p)), (5, .int (nI i))], [.int 38], M1)) rfl rfl rfl ?_
            exact ps_ret rfl rfl (Or.inr (Or.inl ⟨I1, R1, hfe, by
                rw [← hs, bsA_st (i := i) (p := p) (by omega), if_pos (by omega)], rfl, hR1, hEI1, hER1⟩))
      · skip
        intro i p j M1 I1 R1 hR1 hEI1 hER1 hl51 hl52 hl53 hF1 hY1 hP1 hfe hi hj hle hf2 h15 hs hd
        have hn := hF1.1
        have hu9 := by2_lt f p0
        have hu8 := by2_lt f (p + 2)
        refine ps_st1 (S' := (129, [(0, .ref m0), (1, .int (nI p0)), (3, .int (nI (by2 f p0))), (4, .int (nI p)), (5, .int (nI i)), (6, .int (nI j))], [.int (nI j)], M1)) rfl rfl rfl ?_
        refine ps_st (S' := (130, [(0, .ref m0), (1, .int (nI p0)), (3, .int (nI (by2 f p0))), (4, .int (nI p)), (5, .int (nI i)), (6, .int (nI j))], [.ref m0, .int (nI j)], M1)) rfl rfl rfl ?_
        refine ps_st (S' := (132, [(0, .ref m0), (1, .int (nI p0)), (3, .int (nI (by2 f p0))), (4, .int (nI p)), (5, .int (nI i)), (6, .int (nI j))], [.int (nI p), .ref m0, .int (nI j)], M1)) rfl rfl rfl ?_
        refine ps_st (S' := (133, [(0, .ref m0), (1, .int (nI p0)), (3, .int (nI (by2 f p0))), (4, .int (nI p)), (5, .int (nI i)), (6, .int (nI j))], [.int 2, .int (nI p), .ref m0, .int (nI j)], M1)) rfl rfl rfl ?_
        refine ps_st (S' := (134, [(0, .ref m0), (1, .int (nI p0)), (3, .int (nI (by2 f p0))), (4, .int (nI p)), (5, .int (nI i)), (6, .int (nI j))], [.int ((nI p) + 2), .ref m0, .int (nI j)], M1)) rfl rfl rfl ?_
        rw [nI_add1 (p := p) (k := 2) (x := 2) rfl (by omega)]
        show pl _ _ _ (_, [(0, .ref m0), (1, .int (nI p0)), (3, .int (nI (by2 f p0))), (4, .int (nI p)), (5, .int (nI i)), (6, .int (nI j))], [.int (nI (p + 2)), .ref m0, .int (nI j)], M1) _
        refine pl_call (a := [.ref m0, .int (nI (p + 2))]) (rest := [.int (nI j)]) rfl rfl rfl (rd_u2 (n := n) (f := f) (p := (p + 2)) hR1 hF1 (by omega)) (fun v38 M39 q40 => ?_)
        obtain ⟨rfl, rfl⟩ := q40
        show pl _ _ _ (137, [(0, .ref m0), (1, .int (nI p0)), (3, .int (nI (by2 f p0))), (4, .int (nI p)), (5, .int (nI i)), (6, .int (nI j))], [.int (nI (by2 f (p + 2))), .int (nI j)], M1) _
        have hu_134 := by2_lt f (p + 2)
        refine ps_if2 (S1 := (195, [(0, .ref m0), (1, .int (nI p0)), (3, .int (nI (by2 f p0))), (4, .int (nI p)), (5, .int (nI i)), (6, .int (nI j))], [], M1)) (S2 := (140, [(0, .ref m0), (1, .int (nI p0)), (3, .int (nI (by2 f p0))), (4, .int (nI p)), (5, .int (nI i)), (6, .int (nI j))], [], M1)) rfl rfl rfl (fun c_137 => ?_) (fun c_137 => ?_)
        · have c_137 : (nI (by2 f (p + 2))) ≤ (nI j) := of_decide_eq_true c_137
          have n_137 : by2 f (p + 2) ≤ j := (le_nI (p := by2 f (p + 2)) (n := j) (Nat.lt_trans (by2_lt _ _) (by decide)) (by omega)).mp c_137
          refine ps_st (S' := (197, [(0, .ref m0), (1, .int (nI p0)), (3, .int (nI (by2 f p0))), (4, .int (nI p)), (5, .int (nI i)), (6, .int (nI j))], [.int (nI p)], M1)) rfl rfl rfl ?_
          refine ps_st (S' := (198, [(0, .ref m0), (1, .int (nI p0)), (3, .int (nI (by2 f p0))), (4, .int (nI p)), (5, .int (nI i)), (6, .int (nI j))], [.int 4, .int (nI p)], M1)) rfl rfl rfl ?_
          refine ps_st (S' := (199, [(0, .ref m0), (1, .int (nI p0)), (3, .int (nI (by2 f p0))), (4, .int (nI p)), (5, .int (nI i)), (6, .int (nI j))], [.int 2, .int 4, .int (nI p)], M1)) rfl rfl rfl ?_
          refine ps_st (S' := (200, [(0, .ref m0), (1, .int (nI p0)), (3, .int (nI (by2 f p0))), (4, .int (nI p)), (5, .int (nI i)), (6, .int (nI j))], [.ref m0, .int 2, .int 4, .int (nI p)], M1)) rfl rfl rfl ?_
          refine ps_st (S' := (202, [(0, .ref m0), (1, .int (nI p0)), (3, .int (nI (by2 f p0))), (4, .int (nI p)), (5, .int (nI i)), (6, .int (nI j))], [.int (nI p), .ref m0, .int 2, .int 4, .int (nI p)], M1)) rfl rfl rfl ?_
          refine ps_st (S' := (203, [(0, .ref m0), (1, .int (nI p0)), (3, .int (nI (by2 f p0))), (4, .int (nI p)), (5, .int (nI i)), (6, .int (nI j))], [.int 2, .int (nI p), .ref m0, .int 2, .int 4, .int (nI p)], M1)) rfl rfl rfl ?_
          refine ps_st (S' := (204, [(0, .ref m0), (1, .int (nI p0)), (3, .int (nI (by2 f p0))), (4, .int (nI p)), (5, .int (nI i)), (6, .int (nI j))], [.int ((nI p) + 2), .ref m0, .int 2, .int 4, .int (nI p)], M1)) rfl rfl rfl ?_
          rw [nI_add1 (p := p) (k := 2) (x := 2) rfl (by omega)]
          show pl _ _ _ (_, [(0, .ref m0), (1, .int (nI p0)), (3, .int (nI (by2 f p0))), (4, .int (nI p)), (5, .int (nI i)), (6, .int (nI j))], [.int (nI (p + 2)), .ref m0, .int 2, .int 4, .int (nI p)], M1) _
          refine pl_call (a := [.ref m0, .int (nI (p + 2))]) (rest := [.int 2, .int 4, .int (nI p)]) rfl rfl rfl (rd_u2 (n := n) (f := f) (p := (p + 2)) hR1 hF1 (by omega)) (fun v41 M42 q43 => ?_)
          obtain ⟨rfl, rfl⟩ := q43
          show pl _ _ _ (207, [(0, .ref m0), (1, .int (nI p0)), (3, .int (nI (by2 f p0))), (4, .int (nI p)), (5, .int (nI i)), (6, .int (nI j))], [.int (nI (by2 f (p + 2))), .int 2, .int 4, .int (nI p)], M1) _
          have hu_204 := by2_lt f (p + 2)
          refine ps_st (S' := (208, [(0, .ref m0), (1, .int (nI p0)), (3, .int (nI (by2 f p0))), (4, .int (nI p)), (5, .int (nI i)), (6, .int (nI j))], [.int (2 * (nI (by2 f (p + 2)))), .int 4, .int (nI p)], M1)) rfl rfl rfl ?_
          rw [nI_mul1 (p := 2) (k := by2 f (p + 2)) (x := 2) (y := (nI (by2 f (p + 2)))) rfl rfl (by omega)]
          show pl _ _ _ (_, [(0, .ref m0), (1, .int (nI p0)), (3, .int (nI (by2 f p0))), (4, .int (nI p)), (5, .int (nI i)), (6, .int (nI j))], [.int (nI (2 * (by2 f (p + 2)))), .int 4, .int (nI p)], M1) _
          refine ps_st (S' := (209, [(0, .ref m0), (1, .int (nI p0)), (3, .int (nI (by2 f p0))), (4, .int (nI p)), (5, .int (nI i)), (6, .int (nI j))], [.int (4 + (nI (2 * (by2 f (p + 2))))), .int (nI p)], M1)) rfl rfl rfl ?_
          rw [nI_add2 (p := 4) (k := 2 * (by2 f (p + 2))) (x := 4) (y := (nI (2 * (by2 f (p + 2))))) rfl rfl (by omega)]
          show pl _ _ _ (_, [(0, .ref m0), (1, .int (nI p0)), (3, .int (nI (by2 f p0))), (4, .int (nI p)), (5, .int (nI i)), (6, .int (nI j))], [.int (nI (4 + 2 * (by2 f (p + 2)))), .int (nI p)], M1) _
          refine ps_st (S' := (210, [(0, .ref m0), (1, .int (nI p0)), (3, .int (nI (by2 f p0))), (4, .int (nI p)), (5, .int (nI i)), (6, .int (nI j))], [.int ((nI p) + (nI (4 + 2 * (by2 f (p + 2)))))], M1)) rfl rfl rfl ?_
          rw [nI_add1 (p := p) (k := 4 + 2 * (by2 f (p + 2))) (x := (nI (4 + 2 * (by2 f (p + 2))))) rfl (by omega)]
          rw [show nI (p + (4 + 2 * (by2 f (p + 2)))) = nI (p + 4 + 2 * (by2 f (p + 2))) from congrArg nI (by omega)]
          show pl _ _ _ (_, [(0, .ref m0), (1, .int (nI p0)), (3, .int (nI (by2 f p0))), (4, .int (nI p)), (5, .int (nI i)), (6, .int (nI j))], [.int (nI (p + 4 + 2 * (by2 f (p + 2))))], M1) _
          refine ps_st (S' := (212, [(4, .int (nI (p + 4 + 2 * (by2 f (p + 2))))), (0, .ref m0), (1, .int (nI p0)), (3, .int (nI (by2 f p0))), (5, .int (nI i)), (6, .int (nI j))], [], M1)) rfl rfl rfl ?_
          refine ps_st (S' := (215, [(5, .int ((nI i) + 1)), (4, .int (nI (p + 4 + 2 * (by2 f (p + 2))))), (0, .ref m0), (1, .int (nI p0)), (3, .int (nI (by2 f p0))), (6, .int (nI j))], [], M1)) rfl rfl rfl ?_
          rw [nI_add1 (p := i) (k := 1) (x := 1) rfl (by omega)]
          show pl _ _ _ (_, [(5, .int (nI (i + 1))), (4, .int (nI (p + 4 + 2 * (by2 f (p + 2))))), (0, .ref m0), (1, .int (nI p0)), (3, .int (nI (by2 f p0))), (6, .int (nI j))], [], M1) _
          refine ps_st (S' := (100, [(0, .ref m0), (1, .int (nI p0)), (3, .int (nI (by2 f p0))), (4, .int (nI (p + 4 + 2 * (by2 f (p + 2))))), (5, .int (nI (i + 1)))], [], M1)) rfl rfl rfl ?_
          exact ih.2.1 (i + 1) (p + 4 + 2 * by2 f (p + 2)) M1 I1 R1 hR1 hEI1 hER1 hl51 hl52 hl53 hF1 hY1 hP1 (hfe) (by omega) (by omega) (hf2) (by
              rw [← hs, bsA_st (i := i) (p := p) hi, if_neg (by omega), if_neg (by rw [← hd, show by2 f (p + 2) - j = 0 by omega]; exact Nat.one_ne_zero)])
        · have c_137 : ¬ ((nI (by2 f (p + 2))) ≤ (nI j)) := of_decide_eq_false c_137
          have n_137 : ¬ (by2 f (p + 2) ≤ j) := fun h9 => c_137 ((le_nI (p := by2 f (p + 2)) (n := j) (Nat.lt_trans (by2_lt _ _) (by decide)) (by omega)).mpr h9)
          refine ps_st (S' := (141, [(0, .ref m0), (1, .int (nI p0)), (3, .int (nI (by2 f p0))), (4, .int (nI p)), (5, .int (nI i)), (6, .int (nI j))], [.ref m0], M1)) rfl rfl rfl ?_
          refine ps_st (S' := (142, [(0, .ref m0), (1, .int (nI p0)), (3, .int (nI (by2 f p0))), (4, .int (nI p)), (5, .int (nI i)), (6, .int (nI j))], [.ref m0, .ref m0], M1)) rfl rfl rfl ?_
          refine ps_st (S' := (144, [(0, .ref m0), (1, .int (nI p0)), (3, .int (nI (by2 f p0))), (4, .int (nI p)), (5, .int (nI i)), (6, .int (nI j))], [.int (nI p), .ref m0, .ref m0], M1)) rfl rfl rfl ?_
          refine ps_st (S' := (145, [(0, .ref m0), (1, .int (nI p0)), (3, .int (nI (by2 f p0))), (4, .int (nI p)), (5, .int (nI i)), (6, .int (nI j))], [.int 4, .int (nI p), .ref m0, .ref m0], M1)) rfl rfl rfl ?_
          refine ps_st (S' := (146, [(0, .ref m0), (1, .int (nI p0)), (3, .int (nI (by2 f p0))), (4, .int (nI p)), (5, .int (nI i)), (6, .int (nI j))], [.int ((nI p) + 4), .ref m0, .ref m0], M1)) rfl rfl rfl ?_
          rw [nI_add1 (p := p) (k := 4) (x := 4) rfl (by omega)]
          show pl _ _ _ (_, [(0, .ref m0), (1, .int (nI p0)), (3, .int (nI (by2 f p0))), (4, .int (nI p)), (5, .int (nI i)), (6, .int (nI j))], [.int (nI (p + 4)), .ref m0, .ref m0], M1) _
          refine ps_st (S' := (147, [(0, .ref m0), (1, .int (nI p0)), (3, .int (nI (by2 f p0))), (4, .int (nI p)), (5, .int (nI i)), (6, .int (nI j))], [.int 2, .int (nI (p + 4)), .ref m0, .ref m0], M1)) rfl rfl rfl ?_
          refine ps_st (S' := (149, [(0, .ref m0), (1, .int (nI p0)), (3, .int (nI (by2 f p0))), (4, .int (nI p)), (5, .int (nI i)), (6, .int (nI j))], [.int (nI j), .int 2, .int (nI (p + 4)), .ref m0, .ref m0], M1)) rfl rfl rfl ?_
          refine ps_st (S' := (150, [(0, .ref m0), (1, .int (nI p0)), (3, .int (nI (by2 f p0))), (4, .int (nI p)), (5, .int (nI i)), (6, .int (nI j))], [.int (2 * (nI j)), .int (nI (p + 4)), .ref m0, .ref m0], M1)) rfl rfl rfl ?_
          rw [nI_mul1 (p := 2) (k := j) (x := 2) (y := (nI j)) rfl rfl (by omega)]
          show pl _ _ _ (_, [(0, .ref m0), (1, .int (nI p0)), (3, .int (nI (by2 f p0))), (4, .int (nI p)), (5, .int (nI i)), (6, .int (nI j))], [.int (nI (2 * j)), .int (nI (p + 4)), .ref m0, .ref m0], M1) _
          refine ps_st (S' := (151, [(0, .ref m0), (1, .int (nI p0)), (3, .int (nI (by2 f p0))), (4, .int (nI p)), (5, .int (nI i)), (6, .int (nI j))], [.int ((nI (p + 4)) + (nI (2 * j))), .ref m0, .ref m0], M1)) rfl rfl rfl ?_
          rw [nI_add1 (p := p + 4) (k := 2 * j) (x := (nI (2 * j))) rfl (by omega)]
          show pl _ _ _ (_, [(0, .ref m0), (1, .int (nI p0)), (3, .int (nI (by2 f p0))), (4, .int (nI p)), (5, .int (nI i)), (6, .int (nI j))], [.int (nI (p + 4 + 2 * j)), .ref m0, .ref m0], M1) _
          refine pl_call (a := [.ref m0, .int (nI (p + 4 + 2 * j))]) (rest := [.ref m0]) rfl rfl rfl (rd_u2 (n := n) (f := f) (p := (p + 4 + 2 * j)) hR1 hF1 (by omega)) (fun v44 M45 q46 => ?_)
          obtain ⟨rfl, rfl⟩ := q46
          show pl _ _ _ (154, [(0, .ref m0), (1, .int (nI p0)), (3, .int (nI (by2 f p0))), (4, .int (nI p)), (5, .int (nI i)), (6, .int (nI j))], [.int (nI (by2 f (p + 4 + 2 * j))), .ref m0], M1) _
          have hu_151 := by2_lt f (p + 4 + 2 * j)
          refine pl_call (a := [.ref m0, .int (nI (by2 f (p + 4 + 2 * j)))]) (rest := []) rfl rfl rfl (rd_tag (n := n) (f := f) (tx := tx) (cN := cN) (A := A) (N := N) (mj := mj) (E := E) (k := (by2 f (p + 4 + 2 * j))) hR1 hl51 hl52 hl53 hF1 hY1 hP1 (hEP) (hN) (hmj) (by2_lt _ _)) (fun v47 M48 q49 => ?_)
          obtain ⟨rfl, rfl⟩ := q49
          show pl _ _ _ (157, [(0, .ref m0), (1, .int (nI p0)), (3, .int (nI (by2 f p0))), (4, .int (nI p)), (5, .int (nI i)), (6, .int (nI j))], [.int (nI (tg f E (by2 f (p + 4 + 2 * j))))], M1) _
          have htg_154 := tg_lt f E (by2 f (p + 4 + 2 * j))
          refine ps_st (S' := (159, [(7, .int (nI (tg f E (by2 f (p + 4 + 2 * j))))), (0, .ref m0), (1, .int (nI p0)), (3, .int (nI (by2 f p0))), (4, .int (nI p)), (5, .int (nI i)), (6, .int (nI j))], [], M1)) rfl rfl rfl ?_
          refine ps_st (S' := (161, [(7, .int (nI (tg f E (by2 f (p + 4 + 2 * j))))), (0, .ref m0), (1, .int (nI p0)), (3, .int (nI (by2 f p0))), (4, .int (nI p)), (5, .int (nI i)), (6, .int (nI j))], [.int (nI (tg f E (by2 f (p + 4 + 2 * j))))], M1)) rfl rfl rfl ?_
          refine ps_st (S' := (162, [(7, .int (nI (tg f E (by2 f (p + 4 + 2 * j))))), (0, .ref m0), (1, .int (nI p0)), (3, .int (nI (by2 f p0))), (4, .int (nI p)), (5, .int (nI i)), (6, .int (nI j))], [.int 3, .int (nI (tg f E (by2 f (p + 4 + 2 * j))))], M1)) rfl rfl rfl ?_
          refine ps_if2 (S1 := (172, [(0, .ref m0), (1, .int (nI p0)), (3, .int (nI (by2 f p0))), (4, .int (nI p)), (5, .int (nI i)), (6, .int (nI j)), (7, .int (nI (tg f E (by2 f (p + 4 + 2 * j)))))], [], M1)) (S2 := (165, [(7, .int (nI (tg f E (by2 f (p + 4 + 2 * j))))), (0, .ref m0), (1, .int (nI p0)), (3, .int (nI (by2 f p0))), (4, .int (nI p)), (5, .int (nI i)), (6, .int (nI j))], [], M1)) rfl rfl rfl (fun c_162 => ?_) (fun c_162 => ?_)
          · have c_162 : (nI (tg f E (by2 f (p + 4 + 2 * j)))) < 3 := of_decide_eq_true c_162
            have n_162 : tg f E (by2 f (p + 4 + 2 * j)) < 3 := (lt_nI (p := tg f E (by2 f (p + 4 + 2 * j))) (n := 3) (Nat.lt_trans (tg_lt _ _ _) (by decide)) (by decide)).mp c_162
            refine ps_st (S' := (174, [(0, .ref m0), (1, .int (nI p0)), (3, .int (nI (by2 f p0))), (4, .int (nI p)), (5, .int (nI i)), (6, .int (nI j)), (7, .int (nI (tg f E (by2 f (p + 4 + 2 * j)))))], [.int (nI (tg f E (by2 f (p + 4 + 2 * j))))], M1)) rfl rfl rfl ?_
            refine ps_st (S' := (176, [(0, .ref m0), (1, .int (nI p0)), (3, .int (nI (by2 f p0))), (4, .int (nI p)), (5, .int (nI i)), (6, .int (nI j)), (7, .int (nI (tg f E (by2 f (p + 4 + 2 * j)))))], [.int 15, .int (nI (tg f E (by2 f (p + 4 + 2 * j))))], M1)) rfl rfl rfl ?_
            refine ps_if2 (S1 := (186, [], [], M1)) (S2 := (179, [(0, .ref m0), (1, .int (nI p0)), (3, .int (nI (by2 f p0))), (4, .int (nI p)), (5, .int (nI i)), (6, .int (nI j)), (7, .int (nI (tg f E (by2 f (p + 4 + 2 * j)))))], [], M1)) rfl rfl rfl (fun c_176 => ?_) (fun c_176 => ?_)
            rotate_left
            · exact absurd ((lt_nI (p := tg f E (by2 f (p + 4 + 2 * j))) (n := 15) (Nat.lt_trans (tg_lt _ _ _) (by decide)) (by decide)).mpr (by omega)) (of_decide_eq_false c_176)
            refine ps_st (S' := (188, [], [.int 38], M1)) rfl rfl rfl ?_
            exact ps_ret rfl rfl (Or.inr (Or.inl ⟨I1, R1, hfe, by
                rw [← hs, bsA_st (i := i) (p := p) hi, if_neg (by omega), if_pos (by rw [← hd, ldA_st (i := j) (by omega), if_pos (by unfold ldN; rw [if_neg (by omega)])])], rfl, hR1, hEI1, hER1⟩))
          · have c_162 : ¬ ((nI (tg f E (by2 f (p + 4 + 2 * j)))) < 3) := of_decide_eq_false c_162
            have n_162 : ¬ (tg f E (by2 f (p + 4 + 2 * j)) < 3) := fun h9 => c_162 ((lt_nI (p := tg f E (by2 f (p + 4 + 2 * j))) (n := 3) (Nat.lt_trans (tg_lt _ _ _) (by decide)) (by decide)).mpr h9)
            refine ps_st (S' := (167, [(7, .int (nI (tg f E (by2 f (p + 4 + 2 * j))))), (0, .ref m0), (1, .int (nI p0)), (3, .int (nI (by2 f p0))), (4, .int (nI p)), (5, .int (nI i)), (6, .int (nI j))], [.int (nI (tg f E (by2 f (p + 4 + 2 * j))))], M1)) rfl rfl rfl ?_
            refine ps_st (S' := (169, [(7, .int (nI (tg f E (by2 f (p + 4 + 2 * j))))), (0, .ref m0), (1, .int (nI p0)), (3, .int (nI (by2 f p0))), (4, .int (nI p)), (5, .int (nI i)), (6, .int (nI j))], [.int 8, .int (nI (tg f E (by2 f (p + 4 + 2 * j))))], M1)) rfl rfl rfl ?_
            refine ps_if2 (S1 := (189, [(0, .ref m0), (1, .int (nI p0)), (3, .int (nI (by2 f p0))), (4, .int (nI p)), (5, .int (nI i)), (6, .int (nI j))], [], M1)) (S2 := (172, [(0, .ref m0), (1, .int (nI p0)), (3, .int (nI (by2 f p0))), (4, .int (nI p)), (5, .int (nI i)), (6, .int (nI j)), (7, .int (nI (tg f E (by2 f (p + 4 + 2 * j)))))], [], M1)) rfl rfl rfl (fun c_169 => ?_) (fun c_169 => ?_)
            · have c_169 : (nI (tg f E (by2 f (p + 4 + 2 * j)))) ≤ 8 := of_decide_eq_true c_169
              have n_169 : tg f E (by2 f (p + 4 + 2 * j)) ≤ 8 := (le_nI (p := tg f E (by2 f (p + 4 + 2 * j))) (n := 8) (Nat.lt_trans (tg_lt _ _ _) (by decide)) (by decide)).mp c_169
              refine ps_st (S' := (192, [(6, .int ((nI j) + 1)), (0, .ref m0), (1, .int (nI p0)), (3, .int (nI (by2 f p0))), (4, .int (nI p)), (5, .int (nI i))], [], M1)) rfl rfl rfl ?_
              rw [nI_add1 (p := j) (k := 1) (x := 1) rfl (by omega)]
              show pl _ _ _ (_, [(6, .int (nI (j + 1))), (0, .ref m0), (1, .int (nI p0)), (3, .int (nI (by2 f p0))), (4, .int (nI p)), (5, .int (nI i))], [], M1) _
              refine ps_st (S' := (127, [(0, .ref m0), (1, .int (nI p0)), (3, .int (nI (by2 f p0))), (4, .int (nI p)), (5, .int (nI i)), (6, .int (nI (j + 1)))], [], M1)) rfl rfl rfl ?_
              exact ih.2.2 (i) (p) (j + 1) M1 I1 R1 hR1 hEI1 hER1 hl51 hl52 hl53 hF1 hY1 hP1 (hfe) (hi) (by omega) (hle) (hf2) (h15) (hs) (by
                  rw [← hd, ldA_st (i := j) (by omega), if_neg (by unfold ldN; rw [if_pos (by omega)]; decide)]
                  rfl)
            · have c_169 : ¬ ((nI (tg f E (by2 f (p + 4 + 2 * j)))) ≤ 8) := of_decide_eq_false c_169
              have n_169 : ¬ (tg f E (by2 f (p + 4 + 2 * j)) ≤ 8) := fun h9 => c_169 ((le_nI (p := tg f E (by2 f (p + 4 + 2 * j))) (n := 8) (Nat.lt_trans (tg_lt _ _ _) (by decide)) (by decide)).mpr h9)
              refine ps_st (S' := (174, [(0, .ref m0), (1, .int (nI p0)), (3, .int (nI (by2 f p0))), (4, .int (nI p)), (5, .int (nI i)), (6, .int (nI j)), (7, .int (nI (tg f E (by2 f (p + 4 + 2 * j)))))], [.int (nI (tg f E (by2 f (p + 4 + 2 * j))))], M1)) rfl rfl rfl ?_
              refine ps_st (S' := (176, [(0, .ref m0), (1, .int (nI p0)), (3, .int (nI (by2 f p0))), (4, .int (nI p)), (5, .int (nI i)), (6, .int (nI j)), (7, .int (nI (tg f E (by2 f (p + 4 + 2 * j)))))], [.int 15, .int (nI (tg f E (by2 f (p + 4 + 2 * j))))], M1)) rfl rfl rfl ?_
              refine ps_if2 (S1 := (186, [], [], M1)) (S2 := (179, [(0, .ref m0), (1, .int (nI p0)), (3, .int (nI (by2 f p0))), (4, .int (nI p)), (5, .int (nI i)), (6, .int (nI j)), (7, .int (nI (tg f E (by2 f (p + 4 + 2 * j)))))], [], M1)) rfl rfl rfl (fun c_176 => ?_) (fun c_176 => ?_)
              · have c_176 : (nI (tg f E (by2 f (p + 4 + 2 * j)))) < 15 := of_decide_eq_true c_176
                have n_176 : tg f E (by2 f (p + 4 + 2 * j)) < 15 := (lt_nI (p := tg f E (by2 f (p + 4 + 2 * j))) (n := 15) (Nat.lt_trans (tg_lt _ _ _) (by decide)) (by decide)).mp c_176
                refine ps_st (S' := (188, [], [.int 38], M1)) rfl rfl rfl ?_
                exact ps_ret rfl rfl (Or.inr (Or.inl ⟨I1, R1, hfe, by
                    rw [← hs, bsA_st (i := i) (p := p) hi, if_neg (by omega), if_pos (by rw [← hd, ldA_st (i := j) (by omega), if_pos (by unfold ldN; rw [if_neg (by omega)])])], rfl, hR1, hEI1, hER1⟩))
              · have c_176 : ¬ ((nI (tg f E (by2 f (p + 4 + 2 * j)))) < 15) := of_decide_eq_false c_176
                have n_176 : ¬ (tg f E (by2 f (p + 4 + 2 * j)) < 15) := fun h9 => c_176 ((lt_nI (p := tg f E (by2 f (p + 4 + 2 * j))) (n := 15) (Nat.lt_trans (tg_lt _ _ _) (by decide)) (by decide)).mpr h9)
                refine ps_st (S' := (181, [(0, .ref m0), (1, .int (nI p0)), (3, .int (nI (by2 f p0))), (4, .int (nI p)), (5, .int (nI i)), (6, .int (nI j)), (7, .int (nI (tg f E (by2 f (p + 4 + 2 * j)))))], [.int (nI (tg f E (by2 f (p + 4 + 2 * j))))], M1)) rfl rfl rfl ?_
                refine ps_st (S' := (183, [(0, .ref m0), (1, .int (nI p0)), (3, .int (nI (by2 f p0))), (4, .int (nI p)), (5, .int (nI i)), (6, .int (nI j)), (7, .int (nI (tg f E (by2 f (p + 4 + 2 * j)))))], [.int 17, .int (nI (tg f E (by2 f (p + 4 + 2 * j))))], M1)) rfl rfl rfl ?_
                refine ps_if2 (S1 := (189, [(0, .ref m0), (1, .int (nI p0)), (3, .int (nI (by2 f p0))), (4, .int (nI p)), (5, .int (nI i)), (6, .int (nI j))], [], M1)) (S2 := (186, [], [], M1)) rfl rfl rfl (fun c_183 => ?_) (fun c_183 => ?_)
                · have c_183 : (nI (tg f E (by2 f (p + 4 + 2 * j)))) ≤ 17 := of_decide_eq_true c_183
                  have n_183 : tg f E (by2 f (p + 4 + 2 * j)) ≤ 17 := (le_nI (p := tg f E (by2 f (p + 4 + 2 * j))) (n := 17) (Nat.lt_trans (tg_lt _ _ _) (by decide)) (by decide)).mp c_183
                  refine ps_st (S' := (192, [(6, .int ((nI j) + 1)), (0, .ref m0), (1, .int (nI p0)), (3, .int (nI (by2 f p0))), (4, .int (nI p)), (5, .int (nI i))], [], M1)) rfl rfl rfl ?_
                  rw [nI_add1 (p := j) (k := 1) (x := 1) rfl (by omega)]
                  show pl _ _ _ (_, [(6, .int (nI (j + 1))), (0, .ref m0), (1, .int (nI p0)), (3, .int (nI (by2 f p0))), (4, .int (nI p)), (5, .int (nI i))], [], M1) _
                  refine ps_st (S' := (127, [(0, .ref m0), (1, .int (nI p0)), (3, .int (nI (by2 f p0))), (4, .int (nI p)), (5, .int (nI i)), (6, .int (nI (j + 1)))], [], M1)) rfl rfl rfl ?_
                  exact ih.2.2 (i) (p) (j + 1) M1 I1 R1 hR1 hEI1 hER1 hl51 hl52 hl53 hF1 hY1 hP1 (hfe) (hi) (by omega) (hle) (hf2) (h15) (hs) (by
                      rw [← hd, ldA_st (i := j) (by omega), if_neg (by unfold ldN; rw [if_pos (by omega)]; decide)]
                      rfl)
                · have c_183 : ¬ ((nI (tg f E (by2 f (p + 4 + 2 * j)))) ≤ 17) := of_decide_eq_false c_183
                  have n_183 : ¬ (tg f E (by2 f (p + 4 + 2 * j)) ≤ 17) := fun h9 => c_183 ((le_nI (p := tg f E (by2 f (p + 4 + 2 * j))) (n := 17) (Nat.lt_trans (tg_lt _ _ _) (by decide)) (by decide)).mpr h9)
                  refine ps_st (S' := (188, [], [.int 38], M1)) rfl rfl rfl ?_
                  exact ps_ret rfl rfl (Or.inr (Or.inl ⟨I1, R1, hfe, by
                      rw [← hs, bsA_st (i := i) (p := p) hi, if_neg (by omega), if_pos (by rw [← hd, ldA_st (i := j) (by omega), if_pos (by unfold ldN; rw [if_neg (by omega)])])], rfl, hR1, hEI1, hER1⟩))
  refine ps_st (S' := (1, [(0, .ref m0), (1, .int (nI p0)), (2, .int (nI e))], [.int (nI e)], M)) rfl rfl rfl ?_
  refine ps_st (S' := (2, [(0, .ref m0), (1, .int (nI p0)), (2, .int (nI e))], [.int (nI p0), .int (nI e)], M)) rfl rfl rfl ?_
  refine ps_st (S' := (3, [(0, .ref m0), (1, .int (nI p0)), (2, .int (nI e))], [.int ((nI e) - (nI p0))], M)) rfl rfl rfl ?_
  refine ps_st (S' := (4, [(0, .ref m0), (1, .int (nI p0)), (2, .int (nI e))], [.int 2, .int ((nI e) - (nI p0))], M)) rfl rfl rfl ?_
  refine ps_if2 (S1 := (10, [(0, .ref m0), (1, .int (nI p0)), (2, .int (nI e))], [], M)) (S2 := (7, [(0, .ref m0), (1, .int (nI p0)), (2, .int (nI e))], [], M)) rfl rfl rfl (fun c_4 => ?_) (fun c_4 => ?_)
  · have c_4 : 2 ≤ ((nI e) - (nI p0)) := of_decide_eq_true c_4
    have n_4 : 2 + p0 ≤ e := (le_sub1 (e := e) (p := p0) (k := 2) (by omega) (by omega) (by omega)).mp c_4
    refine ps_st (S' := (11, [(0, .ref m0), (1, .int (nI p0)), (2, .int (nI e))], [.ref m0], M)) rfl rfl rfl ?_
    refine ps_st (S' := (12, [(0, .ref m0), (1, .int (nI p0)), (2, .int (nI e))], [.int (nI p0), .ref m0], M)) rfl rfl rfl ?_
    refine pl_call (a := [.ref m0, .int (nI p0)]) (rest := []) rfl rfl rfl (rd_u2 (n := n) (f := f) (p := p0) hR hF (by omega)) (fun v50 M51 q52 => ?_)
    obtain ⟨rfl, rfl⟩ := q52
    show pl _ _ _ (15, [(0, .ref m0), (1, .int (nI p0)), (2, .int (nI e))], [.int (nI (by2 f p0))], M) _
    have hu_12 := by2_lt f p0
    refine ps_st (S' := (16, [(3, .int (nI (by2 f p0))), (0, .ref m0), (1, .int (nI p0)), (2, .int (nI e))], [], M)) rfl rfl rfl ?_
    refine ps_st (S' := (17, [(3, .int (nI (by2 f p0))), (0, .ref m0), (1, .int (nI p0)), (2, .int (nI e))], [.int (nI p0)], M)) rfl rfl rfl ?_
    refine ps_st (S' := (18, [(3, .int (nI (by2 f p0))), (0, .ref m0), (1, .int (nI p0)), (2, .int (nI e))], [.int 2, .int (nI p0)], M)) rfl rfl rfl ?_
    refine ps_st (S' := (19, [(3, .int (nI (by2 f p0))), (0, .ref m0), (1, .int (nI p0)), (2, .int (nI e))], [.int ((nI p0) + 2)], M)) rfl rfl rfl ?_
    rw [nI_add1 (p := p0) (k := 2) (x := 2) rfl (by omega)]
    show pl _ _ _ (_, [(3, .int (nI (by2 f p0))), (0, .ref m0), (1, .int (nI p0)), (2, .int (nI e))], [.int (nI (p0 + 2))], M) _
    refine ps_st (S' := (21, [(4, .int (nI (p0 + 2))), (3, .int (nI (by2 f p0))), (0, .ref m0), (1, .int (nI p0)), (2, .int (nI e))], [], M)) rfl rfl rfl ?_
    refine ps_st (S' := (22, [(4, .int (nI (p0 + 2))), (3, .int (nI (by2 f p0))), (0, .ref m0), (1, .int (nI p0)), (2, .int (nI e))], [.int 0], M)) rfl rfl rfl ?_
    refine ps_st (S' := (24, [(0, .ref m0), (1, .int (nI p0)), (2, .int (nI e)), (3, .int (nI (by2 f p0))), (4, .int (nI (p0 + 2))), (5, .int 0)], [], M)) rfl rfl rfl ?_
    exact (LL kf).1 (0) (p0 + 2) M I R hR hEI hER hi51 hi52 hi53 hF hY hP (by omega) (by omega) (by omega) (rfl)
  · have c_4 : ¬ (2 ≤ ((nI e) - (nI p0))) := of_decide_eq_false c_4
    have n_4 : ¬ (2 + p0 ≤ e) := fun h8 => c_4 ((le_sub1 (e := e) (p := p0) (k := 2) (by omega) (by omega) (by omega)).mpr h8)
    refine ps_st (S' := (9, [(0, .ref m0), (1, .int (nI p0)), (2, .int (nI e))], [.int 30], M)) rfl rfl rfl ?_
    exact ps_ret rfl rfl (Or.inl ⟨I, R, fe_2 (by omega), rfl, hR, hEI, hER⟩)
set_option maxHeartbeats 4000000 in
theorem rd_components {g : xe_G} {m0 : Nat} {q : Nat → Nat} {z : Nat × Nat} {I : rI} {R : rR} {M : mi_H} {n : Nat} {f : Nat → Int32} {tx : List (List Nat)} {cN : Nat} {A : Nat → Nat} {N mj : Nat} {E : List (Nat × Nat)} {p0 e t : Nat} (hR : RS g m0 q z I R M) (hi51 : I 51 = some 0) (hi52 : I 52 = some (nI N)) (hi53 : I 53 = some (nI mj)) (hF : FK n f I R) (hY : SYT tx cN A I R) (hP : RPV f n E tx N I R) (hEP : EP f n E) (hN : N < 65536) (hmj : mj < 65536) (he : p0 ≤ e ∧ e ≤ n) : pt (mT g) 197 [.ref m0, .int (nI p0), .int (nI e)] M (fun v M' => (∃  (I' : rI) (R' : rR), (¬ s_fe f 9 p0 e = some e) ∧ v = some (.int 30) ∧ RS g m0 q z I' R' M' ∧ eqI [47, 48, 72] I I' ∧ eqR [] R R') ∨ (∃  (I' : rI) (R' : rR), (s_fe f 9 p0 e = some e) ∧ (rcS f n E t (by2 f p0) (p0 + 2) = some (37, t)) ∧ v = some (.int 37) ∧ RS g m0 q z I' R' M' ∧ eqI [47, 48, 72] I I' ∧ eqR [] R R') ∨ (∃ (y : Nat) (I' : rI) (R' : rR), (s_fe f 9 p0 e = some e) ∧ (rcS f n E t (by2 f p0) (p0 + 2) = some (28, y)) ∧ v = some (.int (-1)) ∧ RS g m0 q z I' R' M' ∧ eqI [47, 48, 72] I I' ∧ eqR [] R R' ∧ I' 47 = some 28 ∧ I' 48 = some (nI y)) ∨ (∃  (I' : rI) (R' : rR), (s_fe f 9 p0 e = some e) ∧ (rcS f n E t (by2 f p0) (p0 + 2) = none) ∧ v = some (.int 0) ∧ RS g m0 q z I' R' M' ∧ eqI [47, 48, 72] I I' ∧ eqR [] R R' ∧ I' 72 = some (nI (by2 f p0)))) := by
  refine pt_in (b := mb_197 g) rfl (fun kf => ?_)
  show pl (mT g) kf (mb_197 g).2 (0, [(0, .ref m0), (1, .int (nI p0)), (2, .int (nI e))], [], M) _
  have hEI : eqI [47, 48, 72] I I := eqI.rf
  have hER : eqR [] R R := eqR.rf
  have hn := hF.1
  have LL : ∀ (kf : Nat), (∀ (i p : Nat) (M1 : mi_H) (I1 : rI) (R1 : rR), (RS g m0 q z I1 R1 M1) → (eqI [47, 48, 72] I I1) → (eqR [] R R1) → (I1 51 = some 0) → (I1 52 = some (nI N)) → (I1 53 = some (nI mj)) → (FK n f I1 R1) → (SYT tx cN A I1 R1) → (RPV f n E tx N I1 R1) → (p0 + 2 ≤ e) → (i ≤ by2 f p0) → (p0 + 2 ≤ p ∧ p ≤ e) → (s_rcE f e (by2 f p0 - i) p = s_rcE f e (by2 f p0) (p0 + 2)) →  pl (mT g) kf (mb_197 g).2 (24, [(0, .ref m0), (1, .int (nI p0)), (2, .int (nI e)), (3, .int (nI (by2 f p0))), (4, .int (nI p)), (5, .int (nI i))], [], M1) (fun v M' => (∃  (I' : rI) (R' : rR), (¬ s_fe f 9 p0 e = some e) ∧ v = some (.int 30) ∧ RS g m0 q z I' R' M' ∧ eqI [47, 48, 72] I I' ∧ eqR [] R R') ∨ (∃  (I' : rI) (R' : rR), (s_fe f 9 p0 e = some e) ∧ (rcS f n E t (by2 f p0) (p0 + 2) = some (37, t)) ∧ v = some (.int 37) ∧ RS g m0 q z I' R' M' ∧ eqI [47, 48, 72] I I' ∧ eqR [] R R') ∨ (∃ (y : Nat) (I' : rI) (R' : rR), (s_fe f 9 p0 e = some e) ∧ (rcS f n E t (by2 f p0) (p0 + 2) = some (28, y)) ∧ v = some (.int (-1)) ∧ RS g m0 q z I' R' M' ∧ eqI [47, 48, 72] I I' ∧ eqR [] R R' ∧ I' 47 = some 28 ∧ I' 48 = some (nI y)) ∨ (∃  (I' : rI) (R' : rR), (s_fe f 9 p0 e = some e) ∧ (rcS f n E t (by2 f p0) (p0 + 2) = none) ∧ v = some (.int 0) ∧ RS g m0 q z I' R' M' ∧ eqI [47, 48, 72] I I' ∧ eqR [] R R' ∧ I' 72 = some (nI (by2 f p0))))) ∧ (∀ (i p j y : Nat) (M1 : mi_H) (I1 : rI) (R1 : rR), (RS g m0 q z I1 R1 M1) → (eqI [47, 48, 72] I I1) → (eqR [] R R1) → (I1 51 = some 0) → (I1 52 = some (nI N)) → (I1 53 = some (nI mj)) → (FK n f I1 R1) → (SYT tx cN A I1 R1) → (RPV f n E tx N I1 R1) → (p0 + 2 ≤ e) → (i < by2 f p0) → (j ≤ by2 f (p + 4)) → (p0 + 2 ≤ p ∧ p + 6 ≤ y ∧ y ≤ e) → (s_rcE f e (by2 f p0 - i) p = s_rcE f e (by2 f p0) (p0 + 2)) → (s_atE f e (by2 f (p + 4) - j) y = s_atE f e (by2 f (p + 4)) (p + 6)) →  pl (mT g) kf (mb_197 g).2 (58, [(0, .ref m0), (1, .int (nI p0)), (2, .int (nI e)), (3, .int (nI (by2 f p0))), (4, .int (nI y)), (5, .int (nI i)), (6, .int (nI (by2 f (p + 4)))), (7, .int (nI j))], [], M1) (fun v M' => (∃  (I' : rI) (R' : rR), (¬ s_fe f 9 p0 e = some e) ∧ v = some (.int 30) ∧ RS g m0 q z I' R' M' ∧ eqI [47, 48, 72] I I' ∧ eqR [] R R') ∨ (∃  (I' : rI) (R' : rR), (s_fe f 9 p0 e = some e) ∧ (rcS f n E t (by2 f p0) (p0 + 2) = some (37, t)) ∧ v = some (.int 37) ∧ RS g m0 q z I' R' M' ∧ eqI [47, 48, 72] I I' ∧ eqR [] R R') ∨ (∃ (y : Nat) (I' : rI) (R' : rR), (s_fe f 9 p0 e = some e) ∧ (rcS f n E t (by2 f p0) (p0 + 2) = some (28, y)) ∧ v = some (.int (-1)) ∧ RS g m0 q z I' R' M' ∧ eqI [47, 48, 72] I I' ∧ eqR [] R R' ∧ I' 47 = some 28 ∧ I' 48 = some (nI y)) ∨ (∃  (I' : rI) (R' : rR), (s_fe f 9 p0 e = some e) ∧ (rcS f n E t (by2 f p0) (p0 + 2) = none) ∧ v = some (.int 0) ∧ RS g m0 q z I' R' M' ∧ eqI [47, 48, 72] I I' ∧ eqR [] R R' ∧ I' 72 = some (nI (by2 f p0))))) ∧ (∀ (i p : Nat) (M1 : mi_H) (I1 : rI) (R1 : rR), (RS g m0 q z I1 R1 M1) → (eqI [47, 48, 72] I I1) → (eqR [] R R1) → (I1 51 = some 0) → (I1 52 = some (nI N)) → (I1 53 = some (nI mj)) → (FK n f I1 R1) → (SYT tx cN A I1 R1) → (RPV f n E tx N I1 R1) → (s_fe f 9 p0 e = some e) → (i ≤ by2 f p0) → (s_rcE f e (by2 f p0 - i) p = some e) → (rcS f n E t (by2 f p0 - i) p = rcS f n E t (by2 f p0) (p0 + 2)) →  pl (mT g) kf (mb_197 g).2 (143, [(0, .ref m0), (3, .int (nI (by2 f p0))), (4, .int (nI p)), (5, .int (nI i))], [], M1) (fun v M' => (∃  (I' : rI) (R' : rR), (¬ s_fe f 9 p0 e = some e) ∧ v = some (.int 30) ∧ RS g m0 q z I' R' M' ∧ eqI [47, 48, 72] I I' ∧ eqR [] R R') ∨ (∃  (I' : rI) (R' : rR), (s_fe f 9 p0 e = some e) ∧ (rcS f n E t (by2 f p0) (p0 + 2) = some (37, t)) ∧ v = some (.int 37) ∧ RS g m0 q z I' R' M' ∧ eqI [47, 48, 72] I I' ∧ eqR [] R R') ∨ (∃ (y : Nat) (I' : rI) (R' : rR), (s_fe f 9 p0 e = some e) ∧ (rcS f n E t (by2 f p0) (p0 + 2) = some (28, y)) ∧ v = some (.int (-1)) ∧ RS g m0 q z I' R' M' ∧ eqI [47, 48, 72] I I' ∧ eqR [] R R' ∧ I' 47 = some 28 ∧ I' 48 = some (nI y)) ∨ (∃  (I' : rI) (R' : rR), (s_fe f 9 p0 e = some e) ∧ (rcS f n E t (by2 f p0) (p0 + 2) = none) ∧ v = some (.int 0) ∧ RS g m0 q z I' R' M' ∧ eqI [47, 48, 72] I I' ∧ eqR [] R R' ∧ I' 72 = some (nI (by2 f p0))))) ∧ (∀ (i p j y x9 : Nat) (M1 : mi_H) (I1 : rI) (R1 : rR), (RS g m0 q z I1 R1 M1) → (eqI [47, 48, 72] I I1) → (eqR [] R R1) → (I1 51 = some 0) → (I1 52 = some (nI N)) → (I1 53 = some (nI mj)) → (FK n f I1 R1) → (SYT tx cN A I1 R1) → (RPV f n E tx N I1 R1) → (s_fe f 9 p0 e = some e) → (i < by2 f p0) → (j ≤ by2 f (p + 4)) → (s_atE f e (by2 f (p + 4) - j) y = some x9) → (s_rcE f e (by2 f p0 - (i + 1)) x9 = some e) → (¬ (unqN (tX f n E (by2 f p)) = 0 ∨ fldN (tX f n E (by2 f (p + 2))) = 0)) → (rcS f n E t (by2 f p0 - i) p = rcS f n E t (by2 f p0) (p0 + 2)) → (rcA f E (by2 f (p + 4) - j) y = rcA f E (by2 f (p + 4)) (p + 6)) →  pl (mT g) kf (mb_197 g).2 (235, [(0, .ref m0), (3, .int (nI (by2 f p0))), (4, .int (nI y)), (5, .int (nI i)), (6, .int (nI (by2 f (p + 4)))), (7, .int (nI j))], [], M1) (fun v M' => (∃  (I' : rI) (R' : rR), (¬ s_fe f 9 p0 e = some e) ∧ v = some (.int 30) ∧ RS g m0 q z I' R' M' ∧ eqI [47, 48, 72] I I' ∧ eqR [] R R') ∨ (∃  (I' : rI) (R' : rR), (s_fe f 9 p0 e = some e) ∧ (rcS f n E t (by2 f p0) (p0 + 2) = some (37, t)) ∧ v = some (.int 37) ∧ RS g m0 q z I' R' M' ∧ eqI [47, 48, 72] I I' ∧ eqR [] R R') ∨ (∃ (y : Nat) (I' : rI) (R' : rR), (s_fe f 9 p0 e = some e) ∧ (rcS f n E t (by2 f p0) (p0 + 2) = some (28, y)) ∧ v = some (.int (-1)) ∧ RS g m0 q z I' R' M' ∧ eqI [47, 48, 72] I I' ∧ eqR [] R R' ∧ I' 47 = some 28 ∧ I' 48 = some (nI y)) ∨ (∃  (I' : rI) (R' : rR), (s_fe f 9 p0 e = some e) ∧ (rcS f n E t (by2 f p0) (p0 + 2) = none) ∧ v = some (.int 0) ∧ RS g m0 q z I' R' M' ∧ eqI [47, 48, 72] I I' ∧ eqR [] R R' ∧ I' 72 = some (nI (by2 f p0))))) := by
    intro kf
    induction kf with
    | zero => exact ⟨by intros; exact pl_0, by intros; exact pl_0, by intros; exact pl_0, by intros; exact pl_0⟩
    | succ kf ih =>
      refine ⟨?_, ?_, ?_, ?_⟩
      · skip
        intro i p M1 I1 R1 hR1 hEI1 hER1 hl51 hl52 hl53 hF1 hY1 hP1 h2 hi hp hs
        have hn := hF1.1
        have hu9 := by2_lt f p0
        refine ps_st1 (S' := (26, [(0, .ref m0), (1, .int (nI p0)), (2, .int (nI e)), (3, .int (nI (by2 f p0))), (4, .int (nI p)), (5, .int (nI i))], [.int (nI i)], M1)) rfl rfl rfl ?_
        refine ps_st (S' := (27, [(0, .ref m0), (1, .int (nI p0)), (2, .int (nI e)), (3, .int (nI (by2 f p0))), (4, .int (nI p)), (5, .int (nI i))], [.int (nI (by2 f p0)), .int (nI i)], M1)) rfl rfl rfl ?_
        refine ps_if2 (S1 := (126, [(0, .ref m0), (1, .int (nI p0)), (2, .int (nI e)), (3, .int (nI (by2 f p0))), (4, .int (nI p)), (5, .int (nI i))], [], M1)) (S2 := (30, [(0, .ref m0), (1, .int (nI p0)), (2, .int (nI e)), (3, .int (nI (by2 f p0))), (4, .int (nI p)), (5, .int (nI i))], [], M1)) rfl rfl rfl (fun c_27 => ?_) (fun c_27 => ?_)
        · have c_27 : (nI (by2 f p0)) ≤ (nI i) := of_decide_eq_true c_27
          have n_27 : by2 f p0 ≤ i := (le_nI (p := by2 f p0) (n := i) (Nat.lt_trans (by2_lt _ _) (by decide)) (by omega)).mp c_27
          refine ps_st (S' := (128, [(0, .ref m0), (1, .int (nI p0)), (2, .int (nI e)), (3, .int (nI (by2 f p0))), (4, .int (nI p)), (5, .int (nI i))], [.int (nI p)], M1)) rfl rfl rfl ?_
          refine ps_st (S' := (129, [(0, .ref m0), (1, .int (nI p0)), (2, .int (nI e)), (3, .int (nI (by2 f p0))), (4, .int (nI p)), (5, .int (nI i))], [.int (nI e), .int (nI p)], M1)) rfl rfl rfl ?_
          refine ps_if2 (S1 := (135, [(0, .ref m0), (1, .int (nI p0)), (2, .int (nI e)), (3, .int (nI (by2 f p0))), (4, .int (nI p)), (5, .int (nI i))], [], M1)) (S2 := (132, [(0, .ref m0), (1, .int (nI p0)), (2, .int (nI e)), (3, .int (nI (by2 f p0))), (4, .int (nI p)), (5, .int (nI i))], [], M1)) rfl rfl rfl (fun c_129 => ?_) (fun c_129 => ?_)
          · have c_129 : (nI p) = (nI e) := of_decide_eq_true c_129
            have n_129 : p = e := (eq_nI (p := p) (n := e) (by omega) (by omega)).mp c_129
            refine ps_st (S' := (136, [(0, .ref m0), (1, .int (nI p0)), (2, .int (nI e)), (3, .int (nI (by2 f p0))), (4, .int (nI p)), (5, .int (nI i))], [.int (nI p0)], M1)) rfl rfl rfl ?_
            refine ps_st (S' := (137, [(0, .ref m0), (1, .int (nI p0)), (2, .int (nI e)), (3, .int (nI (by2 f p0))), (4, .int (nI p)), (5, .int (nI i))], [.int 2, .int (nI p0)], M1)) rfl rfl rfl ?_
            refine ps_st (S' := (138, [(0, .ref m0), (1, .int (nI p0)), (2, .int (nI e)), (3, .int (nI (by2 f p0))), (4, .int (nI p)), (5, .int (nI i))], [.int ((nI p0) + 2)], M1)) rfl rfl rfl ?_
            rw [nI_add1 (p := p0) (k := 2) (x := 2) rfl (by omega)]
            show pl _ _ _ (_, [(0, .ref m0), (1, .int (nI p0)), (2, .int (nI e)), (3, .int (nI (by2 f p0))), (4, .int (nI p)), (5, .int (nI i))], [.int (nI (p0 + 2))], M1) _
            refine ps_st (S' := (140, [(4, .int (nI (p0 + 2))), (0, .ref m0), (1, .int (nI p0)), (2, .int (nI e)), (3, .int (nI (by2 f p0))), (5, .int (nI i))], [], M1)) rfl rfl rfl ?_
            refine ps_st (S' := (141, [(4, .int (nI (p0 + 2))), (0, .ref m0), (1, .int (nI p0)), (2, .int (nI e)), (3, .int (nI (by2 f p0))), (5, .int (nI i))], [.int 0], M1)) rfl rfl rfl ?_
            refine ps_st (S' := (143, [(0, .ref m0), (3, .int (nI (by2 f p0))), (4, .int (nI (p0 + 2))), (5, .int 0)], [], M1)) rfl rfl rfl ?_
            exact ih.2.2.1 (0) (p0 + 2) M1 I1 R1 hR1 hEI1 hER1 hl51 hl52 hl53 hF1 hY1 hP1 (by
                rw [fe_9 h2, ← hs, show by2 f p0 - i = 0 by omega, show p = e by omega]
                rfl) (by omega) (by
                rw [show by2 f p0 - 0 = by2 f p0 from rfl, ← hs, show by2 f p0 - i = 0 by omega, show p = e by omega]
                rfl) (rfl)
          · have c_129 : ¬ ((nI p) = (nI e)) := of_decide_eq_false c_129
            have n_129 : ¬ (p = e) := fun h9 => c_129 ((eq_nI (p := p) (n := e) (by omega) (by omega)).mpr h9)
            refine ps_st (S' := (134, [(0, .ref m0), (1, .int (nI p0)), (2, .int (nI e)), (3, .int (nI (by2 f p0))), (4, .int (nI p)), (5, .int (nI i))], [.int 30], M1)) rfl rfl rfl ?_
            exact ps_ret rfl rfl (Or.inl ⟨I1, R1, by
                rw [fe_9 h2, ← hs, show by2 f p0 - i = 0 by omega]
                exact fun h9 => n_129 (Option.some.inj h9), rfl, hR1, hEI1, hER1⟩)
        · have c_27 : ¬ ((nI (by2 f p0)) ≤ (nI i)) := of_decide_eq_false c_27
          have n_27 : ¬ (by2 f p0 ≤ i) := fun h9 => c_27 ((le_nI (p := by2 f p0) (n := i) (Nat.lt_trans (by2_lt _ _) (by decide)) (by omega)).mpr h9)
          refine ps_st (S' := (32, [(0, .ref m0), (1, .int (nI p0)), (2, .int (nI e)), (3, .int (nI (by2 f p0))), (4, .int (nI p)), (5, .int (nI i))], [.int (nI p)], M1)) rfl rfl rfl ?_
          refine ps_st (S' := (34, [(0, .ref m0), (1, .int (nI p0)), (2, .int (nI e)), (3, .int (nI (by2 f p0))), (4, .int (nI p)), (5, .int (nI i))], [.int 6, .int (nI p)], M1)) rfl rfl rfl ?_
          refine ps_st (S' := (35, [(0, .ref m0), (1, .int (nI p0)), (2, .int (nI e)), (3, .int (nI (by2 f p0))), (4, .int (nI p)), (5, .int (nI i))], [.int ((nI p) + 6)], M1)) rfl rfl rfl ?_
          rw [nI_add1 (p := p) (k := 6) (x := 6) rfl (by omega)]
          show pl _ _ _ (_, [(0, .ref m0), (1, .int (nI p0)), (2, .int (nI e)), (3, .int (nI (by2 f p0))), (4, .int (nI p)), (5, .int (nI i))], [.int (nI (p + 6))], M1) _
          refine ps_st (S' := (36, [(0, .ref m0), (1, .int (nI p0)), (2, .int (nI e)), (3, .int (nI (by2 f p0))), (4, .int (nI p)), (5, .int (nI i))], [.int (nI e), .int (nI (p + 6))], M1)) rfl rfl rfl ?_
          refine ps_if2 (S1 := (42, [(0, .ref m0), (1, .int (nI p0)), (2, .int (nI e)), (3, .int (nI (by2 f p0))), (4, .int (nI p)), (5, .int (nI i))], [], M1)) (S2 := (39, [(0, .ref m0), (1, .int (nI p0)), (2, .int (nI e)), (3, .int (nI (by2 f p0))), (4, .int (nI p)), (5, .int (nI i))], [], M1)) rfl rfl rfl (fun c_36 => ?_) (fun c_36 => ?_)
          · have c_36 : (nI (p + 6)) ≤ (nI e) := of_decide_eq_true c_36
            have n_36 : p + 6 ≤ e := (le_nI (p := p + 6) (n := e) (by omega) (by omega)).mp c_36
            refine ps_st (S' := (43, [(0, .ref m0), (1, .int (nI p0)), (2, .int (nI e)), (3, .int (nI (by2 f p0))), (4, .int (nI p)), (5, .int (nI i))], [.ref m0], M1)) rfl rfl rfl ?_
            refine ps_st (S' := (45, [(0, .ref m0), (1, .int (nI p0)), (2, .int (nI e)), (3, .int (nI (by2 f p0))), (4, .int (nI p)), (5, .int (nI i))], [.int (nI p), .ref m0], M1)) rfl rfl rfl ?_
            refine ps_st (S' := (46, [(0, .ref m0), (1, .int (nI p0)), (2, .int (nI e)), (3, .int (nI (by2 f p0))), (4, .int (nI p)), (5, .int (nI i))], [.int 4, .int (nI p), .ref m0], M1)) rfl rfl rfl ?_
            refine ps_st (S' := (47, [(0, .ref m0), (1, .int (nI p0)), (2, .int (nI e)), (3, .int (nI (by2 f p0))), (4, .int (nI p)), (5, .int (nI i))], [.int ((nI p) + 4), .ref m0], M1)) rfl rfl rfl ?_
            rw [nI_add1 (p := p) (k := 4) (x := 4) rfl (by omega)]
            show pl _ _ _ (_, [(0, .ref m0), (1, .int (nI p0)), (2, .int (nI e)), (3, .int (nI (by2 f p0))), (4, .int (nI p)), (5, .int (nI i))], [.int (nI (p + 4)), .ref m0], M1) _
            refine pl_call (a := [.ref m0, .int (nI (p + 4))]) (rest := []) rfl rfl rfl (rd_u2 (n := n) (f := f) (p := (p + 4)) hR1 hF1 (by omega)) (fun v1 M2 q3 => ?_)
            obtain ⟨rfl, rfl⟩ := q3
            show pl _ _ _ (50, [(0, .ref m0), (1, .int (nI p0)), (2, .int (nI e)), (3, .int (nI (by2 f p0))), (4, .int (nI p)), (5, .int (nI i))], [.int (nI (by2 f (p + 4)))], M1) _
            have hu_47 := by2_lt f (p + 4)
            refine ps_st (S' := (52, [(6, .int (nI (by2 f (p + 4)))), (0, .ref m0), (1, .int (nI p0)), (2, .int (nI e)), (3, .int (nI (by2 f p0))), (4, .int (nI p)), (5, .int (nI i))], [], M1)) rfl rfl rfl ?_
            refine ps_st (S' := (55, [(4, .int ((nI p) + 6)), (6, .int (nI (by2 f (p + 4)))), (0, .ref m0), (1, .int (nI p0)), (2, .int (nI e)), (3, .int (nI (by2 f p0))), (5, .int (nI i))], [], M1)) rfl rfl rfl ?_
            rw [nI_add1 (p := p) (k := 6) (x := 6) rfl (by omega)]
            show pl _ _ _ (_, [(4, .int (nI (p + 6))), (6, .int (nI (by2 f (p + 4)))), (0, .ref m0), (1, .int (nI p0)), (2, .int (nI e)), (3, .int (nI (by2 f p0))), (5, .int (nI i))], [], M1) _
            refine ps_st (S' := (56, [(4, .int (nI (p + 6))), (6, .int (nI (by2 f (p + 4)))), (0, .ref m0), (1, .int (nI p0)), (2, .int (nI e)), (3, .int (nI (by2 f p0))), (5, .int (nI i))], [.int 0], M1)) rfl rfl rfl ?_
            refine ps_st (S' := (58, [(0, .ref m0), (1, .int (nI p0)), (2, .int (nI e)), (3, .int (nI (by2 f p0))), (4, .int (nI (p + 6))), (5, .int (nI i)), (6, .int (nI (by2 f (p + 4)))), (7, .int 0)], [], M1)) rfl rfl rfl ?_
            exact ih.2.1 (i) (p) (0) (p + 6) M1 I1 R1 hR1 hEI1 hER1 hl51 hl52 hl53 hF1 hY1 hP1 (h2) (by omega) (by omega) (by omega) (hs) (rfl)
          · have c_36 : ¬ ((nI (p + 6)) ≤ (nI e)) := of_decide_eq_false c_36
            have n_36 : ¬ (p + 6 ≤ e) := fun h9 => c_36 ((le_nI (p := p + 6) (n := e) (by omega) (by omega)).mpr h9)
            refine ps_st (S' := (41, [(0, .ref m0), (1, .int (nI p0)), (2, .int (nI e)), (3, .int (nI (by2 f p0))), (4, .int (nI p)), (5, .int (nI i))], [.int 30], M1)) rfl rfl rfl ?_
            exact ps_ret rfl rfl (Or.inl ⟨I1, R1, by
                rw [fe_9 h2, ← hs, s_rcE_st (i := i) (p := p) (by omega), if_pos (by omega)]
                exact (fun h9 => (by cases h9)), rfl, hR1, hEI1, hER1⟩)
      · skip
        intro i p j y M1 I1 R1 hR1 hEI1 hER1 hl51 hl52 hl53 hF1 hY1 hP1 h2 hi hj hp hs hg
        have hn := hF1.1
        have hu9 := by2_lt f p0
        have hu8 := by2_lt f (p + 4)
        refine ps_st1 (S' := (60, [(0, .ref m0), (1, .int (nI p0)), (2, .int (nI e)), (3, .int (nI (by2 f p0))), (4, .int (nI y)), (5, .int (nI i)), (6, .int (nI (by2 f (p + 4)))), (7, .int (nI j))], [.int (nI j)], M1)) rfl rfl rfl ?_
        refine ps_st (S' := (62, [(0, .ref m0), (1, .int (nI p0)), (2, .int (nI e)), (3, .int (nI (by2 f p0))), (4, .int (nI y)), (5, .int (nI i)), (6, .int (nI (by2 f (p + 4)))), (7, .int (nI j))], [.int (nI (by2 f (p + 4))), .int (nI j)], M1)) rfl rfl rfl ?_
        refine ps_if2 (S1 := (120, [(0, .ref m0), (1, .int (nI p0)), (2, .int (nI e)), (3, .int (nI (by2 f p0))), (4, .int (nI y)), (5, .int (nI i)), (6, .int (nI (by2 f (p + 4)))), (7, .int (nI j))], [], M1)) (S2 := (65, [(0, .ref m0), (1, .int (nI p0)), (2, .int (nI e)), (3, .int (nI (by2 f p0))), (4, .int (nI y)), (5, .int (nI i)), (6, .int (nI (by2 f (p + 4)))), (7, .int (nI j))], [], M1)) rfl rfl rfl (fun c_62 => ?_) (fun c_62 => ?_)
        · have c_62 : (nI (by2 f (p + 4))) ≤ (nI j) := of_decide_eq_true c_62
          have n_62 : by2 f (p + 4) ≤ j := (le_nI (p := by2 f (p + 4)) (n := j) (Nat.lt_trans (by2_lt _ _) (by decide)) (by omega)).mp c_62
          refine ps_st (S' := (123, [(5, .int ((nI i) + 1)), (0, .ref m0), (1, .int (nI p0)), (2, .int (nI e)), (3, .int (nI (by2 f p0))), (4, .int (nI y)), (6, .int (nI (by2 f (p + 4)))), (7, .int (nI j))], [], M1)) rfl rfl rfl ?_
          rw [nI_add1 (p := i) (k := 1) (x := 1) rfl (by omega)]
          show pl _ _ _ (_, [(5, .int (nI (i + 1))), (0, .ref m0), (1, .int (nI p0)), (2, .int (nI e)), (3, .int (nI (by2 f p0))), (4, .int (nI y)), (6, .int (nI (by2 f (p + 4)))), (7, .int (nI j))], [], M1) _
          refine ps_st (S' := (24, [(0, .ref m0), (1, .int (nI p0)), (2, .int (nI e)), (3, .int (nI (by2 f p0))), (4, .int (nI y)), (5, .int (nI (i + 1)))], [], M1)) rfl rfl rfl ?_
          exact ih.1 (i + 1) (y) M1 I1 R1 hR1 hEI1 hER1 hl51 hl52 hl53 hF1 hY1 hP1 (h2) (by omega) (by omega) (by
              rw [← hs, s_rcE_st (i := i) (p := p) (by omega), if_neg (by omega), ← hg, show by2 f (p + 4) - j = 0 by omega]
              rfl)
        · have c_62 : ¬ ((nI (by2 f (p + 4))) ≤ (nI j)) := of_decide_eq_false c_62
          have n_62 : ¬ (by2 f (p + 4) ≤ j) := fun h9 => c_62 ((le_nI (p := by2 f (p + 4)) (n := j) (Nat.lt_trans (by2_lt _ _) (by decide)) (by omega)).mpr h9)
          refine ps_st (S' := (67, [(0, .ref m0), (1, .int (nI p0)), (2, .int (nI e)), (3, .int (nI (by2 f p0))), (4, .int (nI y)), (5, .int (nI i)), (6, .int (nI (by2 f (p + 4)))), (7, .int (nI j))], [.int (nI y)], M1)) rfl rfl rfl ?_
          refine ps_st (S' := (69, [(0, .ref m0), (1, .int (nI p0)), (2, .int (nI e)), (3, .int (nI (by2 f p0))), (4, .int (nI y)), (5, .int (nI i)), (6, .int (nI (by2 f (p + 4)))), (7, .int (nI j))], [.int 6, .int (nI y)], M1)) rfl rfl rfl ?_
          refine ps_st (S' := (70, [(0, .ref m0), (1, .int (nI p0)), (2, .int (nI e)), (3, .int (nI (by2 f p0))), (4, .int (nI y)), (5, .int (nI i)), (6, .int (nI (by2 f (p + 4)))), (7, .int (nI j))], [.int ((nI y) + 6)], M1)) rfl rfl rfl ?_
          rw [nI_add1 (p := y) (k := 6) (x := 6) rfl (by omega)]
          show pl _ _ _ (_, [(0, .ref m0), (1, .int (nI p0)), (2, .int (nI e)), (3, .int (nI (by2 f p0))), (4, .int (nI y)), (5, .int (nI i)), (6, .int (nI (by2 f (p + 4)))), (7, .int (nI j))], [.int (nI (y + 6))], M1) _
          refine ps_st (S' := (71, [(0, .ref m0), (1, .int (nI p0)), (2, .int (nI e)), (3, .int (nI (by2 f p0))), (4, .int (nI y)), (5, .int (nI i)), (6, .int (nI (by2 f (p + 4)))), (7, .int (nI j))], [.int (nI e), .int (nI (y + 6))], M1)) rfl rfl rfl ?_
          refine ps_if2 (S1 := (94, [], [], M1)) (S2 := (74, [(0, .ref m0), (1, .int (nI p0)), (2, .int (nI e)), (3, .int (nI (by2 f p0))), (4, .int (nI y)), (5, .int (nI i)), (6, .int (nI (by2 f (p + 4)))), (7, .int (nI j))], [], M1)) rfl rfl rfl (fun c_71 => ?_) (fun c_71 => ?_)
          · have c_71 : (nI e) < (nI (y + 6)) := of_decide_eq_true c_71
            have n_71 : e < y + 6 := (lt_nI (p := e) (n := y + 6) (by omega) (by omega)).mp c_71
            refine ps_st (S' := (96, [], [.int 30], M1)) rfl rfl rfl ?_
            exact ps_ret rfl rfl (Or.inl ⟨I1, R1, by
                rw [fe_9 h2, ← hs, s_rcE_st (i := i) (p := p) (by omega), if_neg (by omega), ← hg, s_atE_st (i := j) (p := y) (by omega)]
                rw [if_pos (by omega)]
                exact (fun h9 => (by cases h9)), rfl, hR1, hEI1, hER1⟩)
          · have c_71 : ¬ ((nI e) < (nI (y + 6))) := of_decide_eq_false c_71
            have n_71 : ¬ (e < y + 6) := fun h9 => c_71 ((lt_nI (p := e) (n := y + 6) (by omega) (by omega)).mpr h9)
            refine ps_st (S' := (75, [(0, .ref m0), (1, .int (nI p0)), (2, .int (nI e)), (3, .int (nI (by2 f p0))), (4, .int (nI y)), (5, .int (nI i)), (6, .int (nI (by2 f (p + 4)))), (7, .int (nI j))], [.ref m0], M1)) rfl rfl rfl ?_
            refine ps_st (S' := (77, [(0, .ref m0), (1, .int (nI p0)), (2, .int (nI e)), (3, .int (nI (by2 f p0))), (4, .int (nI y)), (5, .int (nI i)), (6, .int (nI (by2 f (p + 4)))), (7, .int (nI j))], [.int (nI y), .ref m0], M1)) rfl rfl rfl ?_
            refine ps_st (S' := (78, [(0, .ref m0), (1, .int (nI p0)), (2, .int (nI e)), (3, .int (nI (by2 f p0))), (4, .int (nI y)), (5, .int (nI i)), (6, .int (nI (by2 f (p + 4)))), (7, .int (nI j))], [.int 2, .int (nI y), .ref m0], M1)) rfl rfl rfl ?_
            refine ps_st (S' := (79, [(0, .ref m0), (1, .int (nI p0)), (2, .int (nI e)), (3, .int (nI (by2 f p0))), (4, .int (nI y)), (5, .int (nI i)), (6, .int (nI (by2 f (p + 4)))), (7, .int (nI j))], [.int ((nI y) + 2), .ref m0], M1)) rfl rfl rfl ?_
            rw [nI_add1 (p := y) (k := 2) (x := 2) rfl (by omega)]
            show pl _ _ _ (_, [(0, .ref m0), (1, .int (nI p0)), (2, .int (nI e)), (3, .int (nI (by2 f p0))), (4, .int (nI y)), (5, .int (nI i)), (6, .int (nI (by2 f (p + 4)))), (7, .int (nI j))], [.int (nI (y + 2)), .ref m0], M1) _
            refine pl_call (a := [.ref m0, .int (nI (y + 2))]) (rest := []) rfl rfl rfl (rd_u4 (n := n) (f := f) (p := (y + 2)) hR1 hF1 (by omega)) (fun v4 M5 q6 => ?_)
            obtain ⟨rfl, rfl⟩ := q6
            show pl _ _ _ (82, [(0, .ref m0), (1, .int (nI p0)), (2, .int (nI e)), (3, .int (nI (by2 f p0))), (4, .int (nI y)), (5, .int (nI i)), (6, .int (nI (by2 f (p + 4)))), (7, .int (nI j))], [.long (nL (by4 f (y + 2)))], M1) _
            have hu_79 := by4_lt f (y + 2)
            refine ps_st (S' := (83, [(0, .ref m0), (1, .int (nI p0)), (2, .int (nI e)), (3, .int (nI (by2 f p0))), (4, .int (nI y)), (5, .int (nI i)), (6, .int (nI (by2 f (p + 4)))), (7, .int (nI j))], [.int (nI e), .long (nL (by4 f (y + 2)))], M1)) rfl rfl rfl ?_
            refine ps_st (S' := (85, [(0, .ref m0), (1, .int (nI p0)), (2, .int (nI e)), (3, .int (nI (by2 f p0))), (4, .int (nI y)), (5, .int (nI i)), (6, .int (nI (by2 f (p + 4)))), (7, .int (nI j))], [.int (nI y), .int (nI e), .long (nL (by4 f (y + 2)))], M1)) rfl rfl rfl ?_
            refine ps_st (S' := (86, [(0, .ref m0), (1, .int (nI p0)), (2, .int (nI e)), (3, .int (nI (by2 f p0))), (4, .int (nI y)), (5, .int (nI i)), (6, .int (nI (by2 f (p + 4)))), (7, .int (nI j))], [.int ((nI e) - (nI y)), .long (nL (by4 f (y + 2)))], M1)) rfl rfl rfl ?_
            rw [nI_sub1 (p := e) (k := y) (x := (nI y)) rfl (by omega) (by omega)]
            show pl _ _ _ (_, [(0, .ref m0), (1, .int (nI p0)), (2, .int (nI e)), (3, .int (nI (by2 f p0))), (4, .int (nI y)), (5, .int (nI i)), (6, .int (nI (by2 f (p + 4)))), (7, .int (nI j))], [.int (nI (e - y)), .long (nL (by4 f (y + 2)))], M1) _
            refine ps_st (S' := (88, [(0, .ref m0), (1, .int (nI p0)), (2, .int (nI e)), (3, .int (nI (by2 f p0))), (4, .int (nI y)), (5, .int (nI i)), (6, .int (nI (by2 f (p + 4)))), (7, .int (nI j))], [.int 6, .int (nI (e - y)), .long (nL (by4 f (y + 2)))], M1)) rfl rfl rfl ?_
            refine ps_st (S' := (89, [(0, .ref m0), (1, .int (nI p0)), (2, .int (nI e)), (3, .int (nI (by2 f p0))), (4, .int (nI y)), (5, .int (nI i)), (6, .int (nI (by2 f (p + 4)))), (7, .int (nI j))], [.int ((nI (e - y)) - 6), .long (nL (by4 f (y + 2)))], M1)) rfl rfl rfl ?_
            rw [nI_sub1 (p := e - y) (k := 6) (x := 6) rfl (by omega) (by omega)]
            show pl _ _ _ (_, [(0, .ref m0), (1, .int (nI p0)), (2, .int (nI e)), (3, .int (nI (by2 f p0))), (4, .int (nI y)), (5, .int (nI i)), (6, .int (nI (by2 f (p + 4)))), (7, .int (nI j))], [.int (nI ((e - y) - 6)), .long (nL (by4 f (y + 2)))], M1) _
            refine ps_st (S' := (90, [(0, .ref m0), (1, .int (nI p0)), (2, .int (nI e)), (3, .int (nI (by2 f p0))), (4, .int (nI y)), (5, .int (nI i)), (6, .int (nI (by2 f (p + 4)))), (7, .int (nI j))], [.long (Int32.toInt64 (nI ((e - y) - 6))), .long (nL (by4 f (y + 2)))], M1)) rfl rfl rfl ?_
            rw [i2l_nL (p := (e - y) - 6) (by omega)]
            show pl _ _ _ (_, [(0, .ref m0), (1, .int (nI p0)), (2, .int (nI e)), (3, .int (nI (by2 f p0))), (4, .int (nI y)), (5, .int (nI i)), (6, .int (nI (by2 f (p + 4)))), (7, .int (nI j))], [.long (nL ((e - y) - 6)), .long (nL (by4 f (y + 2)))], M1) _
            refine ps_st (S' := (91, [(0, .ref m0), (1, .int (nI p0)), (2, .int (nI e)), (3, .int (nI (by2 f p0))), (4, .int (nI y)), (5, .int (nI i)), (6, .int (nI (by2 f (p + 4)))), (7, .int (nI j))], [.int (lg_cmp (nL (by4 f (y + 2))) (nL ((e - y) - 6)))], M1)) rfl rfl rfl ?_
            refine ps_if (S1 := (97, [(0, .ref m0), (1, .int (nI p0)), (2, .int (nI e)), (3, .int (nI (by2 f p0))), (4, .int (nI y)), (5, .int (nI i)), (6, .int (nI (by2 f (p + 4)))), (7, .int (nI j))], [], M1)) (S2 := (94, [], [], M1)) rfl rfl rfl (fun c_91 => ?_) (fun c_91 => ?_)
            · have n_91 : by4 f (y + 2) ≤ (e - y) - 6 := (cL_le (p := by4 f (y + 2)) (k := (e - y) - 6) (x := (nL (by4 f (y + 2)))) (y := (nL ((e - y) - 6))) rfl rfl (by omega) (by omega)).mp (of_decide_eq_true c_91)
              refine ps_st (S' := (99, [(0, .ref m0), (1, .int (nI p0)), (2, .int (nI e)), (3, .int (nI (by2 f p0))), (4, .int (nI y)), (5, .int (nI i)), (6, .int (nI (by2 f (p + 4)))), (7, .int (nI j))], [.int (nI y)], M1)) rfl rfl rfl ?_
              refine ps_st (S' := (101, [(0, .ref m0), (1, .int (nI p0)), (2, .int (nI e)), (3, .int (nI (by2 f p0))), (4, .int (nI y)), (5, .int (nI i)), (6, .int (nI (by2 f (p + 4)))), (7, .int (nI j))], [.int 6, .int (nI y)], M1)) rfl rfl rfl ?_
              refine ps_st (S' := (102, [(0, .ref m0), (1, .int (nI p0)), (2, .int (nI e)), (3, .int (nI (by2 f p0))), (4, .int (nI y)), (5, .int (nI i)), (6, .int (nI (by2 f (p + 4)))), (7, .int (nI j))], [.ref m0, .int 6, .int (nI y)], M1)) rfl rfl rfl ?_
              refine ps_st (S' := (104, [(0, .ref m0), (1, .int (nI p0)), (2, .int (nI e)), (3, .int (nI (by2 f p0))), (4, .int (nI y)), (5, .int (nI i)), (6, .int (nI (by2 f (p + 4)))), (7, .int (nI j))], [.int (nI y), .ref m0, .int 6, .int (nI y)], M1)) rfl rfl rfl ?_
              refine ps_st (S' := (105, [(0, .ref m0), (1, .int (nI p0)), (2, .int (nI e)), (3, .int (nI (by2 f p0))), (4, .int (nI y)), (5, .int (nI i)), (6, .int (nI (by2 f (p + 4)))), (7, .int (nI j))], [.int 2, .int (nI y), .ref m0, .int 6, .int (nI y)], M1)) rfl rfl rfl ?_
              refine ps_st (S' := (106, [(0, .ref m0), (1, .int (nI p0)), (2, .int (nI e)), (3, .int (nI (by2 f p0))), (4, .int (nI y)), (5, .int (nI i)), (6, .int (nI (by2 f (p + 4)))), (7, .int (nI j))], [.int ((nI y) + 2), .ref m0, .int 6, .int (nI y)], M1)) rfl rfl rfl ?_
              rw [nI_add1 (p := y) (k := 2) (x := 2) rfl (by omega)]
              show pl _ _ _ (_, [(0, .ref m0), (1, .int (nI p0)), (2, .int (nI e)), (3, .int (nI (by2 f p0))), (4, .int (nI y)), (5, .int (nI i)), (6, .int (nI (by2 f (p + 4)))), (7, .int (nI j))], [.int (nI (y + 2)), .ref m0, .int 6, .int (nI y)], M1) _
              refine pl_call (a := [.ref m0, .int (nI (y + 2))]) (rest := [.int 6, .int (nI y)]) rfl rfl rfl (rd_u4 (n := n) (f := f) (p := (y + 2)) hR1 hF1 (by omega)) (fun v7 M8 q9 => ?_)
              obtain ⟨rfl, rfl⟩ := q9
              show pl _ _ _ (109, [(0, .ref m0), (1, .int (nI p0)), (2, .int (nI e)), (3, .int (nI (by2 f p0))), (4, .int (nI y)), (5, .int (nI i)), (6, .int (nI (by2 f (p + 4)))), (7, .int (nI j))], [.long (nL (by4 f (y + 2))), .int 6, .int (nI y)], M1) _
              have hu_106 := by4_lt f (y + 2)
              refine ps_st (S' := (110, [(0, .ref m0), (1, .int (nI p0)), (2, .int (nI e)), (3, .int (nI (by2 f p0))), (4, .int (nI y)), (5, .int (nI i)), (6, .int (nI (by2 f (p + 4)))), (7, .int (nI j))], [.int (Int64.toInt32 (nL (by4 f (y + 2)))), .int 6, .int (nI y)], M1)) rfl rfl rfl ?_
              rw [l2i_nL (p := by4 f (y + 2)) (by omega)]
              show pl _ _ _ (_, [(0, .ref m0), (1, .int (nI p0)), (2, .int (nI e)), (3, .int (nI (by2 f p0))), (4, .int (nI y)), (5, .int (nI i)), (6, .int (nI (by2 f (p + 4)))), (7, .int (nI j))], [.int (nI (by4 f (y + 2))), .int 6, .int (nI y)], M1) _
              refine ps_st (S' := (111, [(0, .ref m0), (1, .int (nI p0)), (2, .int (nI e)), (3, .int (nI (by2 f p0))), (4, .int (nI y)), (5, .int (nI i)), (6, .int (nI (by2 f (p + 4)))), (7, .int (nI j))], [.int (6 + (nI (by4 f (y + 2)))), .int (nI y)], M1)) rfl rfl rfl ?_
              rw [nI_add2 (p := 6) (k := by4 f (y + 2)) (x := 6) (y := (nI (by4 f (y + 2)))) rfl rfl (by omega)]
              show pl _ _ _ (_, [(0, .ref m0), (1, .int (nI p0)), (2, .int (nI e)), (3, .int (nI (by2 f p0))), (4, .int (nI y)), (5, .int (nI i)), (6, .int (nI (by2 f (p + 4)))), (7, .int (nI j))], [.int (nI (6 + by4 f (y + 2))), .int (nI y)], M1) _
              refine ps_st (S' := (112, [(0, .ref m0), (1, .int (nI p0)), (2, .int (nI e)), (3, .int (nI (by2 f p0))), (4, .int (nI y)), (5, .int (nI i)), (6, .int (nI (by2 f (p + 4)))), (7, .int (nI j))], [.int ((nI y) + (nI (6 + by4 f (y + 2))))], M1)) rfl rfl rfl ?_
              rw [nI_add1 (p := y) (k := 6 + by4 f (y + 2)) (x := (nI (6 + by4 f (y + 2)))) rfl (by omega)]
              rw [show nI (y + (6 + by4 f (y + 2))) = nI (y + 6 + by4 f (y + 2)) from congrArg nI (by omega)]
              show pl _ _ _ (_, [(0, .ref m0), (1, .int (nI p0)), (2, .int (nI e)), (3, .int (nI (by2 f p0))), (4, .int (nI y)), (5, .int (nI i)), (6, .int (nI (by2 f (p + 4)))), (7, .int (nI j))], [.int (nI (y + 6 + by4 f (y + 2)))], M1) _
              refine ps_st (S' := (114, [(4, .int (nI (y + 6 + by4 f (y + 2)))), (0, .ref m0), (1, .int (nI p0)), (2, .int (nI e)), (3, .int (nI (by2 f p0))), (5, .int (nI i)), (6, .int (nI (by2 f (p + 4)))), (7, .int (nI j))], [], M1)) rfl rfl rfl ?_
              refine ps_st (S' := (117, [(7, .int ((nI j) + 1)), (4, .int (nI (y + 6 + by4 f (y + 2)))), (0, .ref m0), (1, .int (nI p0)), (2, .int (nI e)), (3, .int (nI (by2 f p0))), (5, .int (nI i)), (6, .int (nI (by2 f (p + 4))))], [], M1)) rfl rfl rfl ?_
              rw [nI_add1 (p := j) (k := 1) (x := 1) rfl (by omega)]
              show pl _ _ _ (_, [(7, .int (nI (j + 1))), (4, .int (nI (y + 6 + by4 f (y + 2)))), (0, .ref m0), (1, .int (nI p0)), (2, .int (nI e)), (3, .int (nI (by2 f p0))), (5, .int (nI i)), (6, .int (nI (by2 f (p + 4))))], [], M1) _
              refine ps_st (S' := (58, [(0, .ref m0), (1, .int (nI p0)), (2, .int (nI e)), (3, .int (nI (by2 f p0))), (4, .int (nI (y + 6 + by4 f (y + 2)))), (5, .int (nI i)), (6, .int (nI (by2 f (p + 4)))), (7, .int (nI (j + 1)))], [], M1)) rfl rfl rfl ?_
              exact ih.2.1 (i) (p) (j + 1) (y + 6 + by4 f (y + 2)) M1 I1 R1 hR1 hEI1 hER1 hl51 hl52 hl53 hF1 hY1 hP1 (h2) (hi) (by omega) (by omega) (hs) (by
                  rw [← hg, s_atE_st (i := j) (p := y) (by omega), if_neg (by omega), if_neg (by omega)])
            · have n_91 : ¬ (by4 f (y + 2) ≤ (e - y) - 6) := fun h9 => of_decide_eq_false c_91 ((cL_le (p := by4 f (y + 2)) (k := (e - y) - 6) (x := (nL (by4 f (y + 2)))) (y := (nL ((e - y) - 6))) rfl rfl (by omega) (by omega)).mpr h9)
              refine ps_st (S' := (96, [], [.int 30], M1)) rfl rfl rfl ?_
              exact ps_ret rfl rfl (Or.inl ⟨I1, R1, by
                  rw [fe_9 h2, ← hs, s_rcE_st (i := i) (p := p) (by omega), if_neg (by omega), ← hg, s_atE_st (i := j) (p := y) (by omega)]
                  rw [if_neg (by omega), if_pos (by omega)]
                  exact (fun h9 => (by cases h9)), rfl, hR1, hEI1, hER1⟩)
      · skip
        intro i p M1 I1 R1 hR1 hEI1 hER1 hl51 hl52 hl53 hF1 hY1 hP1 hfe hi hf hs
        have hn := hF1.1
        have hu9 := by2_lt f p0
        refine ps_st1 (S' := (145, [(0, .ref m0), (3, .int (nI (by2 f p0))), (4, .int (nI p)), (5, .int (nI i))], [.int (nI i)], M1)) rfl rfl rfl ?_
        refine ps_st (S' := (146, [(0, .ref m0), (3, .int (nI (by2 f p0))), (4, .int (nI p)), (5, .int (nI i))], [.int (nI (by2 f p0)), .int (nI i)], M1)) rfl rfl rfl ?_
        refine ps_if2 (S1 := (296, [(0, .ref m0), (3, .int (nI (by2 f p0))), (4, .int (nI p)), (5, .int (nI i))], [], M1)) (S2 := (149, [(0, .ref m0), (3, .int (nI (by2 f p0))), (4, .int (nI p)), (5, .int (nI i))], [], M1)) rfl rfl rfl (fun c_146 => ?_) (fun c_146 => ?_)
        · have c_146 : (nI (by2 f p0)) ≤ (nI i) := of_decide_eq_true c_146
          have n_146 : by2 f p0 ≤ i := (le_nI (p := by2 f p0) (n := i) (Nat.lt_trans (by2_lt _ _) (by decide)) (by omega)).mp c_146
          refine ps_st (S' := (297, [(0, .ref m0), (3, .int (nI (by2 f p0))), (4, .int (nI p)), (5, .int (nI i))], [.ref m0], M1)) rfl rfl rfl ?_
          refine ps_st (S' := (298, [(0, .ref m0), (3, .int (nI (by2 f p0))), (4, .int (nI p)), (5, .int (nI i))], [.int (nI (by2 f p0)), .ref m0], M1)) rfl rfl rfl ?_
          refine pr_put (j := 72) rfl hR1 rfl (fun M10 I11 hR12 hi13 hI14 => ?_)
          have hi15 := (hI14 51 (by decide)).trans hl51
          have hi16 := (hI14 52 (by decide)).trans hl52
          have hi17 := (hI14 53 (by decide)).trans hl53
          have hF_18 := hF1.mono (pIx hI14 (by decide)) (fun _ _ => rfl)
          have hY_19 := hY1.mono (pIx hI14 (by decide)) (fun _ _ => rfl)
          have hP_20 := hP1.mono (pIx hI14 (by decide)) (fun _ _ => rfl)
          have hEI21 := hEI1.put hI14 (by decide)
          show pl _ _ _ (301, [(0, .ref m0), (3, .int (nI (by2 f p0))), (4, .int (nI p)), (5, .int (nI i))], [], M10) _
          refine ps_st (S' := (302, [(0, .ref m0), (3, .int (nI (by2 f p0))), (4, .int (nI p)), (5, .int (nI i))], [.int 0], M10)) rfl rfl rfl ?_
          exact ps_ret rfl rfl (Or.inr (Or.inr (Or.inr ⟨I11, R1, hfe, by
              rw [← hs, show by2 f p0 - i = 0 by omega]
              rfl, rfl, hR12, hEI21, hER1, hi13⟩)))
        · have c_146 : ¬ ((nI (by2 f p0)) ≤ (nI i)) := of_decide_eq_false c_146
          have n_146 : ¬ (by2 f p0 ≤ i) := fun h9 => c_146 ((le_nI (p := by2 f p0) (n := i) (Nat.lt_trans (by2_lt _ _) (by decide)) (by omega)).mpr h9)
          obtain ⟨hq5, y9, hq6, hq7⟩ := s_rcE_in (i := i) (p := p) hf (by omega)
          refine ps_st (S' := (150, [(0, .ref m0), (3, .int (nI (by2 f p0))), (4, .int (nI p)), (5, .int (nI i))], [.ref m0], M1)) rfl rfl rfl ?_
          refine ps_st (S' := (151, [(0, .ref m0), (3, .int (nI (by2 f p0))), (4, .int (nI p)), (5, .int (nI i))], [.ref m0, .ref m0], M1)) rfl rfl rfl ?_
          refine ps_st (S' := (153, [(0, .ref m0), (3, .int (nI (by2 f p0))), (4, .int (nI p)), (5, .int (nI i))], [.int (nI p), .ref m0, .ref m0], M1)) rfl rfl rfl ?_
          refine pl_call (a := [.ref m0, .int (nI p)]) (rest := [.ref m0]) rfl rfl rfl (rd_u2 (n := n) (f := f) (p := p) hR1 hF1 (by omega)) (fun v22 M23 q24 => ?_)
          obtain ⟨rfl, rfl⟩ := q24
          show pl _ _ _ (156, [(0, .ref m0), (3, .int (nI (by2 f p0))), (4, .int (nI p)), (5, .int (nI i))], [.int (nI (by2 f p)), .ref m0], M1) _
          have hu_153 := by2_lt f p
          refine pl_call (a := [.ref m0, .int (nI (by2 f p))]) (rest := []) rfl rfl rfl (rd_tag (n := n) (f := f) (tx := tx) (cN := cN) (A := A) (N := N) (mj := mj) (E := E) (k := (by2 f p)) hR1 hl51 hl52 hl53 hF1 hY1 hP1 (hEP) (hN) (hmj) (by2_lt _ _)) (fun v25 M26 q27 => ?_)
          obtain ⟨rfl, rfl⟩ := q27
          show pl _ _ _ (159, [(0, .ref m0), (3, .int (nI (by2 f p0))), (4, .int (nI p)), (5, .int (nI i))], [.int (nI (tg f E (by2 f p)))], M1) _
          have htg_156 := tg_lt f E (by2 f p)
          refine ps_st (S' := (160, [(0, .ref m0), (3, .int (nI (by2 f p0))), (4, .int (nI p)), (5, .int (nI i))], [.int 1, .int (nI (tg f E (by2 f p)))], M1)) rfl rfl rfl ?_
          refine ps_if2 (S1 := (216, [], [], M1)) (S2 := (163, [(0, .ref m0), (3, .int (nI (by2 f p0))), (4, .int (nI p)), (5, .int (nI i))], [], M1)) rfl rfl rfl (fun c_160 => ?_) (fun c_160 => ?_)
          · have c_160 : ¬ (nI (tg f E (by2 f p))) = 1 := of_decide_eq_true c_160
            have n_160 : ¬ (tg f E (by2 f p) = 1) := fun h9 => c_160 ((eq_nI (p := tg f E (by2 f p)) (n := 1) (Nat.lt_trans (tg_lt _ _ _) (by decide)) (by decide)).mpr h9)
            refine ps_st (S' := (218, [], [.int 37], M1)) rfl rfl rfl ?_
            exact ps_ret rfl rfl (Or.inr (Or.inl ⟨I1, R1, hfe, by
                rw [← hs, rcS_st (i := i) (by omega), if_pos (Or.inl (by rw [tx_no (by omega)]; decide))], rfl, hR1, hEI1, hER1⟩))
          · have c_160 : ¬ (¬ (nI (tg f E (by2 f p))) = 1) := of_decide_eq_false c_160
            have n_160 : tg f E (by2 f p) = 1 := (eq_nI (p := tg f E (by2 f p)) (n := 1) (Nat.lt_trans (tg_lt _ _ _) (by decide)) (by decide)).mp (Decidable.not_not.mp c_160)
            refine ps_st (S' := (164, [(0, .ref m0), (3, .int (nI (by2 f p0))), (4, .int (nI p)), (5, .int (nI i))], [.ref m0], M1)) rfl rfl rfl ?_
            refine ps_st (S' := (165, [(0, .ref m0), (3, .int (nI (by2 f p0))), (4, .int (nI p)), (5, .int (nI i))], [.ref m0, .ref m0], M1)) rfl rfl rfl ?_
            refine ps_st (S' := (166, [(0, .ref m0), (3, .int (nI (by2 f p0))), (4, .int (nI p)), (5, .int (nI i))], [.ref m0, .ref m0, .ref m0], M1)) rfl rfl rfl ?_
            refine ps_st (S' := (168, [(0, .ref m0), (3, .int (nI (by2 f p0))), (4, .int (nI p)), (5, .int (nI i))], [.int (nI p), .ref m0, .ref m0, .ref m0], M1)) rfl rfl rfl ?_
            refine pl_call (a := [.ref m0, .int (nI p)]) (rest := [.ref m0, .ref m0]) rfl rfl rfl (rd_u2 (n := n) (f := f) (p := p) hR1 hF1 (by omega)) (fun v28 M29 q30 => ?_)
            obtain ⟨rfl, rfl⟩ := q30
            show pl _ _ _ (171, [(0, .ref m0), (3, .int (nI (by2 f p0))), (4, .int (nI p)), (5, .int (nI i))], [.int (nI (by2 f p)), .ref m0, .ref m0], M1) _
            have hu_168 := by2_lt f p
            refine pl_call (a := [.ref m0, .int (nI (by2 f p))]) (rest := [.ref m0]) rfl rfl rfl (rd_symOf (n := n) (f := f) (tx := tx) (cN := cN) (A := A) (N := N) (mj := mj) (E := E) (k := (by2 f p)) hR1 hl51 hl52 hl53 hF1 hY1 hP1 (hEP) (hN) (hmj) (by omega)) (fun v31 M32 q33 => ?_)
            obtain ⟨s34, q171_s, rfl, rfl⟩ := q33
            show pl _ _ _ (174, [(0, .ref m0), (3, .int (nI (by2 f p0))), (4, .int (nI p)), (5, .int (nI i))], [.int (nI s34), .ref m0], M1) _
            have hsl_171 := q171_s.1
            have htl_171 := hY1.1.2.2.1
            refine ps_st (S' := (175, [(0, .ref m0), (3, .int (nI (by2 f p0))), (4, .int (nI p)), (5, .int (nI i))], [.int 1, .int (nI s34), .ref m0], M1)) rfl rfl rfl ?_
            refine pl_call (a := [.ref m0, .int (nI s34), .int 1]) (rest := []) rfl rfl rfl (rd_unq1 (tx := tx) (cN := cN) (A := A) (s := s34) (l := (tX f n E (by2 f p))) hR1 hY1 (q171_s)) (fun v35 M36 q37 => ?_)
            obtain ⟨rfl, rfl⟩ := q37
            show pl _ _ _ (178, [(0, .ref m0), (3, .int (nI (by2 f p0))), (4, .int (nI p)), (5, .int (nI i))], [.int (nI (unqN (tX f n E (by2 f p))))], M1) _
            refine ps_if (S1 := (216, [], [], M1)) (S2 := (181, [(0, .ref m0), (3, .int (nI (by2 f p0))), (4, .int (nI p)), (5, .int (nI i))], [], M1)) rfl rfl rfl (fun c_178 => ?_) (fun c_178 => ?_)
            · have c_178 : (nI (unqN (tX f n E (by2 f p)))) = 0 := of_decide_eq_true c_178
              have n_178 : unqN (tX f n E (by2 f p)) = 0 := (eq_nI (p := unqN (tX f n E (by2 f p))) (n := 0) (Nat.lt_trans (le1_unq _) (by decide)) (by decide)).mp c_178
              refine ps_st (S' := (218, [], [.int 37], M1)) rfl rfl rfl ?_
              exact ps_ret rfl rfl (Or.inr (Or.inl ⟨I1, R1, hfe, by
                  rw [← hs, rcS_st (i := i) (by omega), if_pos (by omega)], rfl, hR1, hEI1, hER1⟩))
            · have c_178 : ¬ ((nI (unqN (tX f n E (by2 f p)))) = 0) := of_decide_eq_false c_178
              have n_178 : ¬ (unqN (tX f n E (by2 f p)) = 0) := fun h9 => c_178 ((eq_nI (p := unqN (tX f n E (by2 f p))) (n := 0) (Nat.lt_trans (le1_unq _) (by decide)) (by decide)).mpr h9)
              refine ps_st (S' := (182, [(0, .ref m0), (3, .int (nI (by2 f p0))), (4, .int (nI p)), (5, .int (nI i))], [.ref m0], M1)) rfl rfl rfl ?_
              refine ps_st (S' := (183, [(0, .ref m0), (3, .int (nI (by2 f p0))), (4, .int (nI p)), (5, .int (nI i))], [.ref m0, .ref m0], M1)) rfl rfl rfl ?_
              refine ps_st (S' := (185, [(0, .ref m0), (3, .int (nI (by2 f p0))), (4, .int (nI p)), (5, .int (nI i))], [.int (nI p), .ref m0, .ref m0], M1)) rfl rfl rfl ?_
              refine ps_st (S' := (186, [(0, .ref m0), (3, .int (nI (by2 f p0))), (4, .int (nI p)), (5, .int (nI i))], [.int 2, .int (nI p), .ref m0, .ref m0], M1)) rfl rfl rfl ?_
              refine ps_st (S' := (187, [(0, .ref m0), (3, .int (nI (by2 f p0))), (4, .int (nI p)), (5, .int (nI i))], [.int ((nI p) + 2), .ref m0, .ref m0], M1)) rfl rfl rfl ?_
              rw [nI_add1 (p := p) (k := 2) (x := 2) rfl (by omega)]
              show pl _ _ _ (_, [(0, .ref m0), (3, .int (nI (by2 f p0))), (4, .int (nI p)), (5, .int (nI i))], [.int (nI (p + 2)), .ref m0, .ref m0], M1) _
              refine pl_call (a := [.ref m0, .int (nI (p + 2))]) (rest := [.ref m0]) rfl rfl rfl (rd_u2 (n := n) (f := f) (p := (p + 2)) hR1 hF1 (by omega)) (fun v38 M39 q40 => ?_)
              obtain ⟨rfl, rfl⟩ := q40
              show pl _ _ _ (190, [(0, .ref m0), (3, .int (nI (by2 f p0))), (4, .int (nI p)), (5, .int (nI i))], [.int (nI (by2 f (p + 2))), .ref m0], M1) _
              have hu_187 := by2_lt f (p + 2)
              refine pl_call (a := [.ref m0, .int (nI (by2 f (p + 2)))]) (rest := []) rfl rfl rfl (rd_tag (n := n) (f := f) (tx := tx) (cN := cN) (A := A) (N := N) (mj := mj) (E := E) (k := (by2 f (p + 2))) hR1 hl51 hl52 hl53 hF1 hY1 hP1 (hEP) (hN) (hmj) (by2_lt _ _)) (fun v41 M42 q43 => ?_)
              obtain ⟨rfl, rfl⟩ := q43
              show pl _ _ _ (193, [(0, .ref m0), (3, .int (nI (by2 f p0))), (4, .int (nI p)), (5, .int (nI i))], [.int (nI (tg f E (by2 f (p + 2))))], M1) _
              have htg_190 := tg_lt f E (by2 f (p + 2))
              refine ps_st (S' := (194, [(0, .ref m0), (3, .int (nI (by2 f p0))), (4, .int (nI p)), (5, .int (nI i))], [.int 1, .int (nI (tg f E (by2 f (p + 2))))], M1)) rfl rfl rfl ?_
              refine ps_if2 (S1 := (216, [], [], M1)) (S2 := (197, [(0, .ref m0), (3, .int (nI (by2 f p0))), (4, .int (nI p)), (5, .int (nI i))], [], M1)) rfl rfl rfl (fun c_194 => ?_) (fun c_194 => ?_)
              · have c_194 : ¬ (nI (tg f E (by2 f (p + 2)))) = 1 := of_decide_eq_true c_194
                have n_194 : ¬ (tg f E (by2 f (p + 2)) = 1) := fun h9 => c_194 ((eq_nI (p := tg f E (by2 f (p + 2))) (n := 1) (Nat.lt_trans (tg_lt _ _ _) (by decide)) (by decide)).mpr h9)
                refine ps_st (S' := (218, [], [.int 37], M1)) rfl rfl rfl ?_
                exact ps_ret rfl rfl (Or.inr (Or.inl ⟨I1, R1, hfe, by
                    rw [← hs, rcS_st (i := i) (by omega), if_pos (Or.inr (by rw [tx_no (by omega)]; decide))], rfl, hR1, hEI1, hER1⟩))
              · have c_194 : ¬ (¬ (nI (tg f E (by2 f (p + 2)))) = 1) := of_decide_eq_false c_194
                have n_194 : tg f E (by2 f (p + 2)) = 1 := (eq_nI (p := tg f E (by2 f (p + 2))) (n := 1) (Nat.lt_trans (tg_lt _ _ _) (by decide)) (by decide)).mp (Decidable.not_not.mp c_194)
                refine ps_st (S' := (198, [(0, .ref m0), (3, .int (nI (by2 f p0))), (4, .int (nI p)), (5, .int (nI i))], [.ref m0], M1)) rfl rfl rfl ?_
                refine ps_st (S' := (199, [(0, .ref m0), (3, .int (nI (by2 f p0))), (4, .int (nI p)), (5, .int (nI i))], [.ref m0, .ref m0], M1)) rfl rfl rfl ?_
                refine ps_st (S' := (200, [(0, .ref m0), (3, .int (nI (by2 f p0))), (4, .int (nI p)), (5, .int (nI i))], [.ref m0, .ref m0, .ref m0], M1)) rfl rfl rfl ?_
                refine ps_st (S' := (202, [(0, .ref m0), (3, .int (nI (by2 f p0))), (4, .int (nI p)), (5, .int (nI i))], [.int (nI p), .ref m0, .ref m0, .ref m0], M1)) rfl rfl rfl ?_
                refine ps_st (S' := (203, [(0, .ref m0), (3, .int (nI (by2 f p0))), (4, .int (nI p)), (5, .int (nI i))], [.int 2, .int (nI p), .ref m0, .ref m0, .ref m0], M1)) rfl rfl rfl ?_
                refine ps_st (S' := (204, [(0, .ref m0), (3, .int (nI (by2 f p0))), (4, .int (nI p)), (5, .int (nI i))], [.int ((nI p) + 2), .ref m0, .ref m0, .ref m0], M1)) rfl rfl rfl ?_
                rw [nI_add1 (p := p) (k := 2) (x := 2) rfl (by omega)]
                show pl _ _ _ (_, [(0, .ref m0), (3, .int (nI (by2 f p0))), (4, .int (nI p)), (5, .int (nI i))], [.int (nI (p + 2)), .ref m0, .ref m0, .ref m0], M1) _
                refine pl_call (a := [.ref m0, .int (nI (p + 2))]) (rest := [.ref m0, .ref m0]) rfl rfl rfl (rd_u2 (n := n) (f := f) (p := (p + 2)) hR1 hF1 (by omega)) (fun v44 M45 q46 => ?_)
                obtain ⟨rfl, rfl⟩ := q46
                show pl _ _ _ (207, [(0, .ref m0), (3, .int (nI (by2 f p0))), (4, .int (nI p)), (5, .int (nI i))], [.int (nI (by2 f (p + 2))), .ref m0, .ref m0], M1) _
                have hu_204 := by2_lt f (p + 2)
                refine pl_call (a := [.ref m0, .int (nI (by2 f (p + 2)))]) (rest := [.ref m0]) rfl rfl rfl (rd_symOf (n := n) (f := f) (tx := tx) (cN := cN) (A := A) (N := N) (mj := mj) (E := E) (k := (by2 f (p + 2))) hR1 hl51 hl52 hl53 hF1 hY1 hP1 (hEP) (hN) (hmj) (by omega)) (fun v47 M48 q49 => ?_)
                obtain ⟨s50, q207_s, rfl, rfl⟩ := q49
                show pl _ _ _ (210, [(0, .ref m0), (3, .int (nI (by2 f p0))), (4, .int (nI p)), (5, .int (nI i))], [.int (nI s50), .ref m0], M1) _
                have hsl_207 := q207_s.1
                have htl_207 := hY1.1.2.2.1
                refine pl_call (a := [.ref m0, .int (nI s50)]) (rest := []) rfl rfl rfl (rd_isField (tx := tx) (cN := cN) (A := A) (s := s50) (l := (tX f n E (by2 f (p + 2)))) hR1 hY1 (q207_s)) (fun v51 M52 q53 => ?_)
                obtain ⟨rfl, rfl⟩ := q53
                show pl _ _ _ (213, [(0, .ref m0), (3, .int (nI (by2 f p0))), (4, .int (nI p)), (5, .int (nI i))], [.int (nI (fldN (tX f n E (by2 f (p + 2)))))], M1) _
                refine ps_if (S1 := (219, [(0, .ref m0), (3, .int (nI (by2 f p0))), (4, .int (nI p)), (5, .int (nI i))], [], M1)) (S2 := (216, [], [], M1)) rfl rfl rfl (fun c_213 => ?_) (fun c_213 => ?_)
                · have c_213 : ¬ (nI (fldN (tX f n E (by2 f (p + 2))))) = 0 := of_decide_eq_true c_213
                  have n_213 : ¬ (fldN (tX f n E (by2 f (p + 2))) = 0) := fun h9 => c_213 ((eq_nI (p := fldN (tX f n E (by2 f (p + 2)))) (n := 0) (Nat.lt_trans (le1_fld _) (by decide)) (by decide)).mpr h9)
                  refine ps_st (S' := (220, [(0, .ref m0), (3, .int (nI (by2 f p0))), (4, .int (nI p)), (5, .int (nI i))], [.ref m0], M1)) rfl rfl rfl ?_
                  refine ps_st (S' := (222, [(0, .ref m0), (3, .int (nI (by2 f p0))), (4, .int (nI p)), (5, .int (nI i))], [.int (nI p), .ref m0], M1)) rfl rfl rfl ?_
                  refine ps_st (S' := (223, [(0, .ref m0), (3, .int (nI (by2 f p0))), (4, .int (nI p)), (5, .int (nI i))], [.int 4, .int (nI p), .ref m0], M1)) rfl rfl rfl ?_
                  refine ps_st (S' := (224, [(0, .ref m0), (3, .int (nI (by2 f p0))), (4, .int (nI p)), (5, .int (nI i))], [.int ((nI p) + 4), .ref m0], M1)) rfl rfl rfl ?_
                  rw [nI_add1 (p := p) (k := 4) (x := 4) rfl (by omega)]
                  show pl _ _ _ (_, [(0, .ref m0), (3, .int (nI (by2 f p0))), (4, .int (nI p)), (5, .int (nI i))], [.int (nI (p + 4)), .ref m0], M1) _
                  refine pl_call (a := [.ref m0, .int (nI (p + 4))]) (rest := []) rfl rfl rfl (rd_u2 (n := n) (f := f) (p := (p + 4)) hR1 hF1 (by omega)) (fun v54 M55 q56 => ?_)
                  obtain ⟨rfl, rfl⟩ := q56
                  show pl _ _ _ (227, [(0, .ref m0), (3, .int (nI (by2 f p0))), (4, .int (nI p)), (5, .int (nI i))], [.int (nI (by2 f (p + 4)))], M1) _
                  have hu_224 := by2_lt f (p + 4)
                  refine ps_st (S' := (229, [(6, .int (nI (by2 f (p + 4)))), (0, .ref m0), (3, .int (nI (by2 f p0))), (4, .int (nI p)), (5, .int (nI i))], [], M1)) rfl rfl rfl ?_
                  refine ps_st (S' := (232, [(4, .int ((nI p) + 6)), (6, .int (nI (by2 f (p + 4)))), (0, .ref m0), (3, .int (nI (by2 f p0))), (5, .int (nI i))], [], M1)) rfl rfl rfl ?_
                  rw [nI_add1 (p := p) (k := 6) (x := 6) rfl (by omega)]
                  show pl _ _ _ (_, [(4, .int (nI (p + 6))), (6, .int (nI (by2 f (p + 4)))), (0, .ref m0), (3, .int (nI (by2 f p0))), (5, .int (nI i))], [], M1) _
                  refine ps_st (S' := (233, [(4, .int (nI (p + 6))), (6, .int (nI (by2 f (p + 4)))), (0, .ref m0), (3, .int (nI (by2 f p0))), (5, .int (nI i))], [.int 0], M1)) rfl rfl rfl ?_
                  refine ps_st (S' := (235, [(0, .ref m0), (3, .int (nI (by2 f p0))), (4, .int (nI (p + 6))), (5, .int (nI i)), (6, .int (nI (by2 f (p + 4)))), (7, .int 0)], [], M1)) rfl rfl rfl ?_
                  exact ih.2.2.2 (i) (p) (0) (p + 6) (y9) M1 I1 R1 hR1 hEI1 hER1 hl51 hl52 hl53 hF1 hY1 hP1 (hfe) (by omega) (by omega) (hq6) (hq7) (by omega) (hs) (rfl)
                · have c_213 : ¬ (¬ (nI (fldN (tX f n E (by2 f (p + 2))))) = 0) := of_decide_eq_false c_213
                  have n_213 : fldN (tX f n E (by2 f (p + 2))) = 0 := (eq_nI (p := fldN (tX f n E (by2 f (p + 2)))) (n := 0) (Nat.lt_trans (le1_fld _) (by decide)) (by decide)).mp (Decidable.not_not.mp c_213)
                  refine ps_st (S' := (218, [], [.int 37], M1)) rfl rfl rfl ?_
                  exact ps_ret rfl rfl (Or.inr (Or.inl ⟨I1, R1, hfe, by
                      rw [← hs, rcS_st (i := i) (by omega), if_pos (by omega)], rfl, hR1, hEI1, hER1⟩))
      · skip
        intro i p j y x9 M1 I1 R1 hR1 hEI1 hER1 hl51 hl52 hl53 hF1 hY1 hP1 hfe hi hj hg hf2 h37 hs hd
        have hn := hF1.1
        have hu9 := by2_lt f p0
        have hu8 := by2_lt f (p + 4)
        refine ps_st1 (S' := (237, [(0, .ref m0), (3, .int (nI (by2 f p0))), (4, .int (nI y)), (5, .int (nI i)), (6, .int (nI (by2 f (p + 4)))), (7, .int (nI j))], [.int (nI j)], M1)) rfl rfl rfl ?_
        refine ps_st (S' := (239, [(0, .ref m0), (3, .int (nI (by2 f p0))), (4, .int (nI y)), (5, .int (nI i)), (6, .int (nI (by2 f (p + 4)))), (7, .int (nI j))], [.int (nI (by2 f (p + 4))), .int (nI j)], M1)) rfl rfl rfl ?_
        refine ps_if2 (S1 := (290, [(0, .ref m0), (3, .int (nI (by2 f p0))), (4, .int (nI y)), (5, .int (nI i)), (6, .int (nI (by2 f (p + 4)))), (7, .int (nI j))], [], M1)) (S2 := (242, [(0, .ref m0), (3, .int (nI (by2 f p0))), (4, .int (nI y)), (5, .int (nI i)), (6, .int (nI (by2 f (p + 4)))), (7, .int (nI j))], [], M1)) rfl rfl rfl (fun c_239 => ?_) (fun c_239 => ?_)
        · have c_239 : (nI (by2 f (p + 4))) ≤ (nI j) := of_decide_eq_true c_239
          have n_239 : by2 f (p + 4) ≤ j := (le_nI (p := by2 f (p + 4)) (n := j) (Nat.lt_trans (by2_lt _ _) (by decide)) (by omega)).mp c_239
          refine ps_st (S' := (293, [(5, .int ((nI i) + 1)), (0, .ref m0), (3, .int (nI (by2 f p0))), (4, .int (nI y)), (6, .int (nI (by2 f (p + 4)))), (7, .int (nI j))], [], M1)) rfl rfl rfl ?_
          rw [nI_add1 (p := i) (k := 1) (x := 1) rfl (by omega)]
          show pl _ _ _ (_, [(5, .int (nI (i + 1))), (0, .ref m0), (3, .int (nI (by2 f p0))), (4, .int (nI y)), (6, .int (nI (by2 f (p + 4)))), (7, .int (nI j))], [], M1) _
          refine ps_st (S' := (143, [(0, .ref m0), (3, .int (nI (by2 f p0))), (4, .int (nI y)), (5, .int (nI (i + 1)))], [], M1)) rfl rfl rfl ?_
          exact ih.2.2.1 (i + 1) (y) M1 I1 R1 hR1 hEI1 hER1 hl51 hl52 hl53 hF1 hY1 hP1 (hfe) (by omega) (by
              rw [show by2 f (p + 4) - j = 0 by omega] at hg
              have e9 : y = x9 := Option.some.inj (show some y = some x9 from hg)
              rw [e9]
              exact hf2) (by
              rw [← hs, rcS_st (i := i) (by omega), if_neg h37, ← hd, show by2 f (p + 4) - j = 0 by omega]
              rfl)
        · have c_239 : ¬ ((nI (by2 f (p + 4))) ≤ (nI j)) := of_decide_eq_false c_239
          have n_239 : ¬ (by2 f (p + 4) ≤ j) := fun h9 => c_239 ((le_nI (p := by2 f (p + 4)) (n := j) (Nat.lt_trans (by2_lt _ _) (by decide)) (by omega)).mpr h9)
          obtain ⟨hw5, hw6, hw7⟩ := s_atE_in (i := j) (p := y) hg (by omega)
          refine ps_st (S' := (243, [(0, .ref m0), (3, .int (nI (by2 f p0))), (4, .int (nI y)), (5, .int (nI i)), (6, .int (nI (by2 f (p + 4)))), (7, .int (nI j))], [.ref m0], M1)) rfl rfl rfl ?_
          refine ps_st (S' := (244, [(0, .ref m0), (3, .int (nI (by2 f p0))), (4, .int (nI y)), (5, .int (nI i)), (6, .int (nI (by2 f (p + 4)))), (7, .int (nI j))], [.ref m0, .ref m0], M1)) rfl rfl rfl ?_
          refine ps_st (S' := (246, [(0, .ref m0), (3, .int (nI (by2 f p0))), (4, .int (nI y)), (5, .int (nI i)), (6, .int (nI (by2 f (p + 4)))), (7, .int (nI j))], [.int (nI y), .ref m0, .ref m0], M1)) rfl rfl rfl ?_
          refine pl_call (a := [.ref m0, .int (nI y)]) (rest := [.ref m0]) rfl rfl rfl (rd_u2 (n := n) (f := f) (p := y) hR1 hF1 (by omega)) (fun v57 M58 q59 => ?_)
          obtain ⟨rfl, rfl⟩ := q59
          show pl _ _ _ (249, [(0, .ref m0), (3, .int (nI (by2 f p0))), (4, .int (nI y)), (5, .int (nI i)), (6, .int (nI (by2 f (p + 4)))), (7, .int (nI j))], [.int (nI (by2 f y)), .ref m0], M1) _
          have hu_246 := by2_lt f y
          refine pl_call (a := [.ref m0, .int (nI (by2 f y))]) (rest := []) rfl rfl rfl (rd_tag (n := n) (f := f) (tx := tx) (cN := cN) (A := A) (N := N) (mj := mj) (E := E) (k := (by2 f y)) hR1 hl51 hl52 hl53 hF1 hY1 hP1 (hEP) (hN) (hmj) (by2_lt _ _)) (fun v60 M61 q62 => ?_)
          obtain ⟨rfl, rfl⟩ := q62
          show pl _ _ _ (252, [(0, .ref m0), (3, .int (nI (by2 f p0))), (4, .int (nI y)), (5, .int (nI i)), (6, .int (nI (by2 f (p + 4)))), (7, .int (nI j))], [.int (nI (tg f E (by2 f y)))], M1) _
          have htg_249 := tg_lt f E (by2 f y)
          refine ps_st (S' := (253, [(0, .ref m0), (3, .int (nI (by2 f p0))), (4, .int (nI y)), (5, .int (nI i)), (6, .int (nI (by2 f (p + 4)))), (7, .int (nI j))], [.int 1, .int (nI (tg f E (by2 f y)))], M1)) rfl rfl rfl ?_
          refine ps_if2 (S1 := (267, [(0, .ref m0), (3, .int (nI (by2 f p0))), (4, .int (nI y)), (5, .int (nI i)), (6, .int (nI (by2 f (p + 4)))), (7, .int (nI j))], [], M1)) (S2 := (256, [(0, .ref m0), (3, .int (nI (by2 f p0))), (4, .int (nI y)), (5, .int (nI i)), (6, .int (nI (by2 f (p + 4)))), (7, .int (nI j))], [], M1)) rfl rfl rfl (fun c_253 => ?_) (fun c_253 => ?_)
          · have c_253 : (nI (tg f E (by2 f y))) = 1 := of_decide_eq_true c_253
            have n_253 : tg f E (by2 f y) = 1 := (eq_nI (p := tg f E (by2 f y)) (n := 1) (Nat.lt_trans (tg_lt _ _ _) (by decide)) (by decide)).mp c_253
            refine ps_st (S' := (269, [(0, .ref m0), (3, .int (nI (by2 f p0))), (4, .int (nI y)), (5, .int (nI i)), (6, .int (nI (by2 f (p + 4)))), (7, .int (nI j))], [.int (nI y)], M1)) rfl rfl rfl ?_
            refine ps_st (S' := (271, [(0, .ref m0), (3, .int (nI (by2 f p0))), (4, .int (nI y)), (5, .int (nI i)), (6, .int (nI (by2 f (p + 4)))), (7, .int (nI j))], [.int 6, .int (nI y)], M1)) rfl rfl rfl ?_
            refine ps_st (S' := (272, [(0, .ref m0), (3, .int (nI (by2 f p0))), (4, .int (nI y)), (5, .int (nI i)), (6, .int (nI (by2 f (p + 4)))), (7, .int (nI j))], [.ref m0, .int 6, .int (nI y)], M1)) rfl rfl rfl ?_
            refine ps_st (S' := (274, [(0, .ref m0), (3, .int (nI (by2 f p0))), (4, .int (nI y)), (5, .int (nI i)), (6, .int (nI (by2 f (p + 4)))), (7, .int (nI j))], [.int (nI y), .ref m0, .int 6, .int (nI y)], M1)) rfl rfl rfl ?_
            refine ps_st (S' := (275, [(0, .ref m0), (3, .int (nI (by2 f p0))), (4, .int (nI y)), (5, .int (nI i)), (6, .int (nI (by2 f (p + 4)))), (7, .int (nI j))], [.int 2, .int (nI y), .ref m0, .int 6, .int (nI y)], M1)) rfl rfl rfl ?_
            refine ps_st (S' := (276, [(0, .ref m0), (3, .int (nI (by2 f p0))), (4, .int (nI y)), (5, .int (nI i)), (6, .int (nI (by2 f (p + 4)))), (7, .int (nI j))], [.int ((nI y) + 2), .ref m0, .int 6, .int (nI y)], M1)) rfl rfl rfl ?_
            rw [nI_add1 (p := y) (k := 2) (x := 2) rfl (by omega)]
            show pl _ _ _ (_, [(0, .ref m0), (3, .int (nI (by2 f p0))), (4, .int (nI y)), (5, .int (nI i)), (6, .int (nI (by2 f (p + 4)))), (7, .int (nI j))], [.int (nI (y + 2)), .ref m0, .int 6, .int (nI y)], M1) _
            refine pl_call (a := [.ref m0, .int (nI (y + 2))]) (rest := [.int 6, .int (nI y)]) rfl rfl rfl (rd_u4 (n := n) (f := f) (p := (y + 2)) hR1 hF1 (by omega)) (fun v63 M64 q65 => ?_)
            obtain ⟨rfl, rfl⟩ := q65
            show pl _ _ _ (279, [(0, .ref m0), (3, .int (nI (by2 f p0))), (4, .int (nI y)), (5, .int (nI i)), (6, .int (nI (by2 f (p + 4)))), (7, .int (nI j))], [.long (nL (by4 f (y + 2))), .int 6, .int (nI y)], M1) _
            have hu_276 := by4_lt f (y + 2)
            refine ps_st (S' := (280, [(0, .ref m0), (3, .int (nI (by2 f p0))), (4, .int (nI y)), (5, .int (nI i)), (6, .int (nI (by2 f (p + 4)))), (7, .int (nI j))], [.int (Int64.toInt32 (nL (by4 f (y + 2)))), .int 6, .int (nI y)], M1)) rfl rfl rfl ?_
            rw [l2i_nL (p := by4 f (y + 2)) (by omega)]
            show pl _ _ _ (_, [(0, .ref m0), (3, .int (nI (by2 f p0))), (4, .int (nI y)), (5, .int (nI i)), (6, .int (nI (by2 f (p + 4)))), (7, .int (nI j))], [.int (nI (by4 f (y + 2))), .int 6, .int (nI y)], M1) _
            refine ps_st (S' := (281, [(0, .ref m0), (3, .int (nI (by2 f p0))), (4, .int (nI y)), (5, .int (nI i)), (6, .int (nI (by2 f (p + 4)))), (7, .int (nI j))], [.int (6 + (nI (by4 f (y + 2)))), .int (nI y)], M1)) rfl rfl rfl ?_
            rw [nI_add2 (p := 6) (k := by4 f (y + 2)) (x := 6) (y := (nI (by4 f (y + 2)))) rfl rfl (by omega)]
            show pl _ _ _ (_, [(0, .ref m0), (3, .int (nI (by2 f p0))), (4, .int (nI y)), (5, .int (nI i)), (6, .int (nI (by2 f (p + 4)))), (7, .int (nI j))], [.int (nI (6 + by4 f (y + 2))), .int (nI y)], M1) _
            refine ps_st (S' := (282, [(0, .ref m0), (3, .int (nI (by2 f p0))), (4, .int (nI y)), (5, .int (nI i)), (6, .int (nI (by2 f (p + 4)))), (7, .int (nI j))], [.int ((nI y) + (nI (6 + by4 f (y + 2))))], M1)) rfl rfl rfl ?_
            rw [nI_add1 (p := y) (k := 6 + by4 f (y + 2)) (x := (nI (6 + by4 f (y + 2)))) rfl (by omega)]
            rw [show nI (y + (6 + by4 f (y + 2))) = nI (y + 6 + by4 f (y + 2)) from congrArg nI (by omega)]
            show pl _ _ _ (_, [(0, .ref m0), (3, .int (nI (by2 f p0))), (4, .int (nI y)), (5, .int (nI i)), (6, .int (nI (by2 f (p + 4)))), (7, .int (nI j))], [.int (nI (y + 6 + by4 f (y + 2)))], M1) _
            refine ps_st (S' := (284, [(4, .int (nI (y + 6 + by4 f (y + 2)))), (0, .ref m0), (3, .int (nI (by2 f p0))), (5, .int (nI i)), (6, .int (nI (by2 f (p + 4)))), (7, .int (nI j))], [], M1)) rfl rfl rfl ?_
            refine ps_st (S' := (287, [(7, .int ((nI j) + 1)), (4, .int (nI (y + 6 + by4 f (y + 2)))), (0, .ref m0), (3, .int (nI (by2 f p0))), (5, .int (nI i)), (6, .int (nI (by2 f (p + 4))))], [], M1)) rfl rfl rfl ?_
            rw [nI_add1 (p := j) (k := 1) (x := 1) rfl (by omega)]
            show pl _ _ _ (_, [(7, .int (nI (j + 1))), (4, .int (nI (y + 6 + by4 f (y + 2)))), (0, .ref m0), (3, .int (nI (by2 f p0))), (5, .int (nI i)), (6, .int (nI (by2 f (p + 4))))], [], M1) _
            refine ps_st (S' := (235, [(0, .ref m0), (3, .int (nI (by2 f p0))), (4, .int (nI (y + 6 + by4 f (y + 2)))), (5, .int (nI i)), (6, .int (nI (by2 f (p + 4)))), (7, .int (nI (j + 1)))], [], M1)) rfl rfl rfl ?_
            exact ih.2.2.2 (i) (p) (j + 1) (y + 6 + by4 f (y + 2)) (x9) M1 I1 R1 hR1 hEI1 hER1 hl51 hl52 hl53 hF1 hY1 hP1 (hfe) (hi) (by omega) (hw7) (hf2) (h37) (hs) (by
                rw [← hd, rcA_st (i := j) (by omega), if_neg (by omega)])
          · have c_253 : ¬ ((nI (tg f E (by2 f y))) = 1) := of_decide_eq_false c_253
            have n_253 : ¬ (tg f E (by2 f y) = 1) := fun h9 => c_253 ((eq_nI (p := tg f E (by2 f y)) (n := 1) (Nat.lt_trans (tg_lt _ _ _) (by decide)) (by decide)).mpr h9)
            refine ps_st (S' := (257, [(0, .ref m0), (3, .int (nI (by2 f p0))), (4, .int (nI y)), (5, .int (nI i)), (6, .int (nI (by2 f (p + 4)))), (7, .int (nI j))], [.ref m0], M1)) rfl rfl rfl ?_
            refine ps_st (S' := (259, [(0, .ref m0), (3, .int (nI (by2 f p0))), (4, .int (nI y)), (5, .int (nI i)), (6, .int (nI (by2 f (p + 4)))), (7, .int (nI j))], [.int 28, .ref m0], M1)) rfl rfl rfl ?_
            refine ps_st (S' := (261, [(0, .ref m0), (3, .int (nI (by2 f p0))), (4, .int (nI y)), (5, .int (nI i)), (6, .int (nI (by2 f (p + 4)))), (7, .int (nI j))], [.int (nI y), .int 28, .ref m0], M1)) rfl rfl rfl ?_
            refine pl_call (a := [.ref m0, .int 28, .int (nI y)]) (rest := []) rfl rfl rfl (rd_wrong (x1 := 28) (x2 := (nI y)) hR1) (fun v66 M67 q68 => ?_)
            obtain ⟨I69, R70, rfl, hR71, hI72, hX73, hi74, hi75⟩ := q68
            have hi76 := (hI72 51 (by decide)).trans hl51
            have hi77 := (hI72 52 (by decide)).trans hl52
            have hi78 := (hI72 53 (by decide)).trans hl53
            have hF_79 := hF1.mono (cIx hI72 (by decide)) (cRx hX73 (by decide))
            have hY_80 := hY1.mono (cIx hI72 (by decide)) (cRx hX73 (by decide))
            have hP_81 := hP1.mono (cIx hI72 (by decide)) (cRx hX73 (by decide))
            have hEI82 := hEI1.tr hI72 (by decide)
            have hER83 := hER1.tr hX73 (by decide)
            show pl _ _ _ (264, [(0, .ref m0), (3, .int (nI (by2 f p0))), (4, .int (nI y)), (5, .int (nI i)), (6, .int (nI (by2 f (p + 4)))), (7, .int (nI j))], [.int 0], M67) _
            refine ps_st (S' := (265, [(0, .ref m0), (3, .int (nI (by2 f p0))), (4, .int (nI y)), (5, .int (nI i)), (6, .int (nI (by2 f (p + 4)))), (7, .int (nI j))], [], M67)) rfl rfl rfl ?_
            refine ps_st (S' := (266, [(0, .ref m0), (3, .int (nI (by2 f p0))), (4, .int (nI y)), (5, .int (nI i)), (6, .int (nI (by2 f (p + 4)))), (7, .int (nI j))], [.int (-1)], M67)) rfl rfl rfl ?_
            exact ps_ret rfl rfl (Or.inr (Or.inr (Or.inl ⟨y, I69, R70, hfe, by
                rw [← hs, rcS_st (i := i) (by omega), if_neg h37, ← hd, rcA_st (i := j) (by omega), if_pos (by omega)], rfl, hR71, hEI82, hER83, hi74, hi75⟩)))
  refine ps_st (S' := (1, [(0, .ref m0), (1, .int (nI p0)), (2, .int (nI e))], [.int (nI e)], M)) rfl rfl rfl ?_
  refine ps_st (S' := (2, [(0, .ref m0), (1, .int (nI p0)), (2, .int (nI e))], [.int (nI p0), .int (nI e)], M)) rfl rfl rfl ?_
  refine ps_st (S' := (3, [(0, .ref m0), (1, .int (nI p0)), (2, .int (nI e))], [.int ((nI e) - (nI p0))], M)) rfl rfl rfl ?_
  refine ps_st (S' := (4, [(0, .ref m0), (1, .int (nI p0)), (2, .int (nI e))], [.int 2, .int ((nI e) - (nI p0))], M)) rfl rfl rfl ?_
  refine ps_if2 (S1 := (10, [(0, .ref m0), (1, .int (nI p0)), (2, .int (nI e))], [], M)) (S2 := (7, [(0, .ref m0), (1, .int (nI p0)), (2, .int (nI e))], [], M)) rfl rfl rfl (fun c_4 => ?_) (fun c_4 => ?_)
  · have c_4 : 2 ≤ ((nI e) - (nI p0)) := of_decide_eq_true c_4
    have n_4 : 2 + p0 ≤ e := (le_sub1 (e := e) (p := p0) (k := 2) (by omega) (by omega) (by omega)).mp c_4
    refine ps_st (S' := (11, [(0, .ref m0), (1, .int (nI p0)), (2, .int (nI e))], [.ref m0], M)) rfl rfl rfl ?_
    refine ps_st (S' := (12, [(0, .ref m0), (1, .int (nI p0)), (2, .int (nI e))], [.int (nI p0), .ref m0], M)) rfl rfl rfl ?_
    refine pl_call (a := [.ref m0, .int (nI p0)]) (rest := []) rfl rfl rfl (rd_u2 (n := n) (f := f) (p := p0) hR hF (by omega)) (fun v84 M85 q86 => ?_)
    obtain ⟨rfl, rfl⟩ := q86
    show pl _ _ _ (15, [(0, .ref m0), (1, .int (nI p0)), (2, .int (nI e))], [.int (nI (by2 f p0))], M) _
    have hu_12 := by2_lt f p0
    refine ps_st (S' := (16, [(3, .int (nI (by2 f p0))), (0, .ref m0), (1, .int (nI p0)), (2, .int (nI e))], [], M)) rfl rfl rfl ?_
    refine ps_st (S' := (17, [(3, .int (nI (by2 f p0))), (0, .ref m0), (1, .int (nI p0)), (2, .int (nI e))], [.int (nI p0)], M)) rfl rfl rfl ?_
    refine ps_st (S' := (18, [(3, .int (nI (by2 f p0))), (0, .ref m0), (1, .int (nI p0)), (2, .int (nI e))], [.int 2, .int (nI p0)], M)) rfl rfl rfl ?_
    refine ps_st (S' := (19, [(3, .int (nI (by2 f p0))), (0, .ref m0), (1, .int (nI p0)), (2, .int (nI e))], [.int ((nI p0) + 2)], M)) rfl rfl rfl ?_
    rw [nI_add1 (p := p0) (k := 2) (x := 2) rfl (by omega)]
    show pl _ _ _ (_, [(3, .int (nI (by2 f p0))), (0, .ref m0), (1, .int (nI p0)), (2, .int (nI e))], [.int (nI (p0 + 2))], M) _
    refine ps_st (S' := (21, [(4, .int (nI (p0 + 2))), (3, .int (nI (by2 f p0))), (0, .ref m0), (1, .int (nI p0)), (2, .int (nI e))], [], M)) rfl rfl rfl ?_
    refine ps_st (S' := (22, [(4, .int (nI (p0 + 2))), (3, .int (nI (by2 f p0))), (0, .ref m0), (1, .int (nI p0)), (2, .int (nI e))], [.int 0], M)) rfl rfl rfl ?_
    refine ps_st (S' := (24, [(0, .ref m0), (1, .int (nI p0)), (2, .int (nI e)), (3, .int (nI (by2 f p0))), (4, .int (nI (p0 + 2))), (5, .int 0)], [], M)) rfl rfl rfl ?_
    exact (LL kf).1 (0) (p0 + 2) M I R hR hEI hER hi51 hi52 hi53 hF hY hP (by omega) (by omega) (by omega) (rfl)
  · have c_4 : ¬ (2 ≤ ((nI e) - (nI p0))) := of_decide_eq_false c_4
    have n_4 : ¬ (2 + p0 ≤ e) := fun h8 => c_4 ((le_sub1 (e := e) (p := p0) (k := 2) (by omega) (by omega) (by omega)).mpr h8)
    refine ps_st (S' := (9, [(0, .ref m0), (1, .int (nI p0)), (2, .int (nI e))], [.int 30], M)) rfl rfl rfl ?_
    exact ps_ret rfl rfl (Or.inl ⟨I, R, fe_2 (by omega), rfl, hR, hEI, hER⟩)
end
section
/-! attributes that the reference knows (my own text) -/
section KNA
def kiN (i : Nat) : Nat := [1, 2, 2, 3, 4, 4, 4, 4, 4, 4].getD i 0
def kfN (i : Nat) : Nat := [0, 0, 0, 50, 0, 51, 55, 55, 60, 61].getD i 0
theorem kiN_lt (i : Nat) : kiN i < 5 := by
  have : ∀ i, i < 10 → kiN i < 5 := by decide
  by_cases h : i < 10
  · exact this i h
  · unfold kiN
    rw [List.getD_eq_getElem?_getD, List.getElem?_eq_none (by simp; omega)]
    decide
theorem kfN_lt (i : Nat) : kfN i < 62 := by
  have : ∀ i, i < 10 → kfN i < 62 := by decide
  by_cases h : i < 10
  · exact this i h
  · unfold kfN
    rw [List.getD_eq_getElem?_getD, List.getElem?_eq_none (by simp; omega)]
    decide
/-- the last name ahead of number i that this text is -/
def kb (mj wh : Nat) (l : List Nat) : Nat → Option Nat
  | 0 => none
  | i + 1 => if kiN i = wh ∧ kfN i ≤ mj ∧ ¬ eqN l (ltx (15 + i)) = 0 then some i else kb mj wh l i
theorem kb_lt {mj wh : Nat} {l : List Nat} : ∀ {i t : Nat}, kb mj wh l i = some t → t < i := by
  intro i
  induction i with
  | zero => intro t h; cases h
  | succ i ih =>
    intro t h
    unfold kb at h
    split at h
    · cases h; omega
    · have := ih h; omega
theorem kb_3 {mj : Nat} {l : List Nat} : kb mj 3 l 10 = if 50 ≤ mj ∧ ¬ eqN l (ltx 18) = 0 then some 3 else none := by
  simp only [kb, kiN, kfN]
  simp
/-- the row of names, its kinds and versions -/
def KX (I : rI) (R : rR) : Prop := ∀ i, i < 10 → R 63 i = some (nI (kiN i)) ∧ R 64 i = some (nI (kfN i))
theorem KX.mono {I I' : rI} {R R' : rR} (h : KX I R) (hI : ∀ k, k ∈ ([] : List Nat) → I' k = I k) (hR : ∀ k, k ∈ [63, 64] → R' k = R k) : KX I' R' := fun i hi => by
  rw [hR 63 (by decide), hR 64 (by decide)]
  exact h i hi
theorem knl_at : ∀ j, j < 10 → knl[j]? = some (15 + j) := by decide
variable {g : xe_G} {m0 : Nat} {q : Nat → Nat} {z : Nat × Nat} {I : rI} {R : rR} {M : mi_H} {T : Nat → Option (Nat × mi_B)} {k pc : Nat} {tb : mi_B} {lv : List (Nat × Value)} {s0 : List Value} {S' : mi_S} {Q : Option Value → mi_H → Prop}
theorem pr_kn {j : Nat} (h1 : tb.1 pc = some (.inl (o_ald (.object "java/lang/String")))) (hR : RS g m0 q z I R M) (hj : j < 10) (e1 : mi_nk tb.2 (pc + 1, lv, .ref (g.2.1 (15 + j)) :: s0, M) = S') (kk : pl T k tb S' Q) : pl T k tb (pc, lv, .int (nI j) :: .ref (q 62) :: s0, M) Q := by
  subst e1
  refine pl_st h1 (fun S1 h => ?_)
  have hg : mi_ga M (q 62) (.object "java/lang/String") = some (10, fun i => (knl[i]?).map (fun j => Value.ref (g.2.1 j))) := by
    unfold mi_ga
    rw [hR.2.2.1]
    simp
  unfold o_ald at h
  simp only [hg] at h
  split at h
  · cases h
  · rw [nI_toNat (by omega), knl_at j hj] at h
    cases h
    exact kk
theorem pr_knl (h1 : tb.1 pc = some (.inl (o_alen (.object "java/lang/String")))) (hR : RS g m0 q z I R M) (e1 : mi_nk tb.2 (pc + 1, lv, .int (nI 10) :: s0, M) = S') (kk : pl T k tb S' Q) : pl T k tb (pc, lv, .ref (q 62) :: s0, M) Q := by
  subst e1
  have hg : mi_ga M (q 62) (.object "java/lang/String") = some (10, fun i => (knl[i]?).map (fun j => Value.ref (g.2.1 j))) := by
    unfold mi_ga
    rw [hR.2.2.1]
    simp
  exact pl_is h1 (S' := (pc + 1, lv, .int (nI 10) :: s0, M)) (by simp only [o_alen, hg]; rfl) kk
end KNA
theorem sb_1 {s k : Nat} : sb s k = 1 ↔ ¬ sb s k = 0 := by
  have := sb_lt s k
  omega

theorem lt_eq3 : ltx 18 = ltx 10 := by decide +kernel
set_option maxHeartbeats 1000000 in
theorem rd_attr3 {g : xe_G} {m0 : Nat} {q : Nat → Nat} {z : Nat × Nat} {I : rI} {R : rR} {M : mi_H} {x2 x3 x4 x5 x6 : Int32} (hR : RS g m0 q z I R M)    : pt (mT g) 177 [.ref m0, .int 3, .int x2, .int x3, .int x4, .int x5, .int x6] M (fun v M' => (v = some (.int 0) ∧ M = M')) := by
  refine pt_in (b := mb_177 g) rfl (fun kf => ?_)
  show pl (mT g) kf (mb_177 g).2 (0, [(0, .ref m0), (1, .int 3), (2, .int x2), (3, .int x3), (4, .int x4), (5, .int x5), (6, .int x6)], [], M) _
  refine ps_st (S' := (1, [(0, .ref m0), (1, .int 3), (2, .int x2), (3, .int x3), (4, .int x4), (5, .int x5), (6, .int x6)], [.int 3], M)) rfl rfl rfl ?_
  refine ps_st (S' := (398, [(0, .ref m0), (1, .int 3), (2, .int x2), (3, .int x3), (4, .int x4), (5, .int x5), (6, .int x6)], [], M)) rfl rfl rfl ?_
  refine ps_st (S' := (399, [(0, .ref m0), (1, .int 3), (2, .int x2), (3, .int x3), (4, .int x4), (5, .int x5), (6, .int x6)], [.int 0], M)) rfl rfl rfl ?_
  exact ps_ret rfl rfl (⟨rfl, rfl⟩)
set_option maxHeartbeats 4000000 in
theorem rd_checkAttributes3 {g : xe_G} {m0 : Nat} {q : Nat → Nat} {z : Nat × Nat} {I : rI} {R : rR} {M : mi_H} {n : Nat} {f : Nat → Int32} {tx : List (List Nat)} {cN : Nat} {A : Nat → Nat} {N mj : Nat} {E : List (Nat × Nat)} {p1 e x : Nat} (hR : RS g m0 q z I R M) (hi51 : I 51 = some 0) (hi52 : I 52 = some (nI N)) (hi53 : I 53 = some (nI mj)) (hF : FK n f I R) (hY : SYT tx cN A I R) (hP : RPV f n E tx N I R) (hK : KX I R) (hEP : EP f n E) (hN : N < 65536) (hmj : mj < 65536) (hin : p1 + 2 ≤ e ∧ e ≤ n) (hat : s_atE f e (by2 f p1) (p1 + 2) = some e) : pt (mT g) 187 [.ref m0, .int (nI p1), .int 3, .int (nI x)] M (fun v M' => (∃ (e9 : Nat × Nat) (I' : rI) (R' : rR), (caS f n E mj (by2 f p1) (p1 + 2) 0 = .inl e9) ∧ v = some (.int (-1)) ∧ RS g m0 q z I' R' M' ∧ eqI [47, 48] I I' ∧ eqR [] R R' ∧ I' 47 = some (nI e9.1) ∧ I' 48 = some (nI e9.2)) ∨ (∃ (s' : Nat) (I' : rI) (R' : rR), (caS f n E mj (by2 f p1) (p1 + 2) 0 = .inr s') ∧ v = some (.int (nI e)) ∧ RS g m0 q z I' R' M' ∧ eqI [47, 48] I I' ∧ eqR [] R R')) := by
  refine pt_in (b := mb_187 g) rfl (fun kf => ?_)
  show pl (mT g) kf (mb_187 g).2 (0, [(0, .ref m0), (1, .int (nI p1)), (2, .int 3), (3, .int (nI x))], [], M) _
  have hEI : eqI [47, 48] I I := eqI.rf
  have hER : eqR [] R R := eqR.rf
  have hn := hF.1
  have LL : ∀ (kf : Nat), (∀ (i p s2 s3 : Nat) (M1 : mi_H) (I1 : rI) (R1 : rR), (RS g m0 q z I1 R1 M1) → (eqI [47, 48] I I1) → (eqR [] R R1) → (I1 51 = some 0) → (I1 52 = some (nI N)) → (I1 53 = some (nI mj)) → (FK n f I1 R1) → (SYT tx cN A I1 R1) → (RPV f n E tx N I1 R1) → (KX I1 R1) → (i ≤ by2 f p1) → (s2 < 2048 ∧ s3 < 2048) → (sb s3 3 = sb s2 4) → (s_atE f e (by2 f p1 - i) p = some e) → (caS f n E mj (by2 f p1 - i) p s2 = caS f n E mj (by2 f p1) (p1 + 2) 0) →  pl (mT g) kf (mb_187 g).2 (18, [(0, .ref m0), (2, .int 3), (3, .int (nI x)), (4, .int (nI (by2 f p1))), (5, .int (nI p)), (6, .int (nI s3)), (7, .int (nI i))], [], M1) (fun v M' => (∃ (e9 : Nat × Nat) (I' : rI) (R' : rR), (caS f n E mj (by2 f p1) (p1 + 2) 0 = .inl e9) ∧ v = some (.int (-1)) ∧ RS g m0 q z I' R' M' ∧ eqI [47, 48] I I' ∧ eqR [] R R' ∧ I' 47 = some (nI e9.1) ∧ I' 48 = some (nI e9.2)) ∨ (∃ (s' : Nat) (I' : rI) (R' : rR), (caS f n E mj (by2 f p1) (p1 + 2) 0 = .inr s') ∧ v = some (.int (nI e)) ∧ RS g m0 q z I' R' M' ∧ eqI [47, 48] I I' ∧ eqR [] R R'))) ∧ (∀ (i p s2 s3 k t : Nat) (M1 : mi_H) (I1 : rI) (R1 : rR), (RS g m0 q z I1 R1 M1) → (eqI [47, 48] I I1) → (eqR [] R R1) → (I1 51 = some 0) → (I1 52 = some (nI N)) → (I1 53 = some (nI mj)) → (FK n f I1 R1) → (SYT tx cN A I1 R1) → (RPV f n E tx N I1 R1) → (KX I1 R1) → (i < by2 f p1) → (s2 < 2048 ∧ s3 < 2048) → (sb s3 3 = sb s2 4) → (s_atE f e (by2 f p1 - i) p = some e) → (caS f n E mj (by2 f p1 - i) p s2 = caS f n E mj (by2 f p1) (p1 + 2) 0) → (k ≤ 10) → (tg f E (by2 f p) = 1) → (t < tx.length ∧ tx.getD t [] = tX f n E (by2 f p)) →  pl (mT g) kf (mb_187 g).2 (79, [(0, .ref m0), (2, .int 3), (3, .int (nI x)), (4, .int (nI (by2 f p1))), (5, .int (nI p)), (6, .int (nI s3)), (7, .int (nI i)), (8, .int (nI (by4 f (p + 2)))), (9, .int (nI t)), (10, .int (gI (kb mj 3 (tX f n E (by2 f p)) k))), (11, .int (nI k))], [], M1) (fun v M' => (∃ (e9 : Nat × Nat) (I' : rI) (R' : rR), (caS f n E mj (by2 f p1) (p1 + 2) 0 = .inl e9) ∧ v = some (.int (-1)) ∧ RS g m0 q z I' R' M' ∧ eqI [47, 48] I I' ∧ eqR [] R R' ∧ I' 47 = some (nI e9.1) ∧ I' 48 = some (nI e9.2)) ∨ (∃ (s' : Nat) (I' : rI) (R' : rR), (caS f n E mj (by2 f p1) (p1 + 2) 0 = .inr s') ∧ v = some (.int (nI e)) ∧ RS g m0 q z I' R' M' ∧ eqI [47, 48] I I' ∧ eqR [] R R'))) := by
    intro kf
    induction kf with
    | zero => exact ⟨by intros; exact pl_0, by intros; exact pl_0⟩
    | succ kf ih =>
      refine ⟨?_, ?_⟩
      · skip
        intro i p s2 s3 M1 I1 R1 hR1 hEI1 hER1 hl51 hl52 hl53 hF1 hY1 hP1 hK1 hi hl hb ha hs9
        have hn := hF1.1
        have hu9 := by2_lt f p1
        have htl := hY1.1.2.2.1
        refine ps_st1 (S' := (20, [(0, .ref m0), (2, .int 3), (3, .int (nI x)), (4, .int (nI (by2 f p1))), (5, .int (nI p)), (6, .int (nI s3)), (7, .int (nI i))], [.int (nI i)], M1)) rfl rfl rfl ?_
        refine ps_st (S' := (22, [(0, .ref m0), (2, .int 3), (3, .int (nI x)), (4, .int (nI (by2 f p1))), (5, .int (nI p)), (6, .int (nI s3)), (7, .int (nI i))], [.int (nI (by2 f p1)), .int (nI i)], M1)) rfl rfl rfl ?_
        refine ps_if2 (S1 := (284, [(0, .ref m0), (2, .int 3), (3, .int (nI x)), (4, .int (nI (by2 f p1))), (5, .int (nI p)), (6, .int (nI s3)), (7, .int (nI i))], [], M1)) (S2 := (25, [(0, .ref m0), (2, .int 3), (3, .int (nI x)), (4, .int (nI (by2 f p1))), (5, .int (nI p)), (6, .int (nI s3)), (7, .int (nI i))], [], M1)) rfl rfl rfl (fun c_22 => ?_) (fun c_22 => ?_)
        · have c_22 : (nI (by2 f p1)) ≤ (nI i) := of_decide_eq_true c_22
          have n_22 : by2 f p1 ≤ i := (le_nI (p := by2 f p1) (n := i) (Nat.lt_trans (by2_lt _ _) (by decide)) (by omega)).mp c_22
          refine ps_st (S' := (286, [(0, .ref m0), (2, .int 3), (3, .int (nI x)), (4, .int (nI (by2 f p1))), (5, .int (nI p)), (6, .int (nI s3)), (7, .int (nI i))], [.int (nI p)], M1)) rfl rfl rfl ?_
          exact ps_reti rfl (Or.inr ⟨s2, I1, R1, by rw [← hs9, show by2 f p1 - i = 0 by omega]; rfl, by rw [show e = p by (rw [show by2 f p1 - i = 0 by omega] at ha; exact (Option.some.inj ha).symm)], hR1, hEI1, hER1⟩)
        · have c_22 : ¬ ((nI (by2 f p1)) ≤ (nI i)) := of_decide_eq_false c_22
          have n_22 : ¬ (by2 f p1 ≤ i) := fun h9 => c_22 ((le_nI (p := by2 f p1) (n := i) (Nat.lt_trans (by2_lt _ _) (by decide)) (by omega)).mpr h9)
          obtain ⟨hq5, hq6, hq7⟩ := s_atE_in (i := i) (p := p) ha (by omega)
          refine ps_st (S' := (26, [(0, .ref m0), (2, .int 3), (3, .int (nI x)), (4, .int (nI (by2 f p1))), (5, .int (nI p)), (6, .int (nI s3)), (7, .int (nI i))], [.ref m0], M1)) rfl rfl rfl ?_
          refine ps_st (S' := (28, [(0, .ref m0), (2, .int 3), (3, .int (nI x)), (4, .int (nI (by2 f p1))), (5, .int (nI p)), (6, .int (nI s3)), (7, .int (nI i))], [.int (nI p), .ref m0], M1)) rfl rfl rfl ?_
          refine ps_st (S' := (29, [(0, .ref m0), (2, .int 3), (3, .int (nI x)), (4, .int (nI (by2 f p1))), (5, .int (nI p)), (6, .int (nI s3)), (7, .int (nI i))], [.int 2, .int (nI p), .ref m0], M1)) rfl rfl rfl ?_
          refine ps_st (S' := (30, [(0, .ref m0), (2, .int 3), (3, .int (nI x)), (4, .int (nI (by2 f p1))), (5, .int (nI p)), (6, .int (nI s3)), (7, .int (nI i))], [.int ((nI p) + 2), .ref m0], M1)) rfl rfl rfl ?_
          rw [nI_add1 (p := p) (k := 2) (x := 2) rfl (by omega)]
          show pl _ _ _ (_, [(0, .ref m0), (2, .int 3), (3, .int (nI x)), (4, .int (nI (by2 f p1))), (5, .int (nI p)), (6, .int (nI s3)), (7, .int (nI i))], [.int (nI (p + 2)), .ref m0], M1) _
          refine pl_call (a := [.ref m0, .int (nI (p + 2))]) (rest := []) rfl rfl rfl (rd_u4 (n := n) (f := f) (p := (p + 2)) hR1 hF1 (by omega)) (fun v1 M2 q3 => ?_)
          obtain ⟨rfl, rfl⟩ := q3
          show pl _ _ _ (33, [(0, .ref m0), (2, .int 3), (3, .int (nI x)), (4, .int (nI (by2 f p1))), (5, .int (nI p)), (6, .int (nI s3)), (7, .int (nI i))], [.long (nL (by4 f (p + 2)))], M1) _
          have hu_30 := by4_lt f (p + 2)
          refine ps_st (S' := (34, [(0, .ref m0), (2, .int 3), (3, .int (nI x)), (4, .int (nI (by2 f p1))), (5, .int (nI p)), (6, .int (nI s3)), (7, .int (nI i))], [.int (Int64.toInt32 (nL (by4 f (p + 2))))], M1)) rfl rfl rfl ?_
          rw [l2i_nL (p := by4 f (p + 2)) (by omega)]
          show pl _ _ _ (_, [(0, .ref m0), (2, .int 3), (3, .int (nI x)), (4, .int (nI (by2 f p1))), (5, .int (nI p)), (6, .int (nI s3)), (7, .int (nI i))], [.int (nI (by4 f (p + 2)))], M1) _
          refine ps_st (S' := (36, [(8, .int (nI (by4 f (p + 2)))), (0, .ref m0), (2, .int 3), (3, .int (nI x)), (4, .int (nI (by2 f p1))), (5, .int (nI p)), (6, .int (nI s3)), (7, .int (nI i))], [], M1)) rfl rfl rfl ?_
          refine ps_st (S' := (37, [(8, .int (nI (by4 f (p + 2)))), (0, .ref m0), (2, .int 3), (3, .int (nI x)), (4, .int (nI (by2 f p1))), (5, .int (nI p)), (6, .int (nI s3)), (7, .int (nI i))], [.ref m0], M1)) rfl rfl rfl ?_
          refine ps_st (S' := (38, [(8, .int (nI (by4 f (p + 2)))), (0, .ref m0), (2, .int 3), (3, .int (nI x)), (4, .int (nI (by2 f p1))), (5, .int (nI p)), (6, .int (nI s3)), (7, .int (nI i))], [.ref m0, .ref m0], M1)) rfl rfl rfl ?_
          refine ps_st (S' := (40, [(8, .int (nI (by4 f (p + 2)))), (0, .ref m0), (2, .int 3), (3, .int (nI x)), (4, .int (nI (by2 f p1))), (5, .int (nI p)), (6, .int (nI s3)), (7, .int (nI i))], [.int (nI p), .ref m0, .ref m0], M1)) rfl rfl rfl ?_
          refine pl_call (a := [.ref m0, .int (nI p)]) (rest := [.ref m0]) rfl rfl rfl (rd_u2 (n := n) (f := f) (p := p) hR1 hF1 (by omega)) (fun v4 M5 q6 => ?_)
          obtain ⟨rfl, rfl⟩ := q6
          show pl _ _ _ (43, [(8, .int (nI (by4 f (p + 2)))), (0, .ref m0), (2, .int 3), (3, .int (nI x)), (4, .int (nI (by2 f p1))), (5, .int (nI p)), (6, .int (nI s3)), (7, .int (nI i))], [.int (nI (by2 f p)), .ref m0], M1) _
          have hu_40 := by2_lt f p
          refine pl_call (a := [.ref m0, .int (nI (by2 f p))]) (rest := []) rfl rfl rfl (rd_tag (n := n) (f := f) (tx := tx) (cN := cN) (A := A) (N := N) (mj := mj) (E := E) (k := (by2 f p)) hR1 hl51 hl52 hl53 hF1 hY1 hP1 (hEP) (hN) (hmj) (by2_lt _ _)) (fun v7 M8 q9 => ?_)
          obtain ⟨rfl, rfl⟩ := q9
          show pl _ _ _ (46, [(8, .int (nI (by4 f (p + 2)))), (0, .ref m0), (2, .int 3), (3, .int (nI x)), (4, .int (nI (by2 f p1))), (5, .int (nI p)), (6, .int (nI s3)), (7, .int (nI i))], [.int (nI (tg f E (by2 f p)))], M1) _
          have htg_43 := tg_lt f E (by2 f p)
          refine ps_st (S' := (47, [(8, .int (nI (by4 f (p + 2)))), (0, .ref m0), (2, .int 3), (3, .int (nI x)), (4, .int (nI (by2 f p1))), (5, .int (nI p)), (6, .int (nI s3)), (7, .int (nI i))], [.int 1, .int (nI (tg f E (by2 f p)))], M1)) rfl rfl rfl ?_
          refine ps_if2 (S1 := (61, [(8, .int (nI (by4 f (p + 2)))), (0, .ref m0), (2, .int 3), (3, .int (nI x)), (4, .int (nI (by2 f p1))), (5, .int (nI p)), (6, .int (nI s3)), (7, .int (nI i))], [], M1)) (S2 := (50, [(8, .int (nI (by4 f (p + 2)))), (0, .ref m0), (2, .int 3), (3, .int (nI x)), (4, .int (nI (by2 f p1))), (5, .int (nI p)), (6, .int (nI s3)), (7, .int (nI i))], [], M1)) rfl rfl rfl (fun c_47 => ?_) (fun c_47 => ?_)
          · have c_47 : (nI (tg f E (by2 f p))) = 1 := of_decide_eq_true c_47
            have n_47 : tg f E (by2 f p) = 1 := (eq_nI (p := tg f E (by2 f p)) (n := 1) (Nat.lt_trans (tg_lt _ _ _) (by decide)) (by decide)).mp c_47
            refine ps_st (S' := (62, [(8, .int (nI (by4 f (p + 2)))), (0, .ref m0), (2, .int 3), (3, .int (nI x)), (4, .int (nI (by2 f p1))), (5, .int (nI p)), (6, .int (nI s3)), (7, .int (nI i))], [.ref m0], M1)) rfl rfl rfl ?_
            refine ps_st (S' := (63, [(8, .int (nI (by4 f (p + 2)))), (0, .ref m0), (2, .int 3), (3, .int (nI x)), (4, .int (nI (by2 f p1))), (5, .int (nI p)), (6, .int (nI s3)), (7, .int (nI i))], [.ref m0, .ref m0], M1)) rfl rfl rfl ?_
            refine ps_st (S' := (65, [(8, .int (nI (by4 f (p + 2)))), (0, .ref m0), (2, .int 3), (3, .int (nI x)), (4, .int (nI (by2 f p1))), (5, .int (nI p)), (6, .int (nI s3)), (7, .int (nI i))], [.int (nI p), .ref m0, .ref m0], M1)) rfl rfl rfl ?_
            refine pl_call (a := [.ref m0, .int (nI p)]) (rest := [.ref m0]) rfl rfl rfl (rd_u2 (n := n) (f := f) (p := p) hR1 hF1 (by omega)) (fun v10 M11 q12 => ?_)
            obtain ⟨rfl, rfl⟩ := q12
            show pl _ _ _ (68, [(8, .int (nI (by4 f (p + 2)))), (0, .ref m0), (2, .int 3), (3, .int (nI x)), (4, .int (nI (by2 f p1))), (5, .int (nI p)), (6, .int (nI s3)), (7, .int (nI i))], [.int (nI (by2 f p)), .ref m0], M1) _
            have hu_65 := by2_lt f p
            refine pl_call (a := [.ref m0, .int (nI (by2 f p))]) (rest := []) rfl rfl rfl (rd_symOf (n := n) (f := f) (tx := tx) (cN := cN) (A := A) (N := N) (mj := mj) (E := E) (k := (by2 f p)) hR1 hl51 hl52 hl53 hF1 hY1 hP1 (hEP) (hN) (hmj) (by omega)) (fun v13 M14 q15 => ?_)
            obtain ⟨s16, q68_s, rfl, rfl⟩ := q15
            show pl _ _ _ (71, [(8, .int (nI (by4 f (p + 2)))), (0, .ref m0), (2, .int 3), (3, .int (nI x)), (4, .int (nI (by2 f p1))), (5, .int (nI p)), (6, .int (nI s3)), (7, .int (nI i))], [.int (nI s16)], M1) _
            have hsl_68 := q68_s.1
            have htl_68 := hY1.1.2.2.1
            refine ps_st (S' := (73, [(9, .int (nI s16)), (8, .int (nI (by4 f (p + 2)))), (0, .ref m0), (2, .int 3), (3, .int (nI x)), (4, .int (nI (by2 f p1))), (5, .int (nI p)), (6, .int (nI s3)), (7, .int (nI i))], [], M1)) rfl rfl rfl ?_
            refine ps_st (S' := (74, [(9, .int (nI s16)), (8, .int (nI (by4 f (p + 2)))), (0, .ref m0), (2, .int 3), (3, .int (nI x)), (4, .int (nI (by2 f p1))), (5, .int (nI p)), (6, .int (nI s3)), (7, .int (nI i))], [.int (-1)], M1)) rfl rfl rfl ?_
            refine ps_st (S' := (76, [(10, .int (-1)), (9, .int (nI s16)), (8, .int (nI (by4 f (p + 2)))), (0, .ref m0), (2, .int 3), (3, .int (nI x)), (4, .int (nI (by2 f p1))), (5, .int (nI p)), (6, .int (nI s3)), (7, .int (nI i))], [], M1)) rfl rfl rfl ?_
            refine ps_st (S' := (77, [(10, .int (-1)), (9, .int (nI s16)), (8, .int (nI (by4 f (p + 2)))), (0, .ref m0), (2, .int 3), (3, .int (nI x)), (4, .int (nI (by2 f p1))), (5, .int (nI p)), (6, .int (nI s3)), (7, .int (nI i))], [.int 0], M1)) rfl rfl rfl ?_
            refine ps_st (S' := (79, [(0, .ref m0), (2, .int 3), (3, .int (nI x)), (4, .int (nI (by2 f p1))), (5, .int (nI p)), (6, .int (nI s3)), (7, .int (nI i)), (8, .int (nI (by4 f (p + 2)))), (9, .int (nI s16)), (10, .int (-1)), (11, .int 0)], [], M1)) rfl rfl rfl ?_
            exact ih.2 (i) (p) (s2) (s3) (0) (s16) M1 I1 R1 hR1 hEI1 hER1 hl51 hl52 hl53 hF1 hY1 hP1 hK1 (by omega) (hl) (hb) (ha) (hs9) (by omega) (by omega) (q68_s)
          · have c_47 : ¬ ((nI (tg f E (by2 f p))) = 1) := of_decide_eq_false c_47
            have n_47 : ¬ (tg f E (by2 f p) = 1) := fun h9 => c_47 ((eq_nI (p := tg f E (by2 f p)) (n := 1) (Nat.lt_trans (tg_lt _ _ _) (by decide)) (by decide)).mpr h9)
            refine ps_st (S' := (51, [(8, .int (nI (by4 f (p + 2)))), (0, .ref m0), (2, .int 3), (3, .int (nI x)), (4, .int (nI (by2 f p1))), (5, .int (nI p)), (6, .int (nI s3)), (7, .int (nI i))], [.ref m0], M1)) rfl rfl rfl ?_
            refine ps_st (S' := (53, [(8, .int (nI (by4 f (p + 2)))), (0, .ref m0), (2, .int 3), (3, .int (nI x)), (4, .int (nI (by2 f p1))), (5, .int (nI p)), (6, .int (nI s3)), (7, .int (nI i))], [.int 28, .ref m0], M1)) rfl rfl rfl ?_
            refine ps_st (S' := (55, [(8, .int (nI (by4 f (p + 2)))), (0, .ref m0), (2, .int 3), (3, .int (nI x)), (4, .int (nI (by2 f p1))), (5, .int (nI p)), (6, .int (nI s3)), (7, .int (nI i))], [.int (nI p), .int 28, .ref m0], M1)) rfl rfl rfl ?_
            refine pl_call (a := [.ref m0, .int 28, .int (nI p)]) (rest := []) rfl rfl rfl (rd_wrong (x1 := 28) (x2 := (nI p)) hR1) (fun v17 M18 q19 => ?_)
            obtain ⟨I20, R21, rfl, hR22, hI23, hX24, hi25, hi26⟩ := q19
            have hi27 := (hI23 51 (by decide)).trans hl51
            have hi28 := (hI23 52 (by decide)).trans hl52
            have hi29 := (hI23 53 (by decide)).trans hl53
            have hF_30 := hF1.mono (cIx hI23 (by decide)) (cRx hX24 (by decide))
            have hY_31 := hY1.mono (cIx hI23 (by decide)) (cRx hX24 (by decide))
            have hP_32 := hP1.mono (cIx hI23 (by decide)) (cRx hX24 (by decide))
            have hK_33 := hK1.mono (cIx hI23 (by decide)) (cRx hX24 (by decide))
            have hEI34 := hEI1.tr hI23 (by decide)
            have hER35 := hER1.tr hX24 (by decide)
            show pl _ _ _ (58, [(8, .int (nI (by4 f (p + 2)))), (0, .ref m0), (2, .int 3), (3, .int (nI x)), (4, .int (nI (by2 f p1))), (5, .int (nI p)), (6, .int (nI s3)), (7, .int (nI i))], [.int 0], M18) _
            refine ps_st (S' := (59, [(8, .int (nI (by4 f (p + 2)))), (0, .ref m0), (2, .int 3), (3, .int (nI x)), (4, .int (nI (by2 f p1))), (5, .int (nI p)), (6, .int (nI s3)), (7, .int (nI i))], [], M18)) rfl rfl rfl ?_
            refine ps_st (S' := (60, [(8, .int (nI (by4 f (p + 2)))), (0, .ref m0), (2, .int 3), (3, .int (nI x)), (4, .int (nI (by2 f p1))), (5, .int (nI p)), (6, .int (nI s3)), (7, .int (nI i))], [.int (-1)], M18)) rfl rfl rfl ?_
            exact ps_ret rfl rfl (Or.inl ⟨(28, p), I20, R21, by
                rw [← hs9, caS_st (i := i) (p := p) (s := s2) (by omega)]
                rw [show nwS f E s2 (smN4 f n E mj (by2 f p)) p = .inl (28, p) by unfold nwS; rw [if_pos (by omega)]], rfl, hR22, hEI34, hER35, hi25, hi26⟩)
      · skip
        intro i p s2 s3 k t M1 I1 R1 hR1 hEI1 hER1 hl51 hl52 hl53 hF1 hY1 hP1 hK1 hi0 hl hb ha hs9 hk h1 hsy
        have hn := hF1.1
        have hu9 := by2_lt f p1
        have htl := hY1.1.2.2.1
        obtain ⟨hq5, hq6, hq7⟩ := s_atE_in (i := i) (p := p) ha hi0
        refine ps_st1 (S' := (81, [(0, .ref m0), (2, .int 3), (3, .int (nI x)), (4, .int (nI (by2 f p1))), (5, .int (nI p)), (6, .int (nI s3)), (7, .int (nI i)), (8, .int (nI (by4 f (p + 2)))), (9, .int (nI t)), (10, .int (gI (kb mj 3 (tX f n E (by2 f p)) k))), (11, .int (nI k))], [.int (nI k)], M1)) rfl rfl rfl ?_
        refine ps_st (S' := (82, [(0, .ref m0), (2, .int 3), (3, .int (nI x)), (4, .int (nI (by2 f p1))), (5, .int (nI p)), (6, .int (nI s3)), (7, .int (nI i)), (8, .int (nI (by4 f (p + 2)))), (9, .int (nI t)), (10, .int (gI (kb mj 3 (tX f n E (by2 f p)) k))), (11, .int (nI k))], [.ref m0, .int (nI k)], M1)) rfl rfl rfl ?_
        refine pr_ref (j := 62) (S' := (85, [(0, .ref m0), (2, .int 3), (3, .int (nI x)), (4, .int (nI (by2 f p1))), (5, .int (nI p)), (6, .int (nI s3)), (7, .int (nI i)), (8, .int (nI (by4 f (p + 2)))), (9, .int (nI t)), (10, .int (gI (kb mj 3 (tX f n E (by2 f p)) k))), (11, .int (nI k))], [.ref (q 62), .int (nI k)], M1)) rfl hR1 rfl rfl ?_
        refine pr_knl (S' := (86, [(0, .ref m0), (2, .int 3), (3, .int (nI x)), (4, .int (nI (by2 f p1))), (5, .int (nI p)), (6, .int (nI s3)), (7, .int (nI i)), (8, .int (nI (by4 f (p + 2)))), (9, .int (nI t)), (10, .int (gI (kb mj 3 (tX f n E (by2 f p)) k))), (11, .int (nI k))], [.int (nI 10), .int (nI k)], M1)) rfl hR1 rfl ?_
        refine ps_if2 (S1 := (140, [(0, .ref m0), (2, .int 3), (3, .int (nI x)), (4, .int (nI (by2 f p1))), (5, .int (nI p)), (6, .int (nI s3)), (7, .int (nI i)), (8, .int (nI (by4 f (p + 2)))), (9, .int (nI t)), (10, .int (gI (kb mj 3 (tX f n E (by2 f p)) k))), (11, .int (nI k))], [], M1)) (S2 := (89, [(0, .ref m0), (2, .int 3), (3, .int (nI x)), (4, .int (nI (by2 f p1))), (5, .int (nI p)), (6, .int (nI s3)), (7, .int (nI i)), (8, .int (nI (by4 f (p + 2)))), (9, .int (nI t)), (10, .int (gI (kb mj 3 (tX f n E (by2 f p)) k))), (11, .int (nI k))], [], M1)) rfl rfl rfl (fun c_86 => ?_) (fun c_86 => ?_)
        · have c_86 : (nI 10) ≤ (nI k) := of_decide_eq_true c_86
          have n_86 : 10 ≤ k := (le_nI (p := 10) (n := k) (by decide) (by omega)).mp c_86
          have ek : k = 10 := by omega
          have hkk := kb_3 (mj := mj) (l := tX f n E (by2 f p))
          refine ps_st (S' := (142, [(0, .ref m0), (2, .int 3), (3, .int (nI x)), (4, .int (nI (by2 f p1))), (5, .int (nI p)), (6, .int (nI s3)), (7, .int (nI i)), (8, .int (nI (by4 f (p + 2)))), (9, .int (nI t)), (10, .int (gI (kb mj 3 (tX f n E (by2 f p)) k))), (11, .int (nI k))], [.int (gI (kb mj 3 (tX f n E (by2 f p)) k))], M1)) rfl rfl rfl ?_
          refine ps_if (S1 := (268, [(0, .ref m0), (2, .int 3), (3, .int (nI x)), (4, .int (nI (by2 f p1))), (5, .int (nI p)), (6, .int (nI s3)), (7, .int (nI i)), (8, .int (nI (by4 f (p + 2))))], [], M1)) (S2 := (145, [(0, .ref m0), (2, .int 3), (3, .int (nI x)), (4, .int (nI (by2 f p1))), (5, .int (nI p)), (6, .int (nI s3)), (7, .int (nI i)), (8, .int (nI (by4 f (p + 2)))), (9, .int (nI t)), (10, .int (gI (kb mj 3 (tX f n E (by2 f p)) k))), (11, .int (nI k))], [], M1)) rfl rfl rfl (fun c_142 => ?_) (fun c_142 => ?_)
          · have c_142 : (gI (kb mj 3 (tX f n E (by2 f p)) k)) < 0 := of_decide_eq_true c_142
            have hc3 : ¬ (50 ≤ mj ∧ ¬ eqN (tX f n E (by2 f p)) (ltx 18) = 0) := fun h9 => by
              rw [ek, hkk, if_pos h9] at c_142
              exact absurd c_142 (by decide)
            have hsm : smN4 f n E mj (by2 f p) = 0 := by
              unfold smN4
              rw [← lt_eq3, if_neg hc3]
            refine ps_st (S' := (270, [(0, .ref m0), (2, .int 3), (3, .int (nI x)), (4, .int (nI (by2 f p1))), (5, .int (nI p)), (6, .int (nI s3)), (7, .int (nI i)), (8, .int (nI (by4 f (p + 2))))], [.int (nI p)], M1)) rfl rfl rfl ?_
            refine ps_st (S' := (272, [(0, .ref m0), (2, .int 3), (3, .int (nI x)), (4, .int (nI (by2 f p1))), (5, .int (nI p)), (6, .int (nI s3)), (7, .int (nI i)), (8, .int (nI (by4 f (p + 2))))], [.int 6, .int (nI p)], M1)) rfl rfl rfl ?_
            refine ps_st (S' := (274, [(0, .ref m0), (2, .int 3), (3, .int (nI x)), (4, .int (nI (by2 f p1))), (5, .int (nI p)), (6, .int (nI s3)), (7, .int (nI i)), (8, .int (nI (by4 f (p + 2))))], [.int (nI (by4 f (p + 2))), .int 6, .int (nI p)], M1)) rfl rfl rfl ?_
            refine ps_st (S' := (275, [(0, .ref m0), (2, .int 3), (3, .int (nI x)), (4, .int (nI (by2 f p1))), (5, .int (nI p)), (6, .int (nI s3)), (7, .int (nI i)), (8, .int (nI (by4 f (p + 2))))], [.int (6 + (nI (by4 f (p + 2)))), .int (nI p)], M1)) rfl rfl rfl ?_
            rw [nI_add2 (p := 6) (k := by4 f (p + 2)) (x := 6) (y := (nI (by4 f (p + 2)))) rfl rfl (by omega)]
            show pl _ _ _ (_, [(0, .ref m0), (2, .int 3), (3, .int (nI x)), (4, .int (nI (by2 f p1))), (5, .int (nI p)), (6, .int (nI s3)), (7, .int (nI i)), (8, .int (nI (by4 f (p + 2))))], [.int (nI (6 + by4 f (p + 2))), .int (nI p)], M1) _
            refine ps_st (S' := (276, [(0, .ref m0), (2, .int 3), (3, .int (nI x)), (4, .int (nI (by2 f p1))), (5, .int (nI p)), (6, .int (nI s3)), (7, .int (nI i)), (8, .int (nI (by4 f (p + 2))))], [.int ((nI p) + (nI (6 + by4 f (p + 2))))], M1)) rfl rfl rfl ?_
            rw [nI_add1 (p := p) (k := 6 + by4 f (p + 2)) (x := (nI (6 + by4 f (p + 2)))) rfl (by omega)]
            rw [show nI (p + (6 + by4 f (p + 2))) = nI (p + 6 + by4 f (p + 2)) from congrArg nI (by omega)]
            show pl _ _ _ (_, [(0, .ref m0), (2, .int 3), (3, .int (nI x)), (4, .int (nI (by2 f p1))), (5, .int (nI p)), (6, .int (nI s3)), (7, .int (nI i)), (8, .int (nI (by4 f (p + 2))))], [.int (nI (p + 6 + by4 f (p + 2)))], M1) _
            refine ps_st (S' := (278, [(5, .int (nI (p + 6 + by4 f (p + 2)))), (0, .ref m0), (2, .int 3), (3, .int (nI x)), (4, .int (nI (by2 f p1))), (6, .int (nI s3)), (7, .int (nI i)), (8, .int (nI (by4 f (p + 2))))], [], M1)) rfl rfl rfl ?_
            refine ps_st (S' := (281, [(7, .int ((nI i) + 1)), (5, .int (nI (p + 6 + by4 f (p + 2)))), (0, .ref m0), (2, .int 3), (3, .int (nI x)), (4, .int (nI (by2 f p1))), (6, .int (nI s3)), (8, .int (nI (by4 f (p + 2))))], [], M1)) rfl rfl rfl ?_
            rw [nI_add1 (p := i) (k := 1) (x := 1) rfl (by omega)]
            show pl _ _ _ (_, [(7, .int (nI (i + 1))), (5, .int (nI (p + 6 + by4 f (p + 2)))), (0, .ref m0), (2, .int 3), (3, .int (nI x)), (4, .int (nI (by2 f p1))), (6, .int (nI s3)), (8, .int (nI (by4 f (p + 2))))], [], M1) _
            refine ps_st (S' := (18, [(0, .ref m0), (2, .int 3), (3, .int (nI x)), (4, .int (nI (by2 f p1))), (5, .int (nI (p + 6 + by4 f (p + 2)))), (6, .int (nI s3)), (7, .int (nI (i + 1)))], [], M1)) rfl rfl rfl ?_
            exact ih.1 (i + 1) (p + 6 + by4 f (p + 2)) (s2) (s3) M1 I1 R1 hR1 hEI1 hER1 hl51 hl52 hl53 hF1 hY1 hP1 hK1 (by omega) (hl) (hb) (hq7) (by
                rw [← hs9, caS_st (i := i) (p := p) (s := s2) (by omega), hsm, show nwS f E s2 0 p = .inr s2 by unfold nwS; rw [if_neg (by omega), if_pos rfl]])
          · have c_142 : ¬ ((gI (kb mj 3 (tX f n E (by2 f p)) k)) < 0) := of_decide_eq_false c_142
            have hc3 : 50 ≤ mj ∧ ¬ eqN (tX f n E (by2 f p)) (ltx 18) = 0 := by
              by_cases h9 : 50 ≤ mj ∧ ¬ eqN (tX f n E (by2 f p)) (ltx 18) = 0
              · exact h9
              · rw [ek, hkk, if_neg h9] at c_142; exact absurd (by decide) c_142
            have hsm : smN4 f n E mj (by2 f p) = 4 := by
              unfold smN4
              rw [← lt_eq3, if_pos hc3]
            rw [show gI (kb mj 3 (tX f n E (by2 f p)) k) = nI 3 by rw [ek, hkk, if_pos hc3]; rfl]
            show pl _ _ _ (145, [(0, .ref m0), (2, .int 3), (3, .int (nI x)), (4, .int (nI (by2 f p1))), (5, .int (nI p)), (6, .int (nI s3)), (7, .int (nI i)), (8, .int (nI (by4 f (p + 2)))), (9, .int (nI t)), (10, .int (nI 3)), (11, .int (nI k))], [], M1) _
            refine ps_st (S' := (146, [(0, .ref m0), (2, .int 3), (3, .int (nI x)), (4, .int (nI (by2 f p1))), (5, .int (nI p)), (6, .int (nI s3)), (7, .int (nI i)), (8, .int (nI (by4 f (p + 2)))), (9, .int (nI t)), (10, .int (nI 3)), (11, .int (nI k))], [.int 3], M1)) rfl rfl rfl ?_
            refine ps_st (S' := (147, [(0, .ref m0), (2, .int 3), (3, .int (nI x)), (4, .int (nI (by2 f p1))), (5, .int (nI p)), (6, .int (nI s3)), (7, .int (nI i)), (8, .int (nI (by4 f (p + 2)))), (9, .int (nI t)), (10, .int (nI 3)), (11, .int (nI k))], [.int 1, .int 3], M1)) rfl rfl rfl ?_
            refine ps_if2 (S1 := (160, [(0, .ref m0), (2, .int 3), (3, .int (nI x)), (4, .int (nI (by2 f p1))), (5, .int (nI p)), (6, .int (nI s3)), (7, .int (nI i)), (8, .int (nI (by4 f (p + 2)))), (10, .int (nI 3))], [], M1)) (S2 := (150, [(0, .ref m0), (2, .int 3), (3, .int (nI x)), (4, .int (nI (by2 f p1))), (5, .int (nI p)), (6, .int (nI s3)), (7, .int (nI i)), (8, .int (nI (by4 f (p + 2)))), (9, .int (nI t)), (10, .int (nI 3)), (11, .int (nI k))], [], M1)) rfl rfl rfl (fun c_147 => ?_) (fun c_147 => ?_)
            rotate_left
            · exact absurd (by decide) (of_decide_eq_false c_147)
            refine ps_st (S' := (161, [(0, .ref m0), (2, .int 3), (3, .int (nI x)), (4, .int (nI (by2 f p1))), (5, .int (nI p)), (6, .int (nI s3)), (7, .int (nI i)), (8, .int (nI (by4 f (p + 2)))), (10, .int (nI 3))], [.int 3], M1)) rfl rfl rfl ?_
            refine ps_st (S' := (162, [(0, .ref m0), (2, .int 3), (3, .int (nI x)), (4, .int (nI (by2 f p1))), (5, .int (nI p)), (6, .int (nI s3)), (7, .int (nI i)), (8, .int (nI (by4 f (p + 2)))), (10, .int (nI 3))], [.int 2, .int 3], M1)) rfl rfl rfl ?_
            refine ps_if2 (S1 := (175, [(0, .ref m0), (2, .int 3), (3, .int (nI x)), (4, .int (nI (by2 f p1))), (5, .int (nI p)), (6, .int (nI s3)), (7, .int (nI i)), (8, .int (nI (by4 f (p + 2)))), (10, .int (nI 3))], [], M1)) (S2 := (165, [(0, .ref m0), (2, .int 3), (3, .int (nI x)), (4, .int (nI (by2 f p1))), (5, .int (nI p)), (6, .int (nI s3)), (7, .int (nI i)), (8, .int (nI (by4 f (p + 2)))), (10, .int (nI 3))], [], M1)) rfl rfl rfl (fun c_162 => ?_) (fun c_162 => ?_)
            rotate_left
            · exact absurd (by decide) (of_decide_eq_false c_162)
            refine ps_st (S' := (176, [(0, .ref m0), (2, .int 3), (3, .int (nI x)), (4, .int (nI (by2 f p1))), (5, .int (nI p)), (6, .int (nI s3)), (7, .int (nI i)), (8, .int (nI (by4 f (p + 2)))), (10, .int (nI 3))], [.int 3], M1)) rfl rfl rfl ?_
            refine ps_st (S' := (177, [(0, .ref m0), (2, .int 3), (3, .int (nI x)), (4, .int (nI (by2 f p1))), (5, .int (nI p)), (6, .int (nI s3)), (7, .int (nI i)), (8, .int (nI (by4 f (p + 2)))), (10, .int (nI 3))], [.int 4, .int 3], M1)) rfl rfl rfl ?_
            refine ps_if2 (S1 := (190, [(0, .ref m0), (2, .int 3), (3, .int (nI x)), (4, .int (nI (by2 f p1))), (5, .int (nI p)), (6, .int (nI s3)), (7, .int (nI i)), (8, .int (nI (by4 f (p + 2)))), (10, .int (nI 3))], [], M1)) (S2 := (180, [(0, .ref m0), (2, .int 3), (3, .int (nI x)), (4, .int (nI (by2 f p1))), (5, .int (nI p)), (6, .int (nI s3)), (7, .int (nI i)), (8, .int (nI (by4 f (p + 2)))), (10, .int (nI 3))], [], M1)) rfl rfl rfl (fun c_177 => ?_) (fun c_177 => ?_)
            rotate_left
            · exact absurd (by decide) (of_decide_eq_false c_177)
            refine ps_st (S' := (192, [(0, .ref m0), (2, .int 3), (3, .int (nI x)), (4, .int (nI (by2 f p1))), (5, .int (nI p)), (6, .int (nI s3)), (7, .int (nI i)), (8, .int (nI (by4 f (p + 2)))), (10, .int (nI 3))], [.int (nI s3)], M1)) rfl rfl rfl ?_
            refine ps_st (S' := (194, [(0, .ref m0), (2, .int 3), (3, .int (nI x)), (4, .int (nI (by2 f p1))), (5, .int (nI p)), (6, .int (nI s3)), (7, .int (nI i)), (8, .int (nI (by4 f (p + 2)))), (10, .int (nI 3))], [.int (nI 3), .int (nI s3)], M1)) rfl rfl rfl ?_
            refine ps_st (S' := (195, [(0, .ref m0), (2, .int 3), (3, .int (nI x)), (4, .int (nI (by2 f p1))), (5, .int (nI p)), (6, .int (nI s3)), (7, .int (nI i)), (8, .int (nI (by4 f (p + 2)))), (10, .int (nI 3))], [.int ((nI s3) >>> ((nI 3) &&& 31))], M1)) rfl rfl rfl ?_
            refine ps_st (S' := (196, [(0, .ref m0), (2, .int 3), (3, .int (nI x)), (4, .int (nI (by2 f p1))), (5, .int (nI p)), (6, .int (nI s3)), (7, .int (nI i)), (8, .int (nI (by4 f (p + 2)))), (10, .int (nI 3))], [.int 1, .int ((nI s3) >>> ((nI 3) &&& 31))], M1)) rfl rfl rfl ?_
            refine ps_st (S' := (197, [(0, .ref m0), (2, .int 3), (3, .int (nI x)), (4, .int (nI (by2 f p1))), (5, .int (nI p)), (6, .int (nI s3)), (7, .int (nI i)), (8, .int (nI (by4 f (p + 2)))), (10, .int (nI 3))], [.int (((nI s3) >>> ((nI 3) &&& 31)) &&& 1)], M1)) rfl rfl rfl ?_
            rw [shr_k s3 (by omega) 3 (by omega)]
            show pl _ _ _ (_, [(0, .ref m0), (2, .int 3), (3, .int (nI x)), (4, .int (nI (by2 f p1))), (5, .int (nI p)), (6, .int (nI s3)), (7, .int (nI i)), (8, .int (nI (by4 f (p + 2)))), (10, .int (nI 3))], [.int (nI (sb s3 3))], M1) _
            refine ps_st (S' := (198, [(0, .ref m0), (2, .int 3), (3, .int (nI x)), (4, .int (nI (by2 f p1))), (5, .int (nI p)), (6, .int (nI s3)), (7, .int (nI i)), (8, .int (nI (by4 f (p + 2)))), (10, .int (nI 3))], [.int 1, .int (nI (sb s3 3))], M1)) rfl rfl rfl ?_
            refine ps_if2 (S1 := (212, [(0, .ref m0), (2, .int 3), (3, .int (nI x)), (4, .int (nI (by2 f p1))), (5, .int (nI p)), (6, .int (nI s3)), (7, .int (nI i)), (8, .int (nI (by4 f (p + 2)))), (10, .int (nI 3))], [], M1)) (S2 := (201, [(0, .ref m0), (2, .int 3), (3, .int (nI x)), (4, .int (nI (by2 f p1))), (5, .int (nI p)), (6, .int (nI s3)), (7, .int (nI i)), (8, .int (nI (by4 f (p + 2)))), (10, .int (nI 3))], [], M1)) rfl rfl rfl (fun c_198 => ?_) (fun c_198 => ?_)
            · have c_198 : ¬ (nI (sb s3 3)) = 1 := of_decide_eq_true c_198
              have n_198 : ¬ (sb s3 3 = 1) := fun h9 => c_198 ((eq_nI (p := sb s3 3) (n := 1) (Nat.lt_trans (sb_lt _ _) (by decide)) (by decide)).mpr h9)
              refine ps_st (S' := (213, [(0, .ref m0), (2, .int 3), (3, .int (nI x)), (4, .int (nI (by2 f p1))), (5, .int (nI p)), (6, .int (nI s3)), (7, .int (nI i)), (8, .int (nI (by4 f (p + 2)))), (10, .int (nI 3))], [.ref m0], M1)) rfl rfl rfl ?_
              refine ps_st (S' := (215, [(0, .ref m0), (2, .int 3), (3, .int (nI x)), (4, .int (nI (by2 f p1))), (5, .int (nI p)), (6, .int (nI s3)), (7, .int (nI i)), (8, .int (nI (by4 f (p + 2)))), (10, .int (nI 3))], [.int (nI 3), .ref m0], M1)) rfl rfl rfl ?_
              refine ps_st (S' := (217, [(0, .ref m0), (2, .int 3), (3, .int (nI x)), (4, .int (nI (by2 f p1))), (5, .int (nI p)), (6, .int (nI s3)), (7, .int (nI i)), (8, .int (nI (by4 f (p + 2)))), (10, .int (nI 3))], [.int (nI p), .int (nI 3), .ref m0], M1)) rfl rfl rfl ?_
              refine ps_st (S' := (219, [(0, .ref m0), (2, .int 3), (3, .int (nI x)), (4, .int (nI (by2 f p1))), (5, .int (nI p)), (6, .int (nI s3)), (7, .int (nI i)), (8, .int (nI (by4 f (p + 2)))), (10, .int (nI 3))], [.int (nI p), .int (nI p), .int (nI 3), .ref m0], M1)) rfl rfl rfl ?_
              refine ps_st (S' := (221, [(0, .ref m0), (2, .int 3), (3, .int (nI x)), (4, .int (nI (by2 f p1))), (5, .int (nI p)), (6, .int (nI s3)), (7, .int (nI i)), (8, .int (nI (by4 f (p + 2)))), (10, .int (nI 3))], [.int 6, .int (nI p), .int (nI p), .int (nI 3), .ref m0], M1)) rfl rfl rfl ?_
              refine ps_st (S' := (222, [(0, .ref m0), (2, .int 3), (3, .int (nI x)), (4, .int (nI (by2 f p1))), (5, .int (nI p)), (6, .int (nI s3)), (7, .int (nI i)), (8, .int (nI (by4 f (p + 2)))), (10, .int (nI 3))], [.int ((nI p) + 6), .int (nI p), .int (nI 3), .ref m0], M1)) rfl rfl rfl ?_
              rw [nI_add1 (p := p) (k := 6) (x := 6) rfl (by omega)]
              show pl _ _ _ (_, [(0, .ref m0), (2, .int 3), (3, .int (nI x)), (4, .int (nI (by2 f p1))), (5, .int (nI p)), (6, .int (nI s3)), (7, .int (nI i)), (8, .int (nI (by4 f (p + 2)))), (10, .int (nI 3))], [.int (nI (p + 6)), .int (nI p), .int (nI 3), .ref m0], M1) _
              refine ps_st (S' := (224, [(0, .ref m0), (2, .int 3), (3, .int (nI x)), (4, .int (nI (by2 f p1))), (5, .int (nI p)), (6, .int (nI s3)), (7, .int (nI i)), (8, .int (nI (by4 f (p + 2)))), (10, .int (nI 3))], [.int (nI p), .int (nI (p + 6)), .int (nI p), .int (nI 3), .ref m0], M1)) rfl rfl rfl ?_
              refine ps_st (S' := (226, [(0, .ref m0), (2, .int 3), (3, .int (nI x)), (4, .int (nI (by2 f p1))), (5, .int (nI p)), (6, .int (nI s3)), (7, .int (nI i)), (8, .int (nI (by4 f (p + 2)))), (10, .int (nI 3))], [.int 6, .int (nI p), .int (nI (p + 6)), .int (nI p), .int (nI 3), .ref m0], M1)) rfl rfl rfl ?_
              refine ps_st (S' := (227, [(0, .ref m0), (2, .int 3), (3, .int (nI x)), (4, .int (nI (by2 f p1))), (5, .int (nI p)), (6, .int (nI s3)), (7, .int (nI i)), (8, .int (nI (by4 f (p + 2)))), (10, .int (nI 3))], [.int ((nI p) + 6), .int (nI (p + 6)), .int (nI p), .int (nI 3), .ref m0], M1)) rfl rfl rfl ?_
              rw [nI_add1 (p := p) (k := 6) (x := 6) rfl (by omega)]
              show pl _ _ _ (_, [(0, .ref m0), (2, .int 3), (3, .int (nI x)), (4, .int (nI (by2 f p1))), (5, .int (nI p)), (6, .int (nI s3)), (7, .int (nI i)), (8, .int (nI (by4 f (p + 2)))), (10, .int (nI 3))], [.int (nI (p + 6)), .int (nI (p + 6)), .int (nI p), .int (nI 3), .ref m0], M1) _
              refine ps_st (S' := (229, [(0, .ref m0), (2, .int 3), (3, .int (nI x)), (4, .int (nI (by2 f p1))), (5, .int (nI p)), (6, .int (nI s3)), (7, .int (nI i)), (8, .int (nI (by4 f (p + 2)))), (10, .int (nI 3))], [.int (nI (by4 f (p + 2))), .int (nI (p + 6)), .int (nI (p + 6)), .int (nI p), .int (nI 3), .ref m0], M1)) rfl rfl rfl ?_
              refine ps_st (S' := (230, [(0, .ref m0), (2, .int 3), (3, .int (nI x)), (4, .int (nI (by2 f p1))), (5, .int (nI p)), (6, .int (nI s3)), (7, .int (nI i)), (8, .int (nI (by4 f (p + 2)))), (10, .int (nI 3))], [.int ((nI (p + 6)) + (nI (by4 f (p + 2)))), .int (nI (p + 6)), .int (nI p), .int (nI 3), .ref m0], M1)) rfl rfl rfl ?_
              rw [nI_add1 (p := p + 6) (k := by4 f (p + 2)) (x := (nI (by4 f (p + 2)))) rfl (by omega)]
              show pl _ _ _ (_, [(0, .ref m0), (2, .int 3), (3, .int (nI x)), (4, .int (nI (by2 f p1))), (5, .int (nI p)), (6, .int (nI s3)), (7, .int (nI i)), (8, .int (nI (by4 f (p + 2)))), (10, .int (nI 3))], [.int (nI (p + 6 + by4 f (p + 2))), .int (nI (p + 6)), .int (nI p), .int (nI 3), .ref m0], M1) _
              refine ps_st (S' := (231, [(0, .ref m0), (2, .int 3), (3, .int (nI x)), (4, .int (nI (by2 f p1))), (5, .int (nI p)), (6, .int (nI s3)), (7, .int (nI i)), (8, .int (nI (by4 f (p + 2)))), (10, .int (nI 3))], [.int (nI x), .int (nI (p + 6 + by4 f (p + 2))), .int (nI (p + 6)), .int (nI p), .int (nI 3), .ref m0], M1)) rfl rfl rfl ?_
              refine ps_st (S' := (233, [(0, .ref m0), (2, .int 3), (3, .int (nI x)), (4, .int (nI (by2 f p1))), (5, .int (nI p)), (6, .int (nI s3)), (7, .int (nI i)), (8, .int (nI (by4 f (p + 2)))), (10, .int (nI 3))], [.int (nI s3), .int (nI x), .int (nI (p + 6 + by4 f (p + 2))), .int (nI (p + 6)), .int (nI p), .int (nI 3), .ref m0], M1)) rfl rfl rfl ?_
              refine pl_call (a := [.ref m0, .int (nI 3), .int (nI p), .int (nI (p + 6)), .int (nI (p + 6 + by4 f (p + 2))), .int (nI x), .int (nI s3)]) (rest := []) rfl rfl rfl (rd_attr3 (x2 := (nI p)) (x3 := (nI (p + 6))) (x4 := (nI (p + 6 + by4 f (p + 2)))) (x5 := (nI x)) (x6 := (nI s3)) hR1) (fun v36 M37 q38 => ?_)
              obtain ⟨rfl, rfl⟩ := q38
              show pl _ _ _ (236, [(0, .ref m0), (2, .int 3), (3, .int (nI x)), (4, .int (nI (by2 f p1))), (5, .int (nI p)), (6, .int (nI s3)), (7, .int (nI i)), (8, .int (nI (by4 f (p + 2)))), (10, .int (nI 3))], [.int 0], M1) _
              refine ps_st (S' := (238, [(11, .int 0), (0, .ref m0), (2, .int 3), (3, .int (nI x)), (4, .int (nI (by2 f p1))), (5, .int (nI p)), (6, .int (nI s3)), (7, .int (nI i)), (8, .int (nI (by4 f (p + 2)))), (10, .int (nI 3))], [], M1)) rfl rfl rfl ?_
              refine ps_st (S' := (240, [(11, .int 0), (0, .ref m0), (2, .int 3), (3, .int (nI x)), (4, .int (nI (by2 f p1))), (5, .int (nI p)), (6, .int (nI s3)), (7, .int (nI i)), (8, .int (nI (by4 f (p + 2)))), (10, .int (nI 3))], [.int (nI s3)], M1)) rfl rfl rfl ?_
              refine ps_st (S' := (241, [(11, .int 0), (0, .ref m0), (2, .int 3), (3, .int (nI x)), (4, .int (nI (by2 f p1))), (5, .int (nI p)), (6, .int (nI s3)), (7, .int (nI i)), (8, .int (nI (by4 f (p + 2)))), (10, .int (nI 3))], [.int 1, .int (nI s3)], M1)) rfl rfl rfl ?_
              refine ps_st (S' := (243, [(11, .int 0), (0, .ref m0), (2, .int 3), (3, .int (nI x)), (4, .int (nI (by2 f p1))), (5, .int (nI p)), (6, .int (nI s3)), (7, .int (nI i)), (8, .int (nI (by4 f (p + 2)))), (10, .int (nI 3))], [.int (nI 3), .int 1, .int (nI s3)], M1)) rfl rfl rfl ?_
              refine ps_st (S' := (244, [(11, .int 0), (0, .ref m0), (2, .int 3), (3, .int (nI x)), (4, .int (nI (by2 f p1))), (5, .int (nI p)), (6, .int (nI s3)), (7, .int (nI i)), (8, .int (nI (by4 f (p + 2)))), (10, .int (nI 3))], [.int (1 <<< ((nI 3) &&& 31)), .int (nI s3)], M1)) rfl rfl rfl ?_
              refine ps_st (S' := (245, [(11, .int 0), (0, .ref m0), (2, .int 3), (3, .int (nI x)), (4, .int (nI (by2 f p1))), (5, .int (nI p)), (6, .int (nI s3)), (7, .int (nI i)), (8, .int (nI (by4 f (p + 2)))), (10, .int (nI 3))], [.int ((nI s3) ||| (1 <<< ((nI 3) &&& 31)))], M1)) rfl rfl rfl ?_
              rw [or_k s3 3 (by omega)]
              show pl _ _ _ (_, [(11, .int 0), (0, .ref m0), (2, .int 3), (3, .int (nI x)), (4, .int (nI (by2 f p1))), (5, .int (nI p)), (6, .int (nI s3)), (7, .int (nI i)), (8, .int (nI (by4 f (p + 2)))), (10, .int (nI 3))], [.int (nI (so s3 3))], M1) _
              refine ps_st (S' := (247, [(6, .int (nI (so s3 3))), (11, .int 0), (0, .ref m0), (2, .int 3), (3, .int (nI x)), (4, .int (nI (by2 f p1))), (5, .int (nI p)), (7, .int (nI i)), (8, .int (nI (by4 f (p + 2)))), (10, .int (nI 3))], [], M1)) rfl rfl rfl ?_
              refine ps_st (S' := (249, [(6, .int (nI (so s3 3))), (11, .int 0), (0, .ref m0), (2, .int 3), (3, .int (nI x)), (4, .int (nI (by2 f p1))), (5, .int (nI p)), (7, .int (nI i)), (8, .int (nI (by4 f (p + 2)))), (10, .int (nI 3))], [.int 0], M1)) rfl rfl rfl ?_
              refine ps_if (S1 := (261, [(0, .ref m0), (2, .int 3), (3, .int (nI x)), (4, .int (nI (by2 f p1))), (5, .int (nI p)), (6, .int (nI (so s3 3))), (7, .int (nI i)), (8, .int (nI (by4 f (p + 2)))), (11, .int 0)], [], M1)) (S2 := (252, [(6, .int (nI (so s3 3))), (11, .int 0), (0, .ref m0), (2, .int 3), (3, .int (nI x)), (4, .int (nI (by2 f p1))), (5, .int (nI p)), (7, .int (nI i)), (8, .int (nI (by4 f (p + 2)))), (10, .int (nI 3))], [], M1)) rfl rfl rfl (fun c_249 => ?_) (fun c_249 => ?_)
              rotate_left
              · exact absurd (by decide) (of_decide_eq_false c_249)
              refine ps_st (S' := (263, [(0, .ref m0), (2, .int 3), (3, .int (nI x)), (4, .int (nI (by2 f p1))), (5, .int (nI p)), (6, .int (nI (so s3 3))), (7, .int (nI i)), (8, .int (nI (by4 f (p + 2)))), (11, .int 0)], [.int 0], M1)) rfl rfl rfl ?_
              refine ps_if (S1 := (268, [(0, .ref m0), (2, .int 3), (3, .int (nI x)), (4, .int (nI (by2 f p1))), (5, .int (nI p)), (6, .int (nI (so s3 3))), (7, .int (nI i)), (8, .int (nI (by4 f (p + 2))))], [], M1)) (S2 := (266, [(0, .ref m0), (2, .int 3), (3, .int (nI x)), (4, .int (nI (by2 f p1))), (5, .int (nI p)), (6, .int (nI (so s3 3))), (7, .int (nI i)), (8, .int (nI (by4 f (p + 2)))), (11, .int 0)], [], M1)) rfl rfl rfl (fun c_263 => ?_) (fun c_263 => ?_)
              rotate_left
              · exact absurd (by decide) (of_decide_eq_false c_263)
              refine ps_st (S' := (270, [(0, .ref m0), (2, .int 3), (3, .int (nI x)), (4, .int (nI (by2 f p1))), (5, .int (nI p)), (6, .int (nI (so s3 3))), (7, .int (nI i)), (8, .int (nI (by4 f (p + 2))))], [.int (nI p)], M1)) rfl rfl rfl ?_
              refine ps_st (S' := (272, [(0, .ref m0), (2, .int 3), (3, .int (nI x)), (4, .int (nI (by2 f p1))), (5, .int (nI p)), (6, .int (nI (so s3 3))), (7, .int (nI i)), (8, .int (nI (by4 f (p + 2))))], [.int 6, .int (nI p)], M1)) rfl rfl rfl ?_
              refine ps_st (S' := (274, [(0, .ref m0), (2, .int 3), (3, .int (nI x)), (4, .int (nI (by2 f p1))), (5, .int (nI p)), (6, .int (nI (so s3 3))), (7, .int (nI i)), (8, .int (nI (by4 f (p + 2))))], [.int (nI (by4 f (p + 2))), .int 6, .int (nI p)], M1)) rfl rfl rfl ?_
              refine ps_st (S' := (275, [(0, .ref m0), (2, .int 3), (3, .int (nI x)), (4, .int (nI (by2 f p1))), (5, .int (nI p)), (6, .int (nI (so s3 3))), (7, .int (nI i)), (8, .int (nI (by4 f (p + 2))))], [.int (6 + (nI (by4 f (p + 2)))), .int (nI p)], M1)) rfl rfl rfl ?_
              rw [nI_add2 (p := 6) (k := by4 f (p + 2)) (x := 6) (y := (nI (by4 f (p + 2)))) rfl rfl (by omega)]
              show pl _ _ _ (_, [(0, .ref m0), (2, .int 3), (3, .int (nI x)), (4, .int (nI (by2 f p1))), (5, .int (nI p)), (6, .int (nI (so s3 3))), (7, .int (nI i)), (8, .int (nI (by4 f (p + 2))))], [.int (nI (6 + by4 f (p + 2))), .int (nI p)], M1) _
              refine ps_st (S' := (276, [(0, .ref m0), (2, .int 3), (3, .int (nI x)), (4, .int (nI (by2 f p1))), (5, .int (nI p)), (6, .int (nI (so s3 3))), (7, .int (nI i)), (8, .int (nI (by4 f (p + 2))))], [.int ((nI p) + (nI (6 + by4 f (p + 2))))], M1)) rfl rfl rfl ?_
              rw [nI_add1 (p := p) (k := 6 + by4 f (p + 2)) (x := (nI (6 + by4 f (p + 2)))) rfl (by omega)]
              rw [show nI (p + (6 + by4 f (p + 2))) = nI (p + 6 + by4 f (p + 2)) from congrArg nI (by omega)]
              show pl _ _ _ (_, [(0, .ref m0), (2, .int 3), (3, .int (nI x)), (4, .int (nI (by2 f p1))), (5, .int (nI p)), (6, .int (nI (so s3 3))), (7, .int (nI i)), (8, .int (nI (by4 f (p + 2))))], [.int (nI (p + 6 + by4 f (p + 2)))], M1) _
              refine ps_st (S' := (278, [(5, .int (nI (p + 6 + by4 f (p + 2)))), (0, .ref m0), (2, .int 3), (3, .int (nI x)), (4, .int (nI (by2 f p1))), (6, .int (nI (so s3 3))), (7, .int (nI i)), (8, .int (nI (by4 f (p + 2))))], [], M1)) rfl rfl rfl ?_
              refine ps_st (S' := (281, [(7, .int ((nI i) + 1)), (5, .int (nI (p + 6 + by4 f (p + 2)))), (0, .ref m0), (2, .int 3), (3, .int (nI x)), (4, .int (nI (by2 f p1))), (6, .int (nI (so s3 3))), (8, .int (nI (by4 f (p + 2))))], [], M1)) rfl rfl rfl ?_
              rw [nI_add1 (p := i) (k := 1) (x := 1) rfl (by omega)]
              show pl _ _ _ (_, [(7, .int (nI (i + 1))), (5, .int (nI (p + 6 + by4 f (p + 2)))), (0, .ref m0), (2, .int 3), (3, .int (nI x)), (4, .int (nI (by2 f p1))), (6, .int (nI (so s3 3))), (8, .int (nI (by4 f (p + 2))))], [], M1) _
              refine ps_st (S' := (18, [(0, .ref m0), (2, .int 3), (3, .int (nI x)), (4, .int (nI (by2 f p1))), (5, .int (nI (p + 6 + by4 f (p + 2)))), (6, .int (nI (so s3 3))), (7, .int (nI (i + 1)))], [], M1)) rfl rfl rfl ?_
              have hsb9 := sb_lt s3 3
              exact ih.1 (i + 1) (p + 6 + by4 f (p + 2)) (so s2 4) (so s3 3) M1 I1 R1 hR1 hEI1 hER1 hl51 hl52 hl53 hF1 hY1 hP1 hK1 (by omega) (⟨so_lt hl.1 (by decide), so_lt hl.2 (by decide)⟩) (by rw [sb_so, sb_so]; rfl) (hq7) (by
                  rw [← hs9, caS_st (i := i) (p := p) (s := s2) (by omega), hsm, show nwS f E s2 4 p = .inr (so s2 4) by unfold nwS; rw [if_neg (by omega), if_neg (by decide), if_neg (by omega)]])
            · have c_198 : ¬ (¬ (nI (sb s3 3)) = 1) := of_decide_eq_false c_198
              have n_198 : sb s3 3 = 1 := (eq_nI (p := sb s3 3) (n := 1) (Nat.lt_trans (sb_lt _ _) (by decide)) (by decide)).mp (Decidable.not_not.mp c_198)
              refine ps_st (S' := (202, [(0, .ref m0), (2, .int 3), (3, .int (nI x)), (4, .int (nI (by2 f p1))), (5, .int (nI p)), (6, .int (nI s3)), (7, .int (nI i)), (8, .int (nI (by4 f (p + 2)))), (10, .int (nI 3))], [.ref m0], M1)) rfl rfl rfl ?_
              refine ps_st (S' := (204, [(0, .ref m0), (2, .int 3), (3, .int (nI x)), (4, .int (nI (by2 f p1))), (5, .int (nI p)), (6, .int (nI s3)), (7, .int (nI i)), (8, .int (nI (by4 f (p + 2)))), (10, .int (nI 3))], [.int 29, .ref m0], M1)) rfl rfl rfl ?_
              refine ps_st (S' := (206, [(0, .ref m0), (2, .int 3), (3, .int (nI x)), (4, .int (nI (by2 f p1))), (5, .int (nI p)), (6, .int (nI s3)), (7, .int (nI i)), (8, .int (nI (by4 f (p + 2)))), (10, .int (nI 3))], [.int (nI p), .int 29, .ref m0], M1)) rfl rfl rfl ?_
              refine pl_call (a := [.ref m0, .int 29, .int (nI p)]) (rest := []) rfl rfl rfl (rd_wrong (x1 := 29) (x2 := (nI p)) hR1) (fun v39 M40 q41 => ?_)
              obtain ⟨I42, R43, rfl, hR44, hI45, hX46, hi47, hi48⟩ := q41
              have hi49 := (hI45 51 (by decide)).trans hl51
              have hi50 := (hI45 52 (by decide)).trans hl52
              have hi54 := (hI45 53 (by decide)).trans hl53
              have hF_55 := hF1.mono (cIx hI45 (by decide)) (cRx hX46 (by decide))
              have hY_56 := hY1.mono (cIx hI45 (by decide)) (cRx hX46 (by decide))
              have hP_57 := hP1.mono (cIx hI45 (by decide)) (cRx hX46 (by decide))
              have hK_58 := hK1.mono (cIx hI45 (by decide)) (cRx hX46 (by decide))
              have hEI59 := hEI1.tr hI45 (by decide)
              have hER60 := hER1.tr hX46 (by decide)
              show pl _ _ _ (209, [(0, .ref m0), (2, .int 3), (3, .int (nI x)), (4, .int (nI (by2 f p1))), (5, .int (nI p)), (6, .int (nI s3)), (7, .int (nI i)), (8, .int (nI (by4 f (p + 2)))), (10, .int (nI 3))], [.int 0], M40) _
              refine ps_st (S' := (210, [(0, .ref m0), (2, .int 3), (3, .int (nI x)), (4, .int (nI (by2 f p1))), (5, .int (nI p)), (6, .int (nI s3)), (7, .int (nI i)), (8, .int (nI (by4 f (p + 2)))), (10, .int (nI 3))], [], M40)) rfl rfl rfl ?_
              refine ps_st (S' := (211, [(0, .ref m0), (2, .int 3), (3, .int (nI x)), (4, .int (nI (by2 f p1))), (5, .int (nI p)), (6, .int (nI s3)), (7, .int (nI i)), (8, .int (nI (by4 f (p + 2)))), (10, .int (nI 3))], [.int (-1)], M40)) rfl rfl rfl ?_
              exact ps_ret rfl rfl (Or.inl ⟨(29, p), I42, R43, by
                  rw [← hs9, caS_st (i := i) (p := p) (s := s2) (by omega)]
                  rw [hsm, show nwS f E s2 4 p = .inl (29, p) by unfold nwS; rw [if_neg (by omega), if_neg (by decide), if_pos (by omega)]], rfl, hR44, hEI59, hER60, hi47, hi48⟩)
        · have c_86 : ¬ ((nI 10) ≤ (nI k)) := of_decide_eq_false c_86
          have n_86 : ¬ (10 ≤ k) := fun h9 => c_86 ((le_nI (p := 10) (n := k) (by decide) (by omega)).mpr h9)
          refine ps_st (S' := (90, [(0, .ref m0), (2, .int 3), (3, .int (nI x)), (4, .int (nI (by2 f p1))), (5, .int (nI p)), (6, .int (nI s3)), (7, .int (nI i)), (8, .int (nI (by4 f (p + 2)))), (9, .int (nI t)), (10, .int (gI (kb mj 3 (tX f n E (by2 f p)) k))), (11, .int (nI k))], [.ref m0], M1)) rfl rfl rfl ?_
          refine pr_ref (j := 63) (S' := (93, [(0, .ref m0), (2, .int 3), (3, .int (nI x)), (4, .int (nI (by2 f p1))), (5, .int (nI p)), (6, .int (nI s3)), (7, .int (nI i)), (8, .int (nI (by4 f (p + 2)))), (9, .int (nI t)), (10, .int (gI (kb mj 3 (tX f n E (by2 f p)) k))), (11, .int (nI k))], [.ref (q 63)], M1)) rfl hR1 rfl rfl ?_
          refine ps_st (S' := (95, [(0, .ref m0), (2, .int 3), (3, .int (nI x)), (4, .int (nI (by2 f p1))), (5, .int (nI p)), (6, .int (nI s3)), (7, .int (nI i)), (8, .int (nI (by4 f (p + 2)))), (9, .int (nI t)), (10, .int (gI (kb mj 3 (tX f n E (by2 f p)) k))), (11, .int (nI k))], [.int (nI k), .ref (q 63)], M1)) rfl rfl rfl ?_
          have hki_95 := kiN_lt k
          refine pr_ld (a := 63) (j := k) (y := (nI (kiN k))) (S' := (96, [(0, .ref m0), (2, .int 3), (3, .int (nI x)), (4, .int (nI (by2 f p1))), (5, .int (nI p)), (6, .int (nI s3)), (7, .int (nI i)), (8, .int (nI (by4 f (p + 2)))), (9, .int (nI t)), (10, .int (gI (kb mj 3 (tX f n E (by2 f p)) k))), (11, .int (nI k))], [.int (nI (kiN k))], M1)) rfl hR1 rfl (by omega) (fun _ => (hK1 k (by omega)).1) rfl (fun i1_95 => ?_)
          refine ps_st (S' := (97, [(0, .ref m0), (2, .int 3), (3, .int (nI x)), (4, .int (nI (by2 f p1))), (5, .int (nI p)), (6, .int (nI s3)), (7, .int (nI i)), (8, .int (nI (by4 f (p + 2)))), (9, .int (nI t)), (10, .int (gI (kb mj 3 (tX f n E (by2 f p)) k))), (11, .int (nI k))], [.int 3, .int (nI (kiN k))], M1)) rfl rfl rfl ?_
          refine ps_if2 (S1 := (134, [(0, .ref m0), (2, .int 3), (3, .int (nI x)), (4, .int (nI (by2 f p1))), (5, .int (nI p)), (6, .int (nI s3)), (7, .int (nI i)), (8, .int (nI (by4 f (p + 2)))), (9, .int (nI t)), (10, .int (gI (kb mj 3 (tX f n E (by2 f p)) k))), (11, .int (nI k))], [], M1)) (S2 := (100, [(0, .ref m0), (2, .int 3), (3, .int (nI x)), (4, .int (nI (by2 f p1))), (5, .int (nI p)), (6, .int (nI s3)), (7, .int (nI i)), (8, .int (nI (by4 f (p + 2)))), (9, .int (nI t)), (10, .int (gI (kb mj 3 (tX f n E (by2 f p)) k))), (11, .int (nI k))], [], M1)) rfl rfl rfl (fun c_97 => ?_) (fun c_97 => ?_)
          · have c_97 : ¬ (nI (kiN k)) = 3 := of_decide_eq_true c_97
            have n_97 : ¬ (kiN k = 3) := fun h9 => c_97 ((eq_nI (p := kiN k) (n := 3) (Nat.lt_trans (kiN_lt _) (by decide)) (by decide)).mpr h9)
            refine ps_st (S' := (137, [(11, .int ((nI k) + 1)), (0, .ref m0), (2, .int 3), (3, .int (nI x)), (4, .int (nI (by2 f p1))), (5, .int (nI p)), (6, .int (nI s3)), (7, .int (nI i)), (8, .int (nI (by4 f (p + 2)))), (9, .int (nI t)), (10, .int (gI (kb mj 3 (tX f n E (by2 f p)) k)))], [], M1)) rfl rfl rfl ?_
            rw [nI_add1 (p := k) (k := 1) (x := 1) rfl (by omega)]
            show pl _ _ _ (_, [(11, .int (nI (k + 1))), (0, .ref m0), (2, .int 3), (3, .int (nI x)), (4, .int (nI (by2 f p1))), (5, .int (nI p)), (6, .int (nI s3)), (7, .int (nI i)), (8, .int (nI (by4 f (p + 2)))), (9, .int (nI t)), (10, .int (gI (kb mj 3 (tX f n E (by2 f p)) k)))], [], M1) _
            refine ps_st (S' := (79, [(0, .ref m0), (2, .int 3), (3, .int (nI x)), (4, .int (nI (by2 f p1))), (5, .int (nI p)), (6, .int (nI s3)), (7, .int (nI i)), (8, .int (nI (by4 f (p + 2)))), (9, .int (nI t)), (10, .int (gI (kb mj 3 (tX f n E (by2 f p)) k))), (11, .int (nI (k + 1)))], [], M1)) rfl rfl rfl ?_
            have hkb : (gI (kb mj 3 (tX f n E (by2 f p)) k)) = gI (kb mj 3 (tX f n E (by2 f p)) (k + 1)) := by
              conv => rhs; unfold kb
              rw [if_neg (by omega)]
            rw [hkb]
            exact ih.2 (i) (p) (s2) (s3) (k + 1) (t) M1 I1 R1 hR1 hEI1 hER1 hl51 hl52 hl53 hF1 hY1 hP1 hK1 (hi0) (hl) (hb) (ha) (hs9) (by omega) (h1) (hsy)
          · have c_97 : ¬ (¬ (nI (kiN k)) = 3) := of_decide_eq_false c_97
            have n_97 : kiN k = 3 := (eq_nI (p := kiN k) (n := 3) (Nat.lt_trans (kiN_lt _) (by decide)) (by decide)).mp (Decidable.not_not.mp c_97)
            refine ps_st (S' := (101, [(0, .ref m0), (2, .int 3), (3, .int (nI x)), (4, .int (nI (by2 f p1))), (5, .int (nI p)), (6, .int (nI s3)), (7, .int (nI i)), (8, .int (nI (by4 f (p + 2)))), (9, .int (nI t)), (10, .int (gI (kb mj 3 (tX f n E (by2 f p)) k))), (11, .int (nI k))], [.ref m0], M1)) rfl rfl rfl ?_
            refine pr_int (j := 53) (S' := (104, [(0, .ref m0), (2, .int 3), (3, .int (nI x)), (4, .int (nI (by2 f p1))), (5, .int (nI p)), (6, .int (nI s3)), (7, .int (nI i)), (8, .int (nI (by4 f (p + 2)))), (9, .int (nI t)), (10, .int (gI (kb mj 3 (tX f n E (by2 f p)) k))), (11, .int (nI k))], [.int (nI mj)], M1)) rfl hR1 rfl hl53 rfl ?_
            refine ps_st (S' := (105, [(0, .ref m0), (2, .int 3), (3, .int (nI x)), (4, .int (nI (by2 f p1))), (5, .int (nI p)), (6, .int (nI s3)), (7, .int (nI i)), (8, .int (nI (by4 f (p + 2)))), (9, .int (nI t)), (10, .int (gI (kb mj 3 (tX f n E (by2 f p)) k))), (11, .int (nI k))], [.ref m0, .int (nI mj)], M1)) rfl rfl rfl ?_
            refine pr_ref (j := 64) (S' := (108, [(0, .ref m0), (2, .int 3), (3, .int (nI x)), (4, .int (nI (by2 f p1))), (5, .int (nI p)), (6, .int (nI s3)), (7, .int (nI i)), (8, .int (nI (by4 f (p + 2)))), (9, .int (nI t)), (10, .int (gI (kb mj 3 (tX f n E (by2 f p)) k))), (11, .int (nI k))], [.ref (q 64), .int (nI mj)], M1)) rfl hR1 rfl rfl ?_
            refine ps_st (S' := (110, [(0, .ref m0), (2, .int 3), (3, .int (nI x)), (4, .int (nI (by2 f p1))), (5, .int (nI p)), (6, .int (nI s3)), (7, .int (nI i)), (8, .int (nI (by4 f (p + 2)))), (9, .int (nI t)), (10, .int (gI (kb mj 3 (tX f n E (by2 f p)) k))), (11, .int (nI k))], [.int (nI k), .ref (q 64), .int (nI mj)], M1)) rfl rfl rfl ?_
            have hkf_110 := kfN_lt k
            refine pr_ld (a := 64) (j := k) (y := (nI (kfN k))) (S' := (111, [(0, .ref m0), (2, .int 3), (3, .int (nI x)), (4, .int (nI (by2 f p1))), (5, .int (nI p)), (6, .int (nI s3)), (7, .int (nI i)), (8, .int (nI (by4 f (p + 2)))), (9, .int (nI t)), (10, .int (gI (kb mj 3 (tX f n E (by2 f p)) k))), (11, .int (nI k))], [.int (nI (kfN k)), .int (nI mj)], M1)) rfl hR1 rfl (by omega) (fun _ => (hK1 k (by omega)).2) rfl (fun i1_110 => ?_)
            refine ps_if2 (S1 := (134, [(0, .ref m0), (2, .int 3), (3, .int (nI x)), (4, .int (nI (by2 f p1))), (5, .int (nI p)), (6, .int (nI s3)), (7, .int (nI i)), (8, .int (nI (by4 f (p + 2)))), (9, .int (nI t)), (10, .int (gI (kb mj 3 (tX f n E (by2 f p)) k))), (11, .int (nI k))], [], M1)) (S2 := (114, [(0, .ref m0), (2, .int 3), (3, .int (nI x)), (4, .int (nI (by2 f p1))), (5, .int (nI p)), (6, .int (nI s3)), (7, .int (nI i)), (8, .int (nI (by4 f (p + 2)))), (9, .int (nI t)), (10, .int (gI (kb mj 3 (tX f n E (by2 f p)) k))), (11, .int (nI k))], [], M1)) rfl rfl rfl (fun c_111 => ?_) (fun c_111 => ?_)
            · have c_111 : (nI mj) < (nI (kfN k)) := of_decide_eq_true c_111
              have n_111 : mj < kfN k := (lt_nI (p := mj) (n := kfN k) (by omega) (Nat.lt_trans (kfN_lt _) (by decide))).mp c_111
              refine ps_st (S' := (137, [(11, .int ((nI k) + 1)), (0, .ref m0), (2, .int 3), (3, .int (nI x)), (4, .int (nI (by2 f p1))), (5, .int (nI p)), (6, .int (nI s3)), (7, .int (nI i)), (8, .int (nI (by4 f (p + 2)))), (9, .int (nI t)), (10, .int (gI (kb mj 3 (tX f n E (by2 f p)) k)))], [], M1)) rfl rfl rfl ?_
              rw [nI_add1 (p := k) (k := 1) (x := 1) rfl (by omega)]
              show pl _ _ _ (_, [(11, .int (nI (k + 1))), (0, .ref m0), (2, .int 3), (3, .int (nI x)), (4, .int (nI (by2 f p1))), (5, .int (nI p)), (6, .int (nI s3)), (7, .int (nI i)), (8, .int (nI (by4 f (p + 2)))), (9, .int (nI t)), (10, .int (gI (kb mj 3 (tX f n E (by2 f p)) k)))], [], M1) _
              refine ps_st (S' := (79, [(0, .ref m0), (2, .int 3), (3, .int (nI x)), (4, .int (nI (by2 f p1))), (5, .int (nI p)), (6, .int (nI s3)), (7, .int (nI i)), (8, .int (nI (by4 f (p + 2)))), (9, .int (nI t)), (10, .int (gI (kb mj 3 (tX f n E (by2 f p)) k))), (11, .int (nI (k + 1)))], [], M1)) rfl rfl rfl ?_
              have hkb : (gI (kb mj 3 (tX f n E (by2 f p)) k)) = gI (kb mj 3 (tX f n E (by2 f p)) (k + 1)) := by
                conv => rhs; unfold kb
                rw [if_neg (by omega)]
              rw [hkb]
              exact ih.2 (i) (p) (s2) (s3) (k + 1) (t) M1 I1 R1 hR1 hEI1 hER1 hl51 hl52 hl53 hF1 hY1 hP1 hK1 (hi0) (hl) (hb) (ha) (hs9) (by omega) (h1) (hsy)
            · have c_111 : ¬ ((nI mj) < (nI (kfN k))) := of_decide_eq_false c_111
              have n_111 : ¬ (mj < kfN k) := fun h9 => c_111 ((lt_nI (p := mj) (n := kfN k) (by omega) (Nat.lt_trans (kfN_lt _) (by decide))).mpr h9)
              refine ps_st (S' := (115, [(0, .ref m0), (2, .int 3), (3, .int (nI x)), (4, .int (nI (by2 f p1))), (5, .int (nI p)), (6, .int (nI s3)), (7, .int (nI i)), (8, .int (nI (by4 f (p + 2)))), (9, .int (nI t)), (10, .int (gI (kb mj 3 (tX f n E (by2 f p)) k))), (11, .int (nI k))], [.ref m0], M1)) rfl rfl rfl ?_
              refine ps_st (S' := (117, [(0, .ref m0), (2, .int 3), (3, .int (nI x)), (4, .int (nI (by2 f p1))), (5, .int (nI p)), (6, .int (nI s3)), (7, .int (nI i)), (8, .int (nI (by4 f (p + 2)))), (9, .int (nI t)), (10, .int (gI (kb mj 3 (tX f n E (by2 f p)) k))), (11, .int (nI k))], [.int (nI t), .ref m0], M1)) rfl rfl rfl ?_
              refine ps_st (S' := (118, [(0, .ref m0), (2, .int 3), (3, .int (nI x)), (4, .int (nI (by2 f p1))), (5, .int (nI p)), (6, .int (nI s3)), (7, .int (nI i)), (8, .int (nI (by4 f (p + 2)))), (9, .int (nI t)), (10, .int (gI (kb mj 3 (tX f n E (by2 f p)) k))), (11, .int (nI k))], [.ref m0, .int (nI t), .ref m0], M1)) rfl rfl rfl ?_
              refine pr_ref (j := 62) (S' := (121, [(0, .ref m0), (2, .int 3), (3, .int (nI x)), (4, .int (nI (by2 f p1))), (5, .int (nI p)), (6, .int (nI s3)), (7, .int (nI i)), (8, .int (nI (by4 f (p + 2)))), (9, .int (nI t)), (10, .int (gI (kb mj 3 (tX f n E (by2 f p)) k))), (11, .int (nI k))], [.ref (q 62), .int (nI t), .ref m0], M1)) rfl hR1 rfl rfl ?_
              refine ps_st (S' := (123, [(0, .ref m0), (2, .int 3), (3, .int (nI x)), (4, .int (nI (by2 f p1))), (5, .int (nI p)), (6, .int (nI s3)), (7, .int (nI i)), (8, .int (nI (by4 f (p + 2)))), (9, .int (nI t)), (10, .int (gI (kb mj 3 (tX f n E (by2 f p)) k))), (11, .int (nI k))], [.int (nI k), .ref (q 62), .int (nI t), .ref m0], M1)) rfl rfl rfl ?_
              refine pr_kn (j := k) (S' := (124, [(0, .ref m0), (2, .int 3), (3, .int (nI x)), (4, .int (nI (by2 f p1))), (5, .int (nI p)), (6, .int (nI s3)), (7, .int (nI i)), (8, .int (nI (by4 f (p + 2)))), (9, .int (nI t)), (10, .int (gI (kb mj 3 (tX f n E (by2 f p)) k))), (11, .int (nI k))], [.ref (g.2.1 (15 + k)), .int (nI t), .ref m0], M1)) rfl hR1 (by omega) rfl ?_
              refine pl_call (a := [.ref m0, .int (nI t), .ref (g.2.1 (15 + k))]) (rest := []) rfl rfl rfl (rd_is (tx := tx) (cN := cN) (A := A) (s := t) (l := (tX f n E (by2 f p))) (lk := (15 + k)) hR1 hY1 (hsy) (⟨by omega, by omega⟩)) (fun v61 M62 q63 => ?_)
              obtain ⟨rfl, rfl⟩ := q63
              show pl _ _ _ (127, [(0, .ref m0), (2, .int 3), (3, .int (nI x)), (4, .int (nI (by2 f p1))), (5, .int (nI p)), (6, .int (nI s3)), (7, .int (nI i)), (8, .int (nI (by4 f (p + 2)))), (9, .int (nI t)), (10, .int (gI (kb mj 3 (tX f n E (by2 f p)) k))), (11, .int (nI k))], [.int (nI (eqN (tX f n E (by2 f p)) (ltx (15 + k))))], M1) _
              refine ps_if (S1 := (134, [(0, .ref m0), (2, .int 3), (3, .int (nI x)), (4, .int (nI (by2 f p1))), (5, .int (nI p)), (6, .int (nI s3)), (7, .int (nI i)), (8, .int (nI (by4 f (p + 2)))), (9, .int (nI t)), (10, .int (gI (kb mj 3 (tX f n E (by2 f p)) k))), (11, .int (nI k))], [], M1)) (S2 := (130, [(0, .ref m0), (2, .int 3), (3, .int (nI x)), (4, .int (nI (by2 f p1))), (5, .int (nI p)), (6, .int (nI s3)), (7, .int (nI i)), (8, .int (nI (by4 f (p + 2)))), (9, .int (nI t)), (10, .int (gI (kb mj 3 (tX f n E (by2 f p)) k))), (11, .int (nI k))], [], M1)) rfl rfl rfl (fun c_127 => ?_) (fun c_127 => ?_)
              · have c_127 : (nI (eqN (tX f n E (by2 f p)) (ltx (15 + k)))) = 0 := of_decide_eq_true c_127
                have n_127 : eqN (tX f n E (by2 f p)) (ltx (15 + k)) = 0 := (eq_nI (p := eqN (tX f n E (by2 f p)) (ltx (15 + k))) (n := 0) (Nat.lt_trans (le1_eq _ _) (by decide)) (by decide)).mp c_127
                refine ps_st (S' := (137, [(11, .int ((nI k) + 1)), (0, .ref m0), (2, .int 3), (3, .int (nI x)), (4, .int (nI (by2 f p1))), (5, .int (nI p)), (6, .int (nI s3)), (7, .int (nI i)), (8, .int (nI (by4 f (p + 2)))), (9, .int (nI t)), (10, .int (gI (kb mj 3 (tX f n E (by2 f p)) k)))], [], M1)) rfl rfl rfl ?_
                rw [nI_add1 (p := k) (k := 1) (x := 1) rfl (by omega)]
                show pl _ _ _ (_, [(11, .int (nI (k + 1))), (0, .ref m0), (2, .int 3), (3, .int (nI x)), (4, .int (nI (by2 f p1))), (5, .int (nI p)), (6, .int (nI s3)), (7, .int (nI i)), (8, .int (nI (by4 f (p + 2)))), (9, .int (nI t)), (10, .int (gI (kb mj 3 (tX f n E (by2 f p)) k)))], [], M1) _
                refine ps_st (S' := (79, [(0, .ref m0), (2, .int 3), (3, .int (nI x)), (4, .int (nI (by2 f p1))), (5, .int (nI p)), (6, .int (nI s3)), (7, .int (nI i)), (8, .int (nI (by4 f (p + 2)))), (9, .int (nI t)), (10, .int (gI (kb mj 3 (tX f n E (by2 f p)) k))), (11, .int (nI (k + 1)))], [], M1)) rfl rfl rfl ?_
                have hkb : (gI (kb mj 3 (tX f n E (by2 f p)) k)) = gI (kb mj 3 (tX f n E (by2 f p)) (k + 1)) := by
                  conv => rhs; unfold kb
                  rw [if_neg (by omega)]
                rw [hkb]
                exact ih.2 (i) (p) (s2) (s3) (k + 1) (t) M1 I1 R1 hR1 hEI1 hER1 hl51 hl52 hl53 hF1 hY1 hP1 hK1 (hi0) (hl) (hb) (ha) (hs9) (by omega) (h1) (hsy)
              · have c_127 : ¬ ((nI (eqN (tX f n E (by2 f p)) (ltx (15 + k)))) = 0) := of_decide_eq_false c_127
                have n_127 : ¬ (eqN (tX f n E (by2 f p)) (ltx (15 + k)) = 0) := fun h9 => c_127 ((eq_nI (p := eqN (tX f n E (by2 f p)) (ltx (15 + k))) (n := 0) (Nat.lt_trans (le1_eq _ _) (by decide)) (by decide)).mpr h9)
                refine ps_st (S' := (132, [(0, .ref m0), (2, .int 3), (3, .int (nI x)), (4, .int (nI (by2 f p1))), (5, .int (nI p)), (6, .int (nI s3)), (7, .int (nI i)), (8, .int (nI (by4 f (p + 2)))), (9, .int (nI t)), (10, .int (gI (kb mj 3 (tX f n E (by2 f p)) k))), (11, .int (nI k))], [.int (nI k)], M1)) rfl rfl rfl ?_
                refine ps_st (S' := (134, [(0, .ref m0), (2, .int 3), (3, .int (nI x)), (4, .int (nI (by2 f p1))), (5, .int (nI p)), (6, .int (nI s3)), (7, .int (nI i)), (8, .int (nI (by4 f (p + 2)))), (9, .int (nI t)), (10, .int (nI k)), (11, .int (nI k))], [], M1)) rfl rfl rfl ?_
                refine ps_st (S' := (137, [(11, .int ((nI k) + 1)), (0, .ref m0), (2, .int 3), (3, .int (nI x)), (4, .int (nI (by2 f p1))), (5, .int (nI p)), (6, .int (nI s3)), (7, .int (nI i)), (8, .int (nI (by4 f (p + 2)))), (9, .int (nI t)), (10, .int (nI k))], [], M1)) rfl rfl rfl ?_
                rw [nI_add1 (p := k) (k := 1) (x := 1) rfl (by omega)]
                show pl _ _ _ (_, [(11, .int (nI (k + 1))), (0, .ref m0), (2, .int 3), (3, .int (nI x)), (4, .int (nI (by2 f p1))), (5, .int (nI p)), (6, .int (nI s3)), (7, .int (nI i)), (8, .int (nI (by4 f (p + 2)))), (9, .int (nI t)), (10, .int (nI k))], [], M1) _
                refine ps_st (S' := (79, [(0, .ref m0), (2, .int 3), (3, .int (nI x)), (4, .int (nI (by2 f p1))), (5, .int (nI p)), (6, .int (nI s3)), (7, .int (nI i)), (8, .int (nI (by4 f (p + 2)))), (9, .int (nI t)), (10, .int (nI k)), (11, .int (nI (k + 1)))], [], M1)) rfl rfl rfl ?_
                have hkb : (nI k) = gI (kb mj 3 (tX f n E (by2 f p)) (k + 1)) := by
                  conv => rhs; unfold kb
                  rw [if_pos ⟨by omega, by omega, by omega⟩]
                  rfl
                rw [hkb]
                exact ih.2 (i) (p) (s2) (s3) (k + 1) (t) M1 I1 R1 hR1 hEI1 hER1 hl51 hl52 hl53 hF1 hY1 hP1 hK1 (hi0) (hl) (hb) (ha) (hs9) (by omega) (h1) (hsy)
  refine ps_st (S' := (1, [(0, .ref m0), (1, .int (nI p1)), (2, .int 3), (3, .int (nI x))], [.ref m0], M)) rfl rfl rfl ?_
  refine ps_st (S' := (2, [(0, .ref m0), (1, .int (nI p1)), (2, .int 3), (3, .int (nI x))], [.int (nI p1), .ref m0], M)) rfl rfl rfl ?_
  refine pl_call (a := [.ref m0, .int (nI p1)]) (rest := []) rfl rfl rfl (rd_u2 (n := n) (f := f) (p := p1) hR hF (by omega)) (fun v64 M65 q66 => ?_)
  obtain ⟨rfl, rfl⟩ := q66
  show pl _ _ _ (5, [(0, .ref m0), (1, .int (nI p1)), (2, .int 3), (3, .int (nI x))], [.int (nI (by2 f p1))], M) _
  have hu_2 := by2_lt f p1
  refine ps_st (S' := (7, [(4, .int (nI (by2 f p1))), (0, .ref m0), (1, .int (nI p1)), (2, .int 3), (3, .int (nI x))], [], M)) rfl rfl rfl ?_
  refine ps_st (S' := (8, [(4, .int (nI (by2 f p1))), (0, .ref m0), (1, .int (nI p1)), (2, .int 3), (3, .int (nI x))], [.int (nI p1)], M)) rfl rfl rfl ?_
  refine ps_st (S' := (9, [(4, .int (nI (by2 f p1))), (0, .ref m0), (1, .int (nI p1)), (2, .int 3), (3, .int (nI x))], [.int 2, .int (nI p1)], M)) rfl rfl rfl ?_
  refine ps_st (S' := (10, [(4, .int (nI (by2 f p1))), (0, .ref m0), (1, .int (nI p1)), (2, .int 3), (3, .int (nI x))], [.int ((nI p1) + 2)], M)) rfl rfl rfl ?_
  rw [nI_add1 (p := p1) (k := 2) (x := 2) rfl (by omega)]
  show pl _ _ _ (_, [(4, .int (nI (by2 f p1))), (0, .ref m0), (1, .int (nI p1)), (2, .int 3), (3, .int (nI x))], [.int (nI (p1 + 2))], M) _
  refine ps_st (S' := (12, [(5, .int (nI (p1 + 2))), (4, .int (nI (by2 f p1))), (0, .ref m0), (1, .int (nI p1)), (2, .int 3), (3, .int (nI x))], [], M)) rfl rfl rfl ?_
  refine ps_st (S' := (13, [(5, .int (nI (p1 + 2))), (4, .int (nI (by2 f p1))), (0, .ref m0), (1, .int (nI p1)), (2, .int 3), (3, .int (nI x))], [.int 0], M)) rfl rfl rfl ?_
  refine ps_st (S' := (15, [(6, .int 0), (5, .int (nI (p1 + 2))), (4, .int (nI (by2 f p1))), (0, .ref m0), (1, .int (nI p1)), (2, .int 3), (3, .int (nI x))], [], M)) rfl rfl rfl ?_
  refine ps_st (S' := (16, [(6, .int 0), (5, .int (nI (p1 + 2))), (4, .int (nI (by2 f p1))), (0, .ref m0), (1, .int (nI p1)), (2, .int 3), (3, .int (nI x))], [.int 0], M)) rfl rfl rfl ?_
  refine ps_st (S' := (18, [(0, .ref m0), (2, .int 3), (3, .int (nI x)), (4, .int (nI (by2 f p1))), (5, .int (nI (p1 + 2))), (6, .int 0), (7, .int 0)], [], M)) rfl rfl rfl ?_
  exact (LL kf).1 (0) (p1 + 2) (0) (0) M I R hR hEI hER hi51 hi52 hi53 hF hY hP hK (by omega) (by decide) (rfl) (hat) (rfl)
end
section
/-! the Code attribute as the reference checks it (laid by wip/p4/e12.py) -/

theorem cdE_of {f : Nat → Int32} {e p : Nat} : s_cdE f e (p + 6) = if e < p + 14 then none else if e < p + 14 + by4 f (p + 10) then none else if e < p + 14 + by4 f (p + 10) + 2 + 8 * by2 f (p + 14 + by4 f (p + 10)) + 2 then none else
    s_atE f e (by2 f (p + 14 + by4 f (p + 10) + 2 + 8 * by2 f (p + 14 + by4 f (p + 10)))) (p + 14 + by4 f (p + 10) + 2 + 8 * by2 f (p + 14 + by4 f (p + 10)) + 2) := rfl
set_option maxHeartbeats 8000000 in
theorem rd_code {g : xe_G} {m0 : Nat} {q : Nat → Nat} {z : Nat × Nat} {I : rI} {R : rR} {M : mi_H} {n : Nat} {f : Nat → Int32} {tx : List (List Nat)} {cN : Nat} {A : Nat → Nat} {N mj : Nat} {E : List (Nat × Nat)} {p e x w fl ds : Nat} {l : List Nat} {t : Int32} (hR : RS g m0 q z I R M) (hi51 : I 51 = some 0) (hi52 : I 52 = some (nI N)) (hi53 : I 53 = some (nI mj)) (hF : FK n f I R) (hY : SYT tx cN A I R) (hP : RPV f n E tx N I R) (hK : KX I R) (hEP : EP f n E) (hN : N < 65536) (hmj : mj < 65536) (he : p + 6 ≤ e ∧ e ≤ n) (hx : x < 8300) (hfl : R 34 x = some (nI fl)) (hds : R 36 x = some (nI ds)) (hdt : ds < tx.length ∧ tx.getD ds [] = l) (hmt : ¬ mthN l = 0) (hf6 : fl < 65536) (hw : w = argN l + (if aN fl 8 = 0 then 1 else 0)) : pt (mT g) 196 [.ref m0, .int t, .int (nI (p + 6)), .int (nI e), .int (nI x)] M (fun v M' => (∃  (I' : rI) (R' : rR), (¬ s_cdE f e (p + 6) = some e) ∧ v = some (.int 30) ∧ RS g m0 q z I' R' M' ∧ eqI [47, 48] I I' ∧ eqR [37, 38, 39, 40, 41, 42] R R') ∨ (∃ (r : Nat) (I' : rI) (R' : rR), (s_cdE f e (p + 6) = some e) ∧ (cdS f n E mj w p 0 = .inl (r, p)) ∧ (41 ≤ r ∧ r ≤ 43) ∧ v = some (.int (nI r)) ∧ RS g m0 q z I' R' M' ∧ eqI [47, 48] I I' ∧ eqR [37, 38, 39, 40, 41, 42] R R') ∨ (∃ (e9 : Nat × Nat) (I' : rI) (R' : rR), (s_cdE f e (p + 6) = some e) ∧ (cdS f n E mj w p 0 = .inl e9) ∧ v = some (.int (-1)) ∧ RS g m0 q z I' R' M' ∧ eqI [47, 48] I I' ∧ eqR [37, 38, 39, 40, 41, 42] R R' ∧ I' 47 = some (nI e9.1) ∧ I' 48 = some (nI e9.2)) ∨ (∃ (s' : Nat) (I' : rI) (R' : rR), (s_cdE f e (p + 6) = some e) ∧ (cdS f n E mj w p 0 = .inr s') ∧ (R' 37 x = some (nI (p + 14))) ∧ v = some (.int 0) ∧ RS g m0 q z I' R' M' ∧ eqI [47, 48] I I' ∧ eqR [37, 38, 39, 40, 41, 42] R R')) := by
  refine pt_in (b := mb_196 g) rfl (fun kf => ?_)
  show pl (mT g) kf (mb_196 g).2 (0, [(0, .ref m0), (1, .int t), (2, .int (nI (p + 6))), (3, .int (nI e)), (4, .int (nI x))], [], M) _
  have hEI : eqI [47, 48] I I := eqI.rf
  have hER : eqR [37, 38, 39, 40, 41, 42] R R := eqR.rf
  have hn := hF.1
  have hwl : w < 2000 := by rw [hw]; have := argN_lt l; split <;> omega
  have LL : ∀ (kf : Nat), (∀ (i y : Nat) (M1 : mi_H) (I1 : rI) (R1 : rR), (RS g m0 q z I1 R1 M1) → (eqI [47, 48] I I1) → (eqR [37, 38, 39, 40, 41, 42] R R1) → (I1 51 = some 0) → (I1 52 = some (nI N)) → (I1 53 = some (nI mj)) → (FK n f I1 R1) → (SYT tx cN A I1 R1) → (RPV f n E tx N I1 R1) → (KX I1 R1) → ((R1 34 x = some (nI fl)) ∧ (R1 36 x = some (nI ds))) → (p + 14 + by4 f (p + 10) + 2 + 8 * by2 f (p + 14 + by4 f (p + 10)) + 2 ≤ e) → (i ≤ by2 f (p + 14 + by4 f (p + 10) + 2 + 8 * by2 f (p + 14 + by4 f (p + 10)))) → (y ≤ e) → (s_atE f e (by2 f (p + 14 + by4 f (p + 10) + 2 + 8 * by2 f (p + 14 + by4 f (p + 10))) - i) y = s_atE f e (by2 f (p + 14 + by4 f (p + 10) + 2 + 8 * by2 f (p + 14 + by4 f (p + 10)))) (p + 14 + by4 f (p + 10) + 2 + 8 * by2 f (p + 14 + by4 f (p + 10)) + 2)) →  pl (mT g) kf (mb_196 g).2 (110, [(0, .ref m0), (2, .int (nI (p + 6))), (3, .int (nI e)), (4, .int (nI x)), (5, .long (nL (by4 f (p + 10)))), (7, .int (nI y)), (8, .int (nI (by2 f (p + 14 + by4 f (p + 10))))), (9, .int (nI (p + 14 + by4 f (p + 10) + 2))), (10, .int (nI (p + 14 + by4 f (p + 10) + 2 + 8 * by2 f (p + 14 + by4 f (p + 10))))), (11, .int (nI (by2 f (p + 14 + by4 f (p + 10) + 2 + 8 * by2 f (p + 14 + by4 f (p + 10)))))), (12, .int (nI i))], [], M1) (fun v M' => (∃  (I' : rI) (R' : rR), (¬ s_cdE f e (p + 6) = some e) ∧ v = some (.int 30) ∧ RS g m0 q z I' R' M' ∧ eqI [47, 48] I I' ∧ eqR [37, 38, 39, 40, 41, 42] R R') ∨ (∃ (r : Nat) (I' : rI) (R' : rR), (s_cdE f e (p + 6) = some e) ∧ (cdS f n E mj w p 0 = .inl (r, p)) ∧ (41 ≤ r ∧ r ≤ 43) ∧ v = some (.int (nI r)) ∧ RS g m0 q z I' R' M' ∧ eqI [47, 48] I I' ∧ eqR [37, 38, 39, 40, 41, 42] R R') ∨ (∃ (e9 : Nat × Nat) (I' : rI) (R' : rR), (s_cdE f e (p + 6) = some e) ∧ (cdS f n E mj w p 0 = .inl e9) ∧ v = some (.int (-1)) ∧ RS g m0 q z I' R' M' ∧ eqI [47, 48] I I' ∧ eqR [37, 38, 39, 40, 41, 42] R R' ∧ I' 47 = some (nI e9.1) ∧ I' 48 = some (nI e9.2)) ∨ (∃ (s' : Nat) (I' : rI) (R' : rR), (s_cdE f e (p + 6) = some e) ∧ (cdS f n E mj w p 0 = .inr s') ∧ (R' 37 x = some (nI (p + 14))) ∧ v = some (.int 0) ∧ RS g m0 q z I' R' M' ∧ eqI [47, 48] I I' ∧ eqR [37, 38, 39, 40, 41, 42] R R'))) ∧ (∀ (i : Nat) (M1 : mi_H) (I1 : rI) (R1 : rR), (RS g m0 q z I1 R1 M1) → (eqI [47, 48] I I1) → (eqR [37, 38, 39, 40, 41, 42] R R1) → (I1 51 = some 0) → (I1 52 = some (nI N)) → (I1 53 = some (nI mj)) → (FK n f I1 R1) → (SYT tx cN A I1 R1) → (RPV f n E tx N I1 R1) → (KX I1 R1) → ((R1 34 x = some (nI fl)) ∧ (R1 36 x = some (nI ds))) → (p + 14 + by4 f (p + 10) + 2 + 8 * by2 f (p + 14 + by4 f (p + 10)) + 2 ≤ e) → (s_cdE f e (p + 6) = some e) → (¬ (by4 f (p + 10) < 1 ∨ 65535 < by4 f (p + 10))) → (¬ by2 f (p + 8) < w) → (i ≤ by2 f (p + 14 + by4 f (p + 10))) → (rwA f E (by4 f (p + 10)) (p + 14 + by4 f (p + 10) + 2) (by2 f (p + 14 + by4 f (p + 10)) - i) i = rwA f E (by4 f (p + 10)) (p + 14 + by4 f (p + 10) + 2) (by2 f (p + 14 + by4 f (p + 10))) 0) →  pl (mT g) kf (mb_196 g).2 (250, [(0, .ref m0), (2, .int (nI (p + 6))), (4, .int (nI x)), (5, .long (nL (by4 f (p + 10)))), (8, .int (nI (by2 f (p + 14 + by4 f (p + 10))))), (9, .int (nI (p + 14 + by4 f (p + 10) + 2))), (10, .int (nI (p + 14 + by4 f (p + 10) + 2 + 8 * by2 f (p + 14 + by4 f (p + 10))))), (13, .int (nI i))], [], M1) (fun v M' => (∃  (I' : rI) (R' : rR), (¬ s_cdE f e (p + 6) = some e) ∧ v = some (.int 30) ∧ RS g m0 q z I' R' M' ∧ eqI [47, 48] I I' ∧ eqR [37, 38, 39, 40, 41, 42] R R') ∨ (∃ (r : Nat) (I' : rI) (R' : rR), (s_cdE f e (p + 6) = some e) ∧ (cdS f n E mj w p 0 = .inl (r, p)) ∧ (41 ≤ r ∧ r ≤ 43) ∧ v = some (.int (nI r)) ∧ RS g m0 q z I' R' M' ∧ eqI [47, 48] I I' ∧ eqR [37, 38, 39, 40, 41, 42] R R') ∨ (∃ (e9 : Nat × Nat) (I' : rI) (R' : rR), (s_cdE f e (p + 6) = some e) ∧ (cdS f n E mj w p 0 = .inl e9) ∧ v = some (.int (-1)) ∧ RS g m0 q z I' R' M' ∧ eqI [47, 48] I I' ∧ eqR [37, 38, 39, 40, 41, 42] R R' ∧ I' 47 = some (nI e9.1) ∧ I' 48 = some (nI e9.2)) ∨ (∃ (s' : Nat) (I' : rI) (R' : rR), (s_cdE f e (p + 6) = some e) ∧ (cdS f n E mj w p 0 = .inr s') ∧ (R' 37 x = some (nI (p + 14))) ∧ v = some (.int 0) ∧ RS g m0 q z I' R' M' ∧ eqI [47, 48] I I' ∧ eqR [37, 38, 39, 40, 41, 42] R R'))) := by
    intro kf
    induction kf with
    | zero => exact ⟨by intros; exact pl_0, by intros; exact pl_0⟩
    | succ kf ih =>
      refine ⟨?_, ?_⟩
      · skip
        intro i y M1 I1 R1 hR1 hEI1 hER1 hl51 hl52 hl53 hF1 hY1 hP1 hK1 hr hb hi hy hg
        have hn := hF1.1
        have hu9 := by2_lt f (p + 14 + by4 f (p + 10))
        have hu8 := by2_lt f (p + 14 + by4 f (p + 10) + 2 + 8 * by2 f (p + 14 + by4 f (p + 10)))
        have htl := hY1.1.2.2.1
        refine ps_st1 (S' := (112, [(0, .ref m0), (2, .int (nI (p + 6))), (3, .int (nI e)), (4, .int (nI x)), (5, .long (nL (by4 f (p + 10)))), (7, .int (nI y)), (8, .int (nI (by2 f (p + 14 + by4 f (p + 10))))), (9, .int (nI (p + 14 + by4 f (p + 10) + 2))), (10, .int (nI (p + 14 + by4 f (p + 10) + 2 + 8 * by2 f (p + 14 + by4 f (p + 10))))), (11, .int (nI (by2 f (p + 14 + by4 f (p + 10) + 2 + 8 * by2 f (p + 14 + by4 f (p + 10)))))), (12, .int (nI i))], [.int (nI i)], M1)) rfl rfl rfl ?_
        refine ps_st (S' := (114, [(0, .ref m0), (2, .int (nI (p + 6))), (3, .int (nI e)), (4, .int (nI x)), (5, .long (nL (by4 f (p + 10)))), (7, .int (nI y)), (8, .int (nI (by2 f (p + 14 + by4 f (p + 10))))), (9, .int (nI (p + 14 + by4 f (p + 10) + 2))), (10, .int (nI (p + 14 + by4 f (p + 10) + 2 + 8 * by2 f (p + 14 + by4 f (p + 10))))), (11, .int (nI (by2 f (p + 14 + by4 f (p + 10) + 2 + 8 * by2 f (p + 14 + by4 f (p + 10)))))), (12, .int (nI i))], [.int (nI (by2 f (p + 14 + by4 f (p + 10) + 2 + 8 * by2 f (p + 14 + by4 f (p + 10))))), .int (nI i)], M1)) rfl rfl rfl ?_
        refine ps_if2 (S1 := (172, [(0, .ref m0), (2, .int (nI (p + 6))), (3, .int (nI e)), (4, .int (nI x)), (5, .long (nL (by4 f (p + 10)))), (7, .int (nI y)), (8, .int (nI (by2 f (p + 14 + by4 f (p + 10))))), (9, .int (nI (p + 14 + by4 f (p + 10) + 2))), (10, .int (nI (p + 14 + by4 f (p + 10) + 2 + 8 * by2 f (p + 14 + by4 f (p + 10))))), (11, .int (nI (by2 f (p + 14 + by4 f (p + 10) + 2 + 8 * by2 f (p + 14 + by4 f (p + 10)))))), (12, .int (nI i))], [], M1)) (S2 := (117, [(0, .ref m0), (2, .int (nI (p + 6))), (3, .int (nI e)), (4, .int (nI x)), (5, .long (nL (by4 f (p + 10)))), (7, .int (nI y)), (8, .int (nI (by2 f (p + 14 + by4 f (p + 10))))), (9, .int (nI (p + 14 + by4 f (p + 10) + 2))), (10, .int (nI (p + 14 + by4 f (p + 10) + 2 + 8 * by2 f (p + 14 + by4 f (p + 10))))), (11, .int (nI (by2 f (p + 14 + by4 f (p + 10) + 2 + 8 * by2 f (p + 14 + by4 f (p + 10)))))), (12, .int (nI i))], [], M1)) rfl rfl rfl (fun c_114 => ?_) (fun c_114 => ?_)
        · have c_114 : (nI (by2 f (p + 14 + by4 f (p + 10) + 2 + 8 * by2 f (p + 14 + by4 f (p + 10))))) ≤ (nI i) := of_decide_eq_true c_114
          have n_114 : by2 f (p + 14 + by4 f (p + 10) + 2 + 8 * by2 f (p + 14 + by4 f (p + 10))) ≤ i := (le_nI (p := by2 f (p + 14 + by4 f (p + 10) + 2 + 8 * by2 f (p + 14 + by4 f (p + 10)))) (n := i) (Nat.lt_trans (by2_lt _ _) (by decide)) (by omega)).mp c_114
          refine ps_st (S' := (174, [(0, .ref m0), (2, .int (nI (p + 6))), (3, .int (nI e)), (4, .int (nI x)), (5, .long (nL (by4 f (p + 10)))), (7, .int (nI y)), (8, .int (nI (by2 f (p + 14 + by4 f (p + 10))))), (9, .int (nI (p + 14 + by4 f (p + 10) + 2))), (10, .int (nI (p + 14 + by4 f (p + 10) + 2 + 8 * by2 f (p + 14 + by4 f (p + 10))))), (11, .int (nI (by2 f (p + 14 + by4 f (p + 10) + 2 + 8 * by2 f (p + 14 + by4 f (p + 10)))))), (12, .int (nI i))], [.int (nI y)], M1)) rfl rfl rfl ?_
          refine ps_st (S' := (175, [(0, .ref m0), (2, .int (nI (p + 6))), (3, .int (nI e)), (4, .int (nI x)), (5, .long (nL (by4 f (p + 10)))), (7, .int (nI y)), (8, .int (nI (by2 f (p + 14 + by4 f (p + 10))))), (9, .int (nI (p + 14 + by4 f (p + 10) + 2))), (10, .int (nI (p + 14 + by4 f (p + 10) + 2 + 8 * by2 f (p + 14 + by4 f (p + 10))))), (11, .int (nI (by2 f (p + 14 + by4 f (p + 10) + 2 + 8 * by2 f (p + 14 + by4 f (p + 10)))))), (12, .int (nI i))], [.int (nI e), .int (nI y)], M1)) rfl rfl rfl ?_
          refine ps_if2 (S1 := (181, [(0, .ref m0), (2, .int (nI (p + 6))), (3, .int (nI e)), (4, .int (nI x)), (5, .long (nL (by4 f (p + 10)))), (7, .int (nI y)), (8, .int (nI (by2 f (p + 14 + by4 f (p + 10))))), (9, .int (nI (p + 14 + by4 f (p + 10) + 2))), (10, .int (nI (p + 14 + by4 f (p + 10) + 2 + 8 * by2 f (p + 14 + by4 f (p + 10))))), (11, .int (nI (by2 f (p + 14 + by4 f (p + 10) + 2 + 8 * by2 f (p + 14 + by4 f (p + 10)))))), (12, .int (nI i))], [], M1)) (S2 := (178, [(0, .ref m0), (2, .int (nI (p + 6))), (3, .int (nI e)), (4, .int (nI x)), (5, .long (nL (by4 f (p + 10)))), (7, .int (nI y)), (8, .int (nI (by2 f (p + 14 + by4 f (p + 10))))), (9, .int (nI (p + 14 + by4 f (p + 10) + 2))), (10, .int (nI (p + 14 + by4 f (p + 10) + 2 + 8 * by2 f (p + 14 + by4 f (p + 10))))), (11, .int (nI (by2 f (p + 14 + by4 f (p + 10) + 2 + 8 * by2 f (p + 14 + by4 f (p + 10)))))), (12, .int (nI i))], [], M1)) rfl rfl rfl (fun c_175 => ?_) (fun c_175 => ?_)
          · have c_175 : (nI y) = (nI e) := of_decide_eq_true c_175
            have n_175 : y = e := (eq_nI (p := y) (n := e) (by omega) (by omega)).mp c_175
            have hce : s_cdE f e (p + 6) = some e := by
              rw [cdE_of, if_neg (by omega), if_neg (by omega), if_neg (by omega), ← hg, show by2 f (p + 14 + by4 f (p + 10) + 2 + 8 * by2 f (p + 14 + by4 f (p + 10))) - i = 0 by omega, show y = e by omega]
              rfl
            refine ps_st (S' := (183, [(0, .ref m0), (2, .int (nI (p + 6))), (3, .int (nI e)), (4, .int (nI x)), (5, .long (nL (by4 f (p + 10)))), (7, .int (nI y)), (8, .int (nI (by2 f (p + 14 + by4 f (p + 10))))), (9, .int (nI (p + 14 + by4 f (p + 10) + 2))), (10, .int (nI (p + 14 + by4 f (p + 10) + 2 + 8 * by2 f (p + 14 + by4 f (p + 10))))), (11, .int (nI (by2 f (p + 14 + by4 f (p + 10) + 2 + 8 * by2 f (p + 14 + by4 f (p + 10)))))), (12, .int (nI i))], [.long (nL (by4 f (p + 10)))], M1)) rfl rfl rfl ?_
            refine ps_st (S' := (184, [(0, .ref m0), (2, .int (nI (p + 6))), (3, .int (nI e)), (4, .int (nI x)), (5, .long (nL (by4 f (p + 10)))), (7, .int (nI y)), (8, .int (nI (by2 f (p + 14 + by4 f (p + 10))))), (9, .int (nI (p + 14 + by4 f (p + 10) + 2))), (10, .int (nI (p + 14 + by4 f (p + 10) + 2 + 8 * by2 f (p + 14 + by4 f (p + 10))))), (11, .int (nI (by2 f (p + 14 + by4 f (p + 10) + 2 + 8 * by2 f (p + 14 + by4 f (p + 10)))))), (12, .int (nI i))], [.long 0, .long (nL (by4 f (p + 10)))], M1)) rfl rfl rfl ?_
            refine ps_st (S' := (185, [(0, .ref m0), (2, .int (nI (p + 6))), (3, .int (nI e)), (4, .int (nI x)), (5, .long (nL (by4 f (p + 10)))), (7, .int (nI y)), (8, .int (nI (by2 f (p + 14 + by4 f (p + 10))))), (9, .int (nI (p + 14 + by4 f (p + 10) + 2))), (10, .int (nI (p + 14 + by4 f (p + 10) + 2 + 8 * by2 f (p + 14 + by4 f (p + 10))))), (11, .int (nI (by2 f (p + 14 + by4 f (p + 10) + 2 + 8 * by2 f (p + 14 + by4 f (p + 10)))))), (12, .int (nI i))], [.int (lg_cmp (nL (by4 f (p + 10))) 0)], M1)) rfl rfl rfl ?_
            refine ps_if (S1 := (197, [], [], M1)) (S2 := (188, [(0, .ref m0), (2, .int (nI (p + 6))), (3, .int (nI e)), (4, .int (nI x)), (5, .long (nL (by4 f (p + 10)))), (7, .int (nI y)), (8, .int (nI (by2 f (p + 14 + by4 f (p + 10))))), (9, .int (nI (p + 14 + by4 f (p + 10) + 2))), (10, .int (nI (p + 14 + by4 f (p + 10) + 2 + 8 * by2 f (p + 14 + by4 f (p + 10))))), (11, .int (nI (by2 f (p + 14 + by4 f (p + 10) + 2 + 8 * by2 f (p + 14 + by4 f (p + 10)))))), (12, .int (nI i))], [], M1)) rfl rfl rfl (fun c_185 => ?_) (fun c_185 => ?_)
            · have n_185 : by4 f (p + 10) = 0 := (cL_eq (p := by4 f (p + 10)) (k := 0) (x := (nL (by4 f (p + 10)))) (y := 0) rfl rfl (by omega) (by omega)).mp (of_decide_eq_true c_185)
              refine ps_st (S' := (199, [], [.int 41], M1)) rfl rfl rfl ?_
              exact ps_ret rfl rfl (Or.inr (Or.inl ⟨41, I1, R1, hce, by
                  unfold cdS
                  rw [if_pos (by omega)], by decide, rfl, hR1, hEI1, hER1⟩))
            · have n_185 : ¬ (by4 f (p + 10) = 0) := fun h9 => of_decide_eq_false c_185 ((cL_eq (p := by4 f (p + 10)) (k := 0) (x := (nL (by4 f (p + 10)))) (y := 0) rfl rfl (by omega) (by omega)).mpr h9)
              refine ps_st (S' := (190, [(0, .ref m0), (2, .int (nI (p + 6))), (3, .int (nI e)), (4, .int (nI x)), (5, .long (nL (by4 f (p + 10)))), (7, .int (nI y)), (8, .int (nI (by2 f (p + 14 + by4 f (p + 10))))), (9, .int (nI (p + 14 + by4 f (p + 10) + 2))), (10, .int (nI (p + 14 + by4 f (p + 10) + 2 + 8 * by2 f (p + 14 + by4 f (p + 10))))), (11, .int (nI (by2 f (p + 14 + by4 f (p + 10) + 2 + 8 * by2 f (p + 14 + by4 f (p + 10)))))), (12, .int (nI i))], [.long (nL (by4 f (p + 10)))], M1)) rfl rfl rfl ?_
              refine ps_st (S' := (193, [(0, .ref m0), (2, .int (nI (p + 6))), (3, .int (nI e)), (4, .int (nI x)), (5, .long (nL (by4 f (p + 10)))), (7, .int (nI y)), (8, .int (nI (by2 f (p + 14 + by4 f (p + 10))))), (9, .int (nI (p + 14 + by4 f (p + 10) + 2))), (10, .int (nI (p + 14 + by4 f (p + 10) + 2 + 8 * by2 f (p + 14 + by4 f (p + 10))))), (11, .int (nI (by2 f (p + 14 + by4 f (p + 10) + 2 + 8 * by2 f (p + 14 + by4 f (p + 10)))))), (12, .int (nI i))], [.long 65535, .long (nL (by4 f (p + 10)))], M1)) rfl rfl rfl ?_
              refine ps_st (S' := (194, [(0, .ref m0), (2, .int (nI (p + 6))), (3, .int (nI e)), (4, .int (nI x)), (5, .long (nL (by4 f (p + 10)))), (7, .int (nI y)), (8, .int (nI (by2 f (p + 14 + by4 f (p + 10))))), (9, .int (nI (p + 14 + by4 f (p + 10) + 2))), (10, .int (nI (p + 14 + by4 f (p + 10) + 2 + 8 * by2 f (p + 14 + by4 f (p + 10))))), (11, .int (nI (by2 f (p + 14 + by4 f (p + 10) + 2 + 8 * by2 f (p + 14 + by4 f (p + 10)))))), (12, .int (nI i))], [.int (lg_cmp (nL (by4 f (p + 10))) 65535)], M1)) rfl rfl rfl ?_
              refine ps_if (S1 := (200, [(0, .ref m0), (2, .int (nI (p + 6))), (3, .int (nI e)), (4, .int (nI x)), (5, .long (nL (by4 f (p + 10)))), (7, .int (nI y)), (8, .int (nI (by2 f (p + 14 + by4 f (p + 10))))), (9, .int (nI (p + 14 + by4 f (p + 10) + 2))), (10, .int (nI (p + 14 + by4 f (p + 10) + 2 + 8 * by2 f (p + 14 + by4 f (p + 10))))), (11, .int (nI (by2 f (p + 14 + by4 f (p + 10) + 2 + 8 * by2 f (p + 14 + by4 f (p + 10)))))), (12, .int (nI i))], [], M1)) (S2 := (197, [], [], M1)) rfl rfl rfl (fun c_194 => ?_) (fun c_194 => ?_)
              · have n_194 : by4 f (p + 10) ≤ 65535 := (cL_le (p := by4 f (p + 10)) (k := 65535) (x := (nL (by4 f (p + 10)))) (y := 65535) rfl rfl (by omega) (by omega)).mp (of_decide_eq_true c_194)
                refine ps_st (S' := (201, [(0, .ref m0), (2, .int (nI (p + 6))), (3, .int (nI e)), (4, .int (nI x)), (5, .long (nL (by4 f (p + 10)))), (7, .int (nI y)), (8, .int (nI (by2 f (p + 14 + by4 f (p + 10))))), (9, .int (nI (p + 14 + by4 f (p + 10) + 2))), (10, .int (nI (p + 14 + by4 f (p + 10) + 2 + 8 * by2 f (p + 14 + by4 f (p + 10))))), (11, .int (nI (by2 f (p + 14 + by4 f (p + 10) + 2 + 8 * by2 f (p + 14 + by4 f (p + 10)))))), (12, .int (nI i))], [.ref m0], M1)) rfl rfl rfl ?_
                refine ps_st (S' := (202, [(0, .ref m0), (2, .int (nI (p + 6))), (3, .int (nI e)), (4, .int (nI x)), (5, .long (nL (by4 f (p + 10)))), (7, .int (nI y)), (8, .int (nI (by2 f (p + 14 + by4 f (p + 10))))), (9, .int (nI (p + 14 + by4 f (p + 10) + 2))), (10, .int (nI (p + 14 + by4 f (p + 10) + 2 + 8 * by2 f (p + 14 + by4 f (p + 10))))), (11, .int (nI (by2 f (p + 14 + by4 f (p + 10) + 2 + 8 * by2 f (p + 14 + by4 f (p + 10)))))), (12, .int (nI i))], [.ref m0, .ref m0], M1)) rfl rfl rfl ?_
                refine pr_ref (j := 36) (S' := (205, [(0, .ref m0), (2, .int (nI (p + 6))), (3, .int (nI e)), (4, .int (nI x)), (5, .long (nL (by4 f (p + 10)))), (7, .int (nI y)), (8, .int (nI (by2 f (p + 14 + by4 f (p + 10))))), (9, .int (nI (p + 14 + by4 f (p + 10) + 2))), (10, .int (nI (p + 14 + by4 f (p + 10) + 2 + 8 * by2 f (p + 14 + by4 f (p + 10))))), (11, .int (nI (by2 f (p + 14 + by4 f (p + 10) + 2 + 8 * by2 f (p + 14 + by4 f (p + 10)))))), (12, .int (nI i))], [.ref (q 36), .ref m0], M1)) rfl hR1 rfl rfl ?_
                refine ps_st (S' := (207, [(0, .ref m0), (2, .int (nI (p + 6))), (3, .int (nI e)), (4, .int (nI x)), (5, .long (nL (by4 f (p + 10)))), (7, .int (nI y)), (8, .int (nI (by2 f (p + 14 + by4 f (p + 10))))), (9, .int (nI (p + 14 + by4 f (p + 10) + 2))), (10, .int (nI (p + 14 + by4 f (p + 10) + 2 + 8 * by2 f (p + 14 + by4 f (p + 10))))), (11, .int (nI (by2 f (p + 14 + by4 f (p + 10) + 2 + 8 * by2 f (p + 14 + by4 f (p + 10)))))), (12, .int (nI i))], [.int (nI x), .ref (q 36), .ref m0], M1)) rfl rfl rfl ?_
                refine pr_ld (a := 36) (j := x) (y := (nI ds)) (S' := (208, [(0, .ref m0), (2, .int (nI (p + 6))), (3, .int (nI e)), (4, .int (nI x)), (5, .long (nL (by4 f (p + 10)))), (7, .int (nI y)), (8, .int (nI (by2 f (p + 14 + by4 f (p + 10))))), (9, .int (nI (p + 14 + by4 f (p + 10) + 2))), (10, .int (nI (p + 14 + by4 f (p + 10) + 2 + 8 * by2 f (p + 14 + by4 f (p + 10))))), (11, .int (nI (by2 f (p + 14 + by4 f (p + 10) + 2 + 8 * by2 f (p + 14 + by4 f (p + 10)))))), (12, .int (nI i))], [.int (nI ds), .ref m0], M1)) rfl hR1 rfl (by omega) (fun _ => hr.2) rfl (fun i1_207 => ?_)
                obtain ⟨-, -, k_208, W_208, hq1_208, hq2_208, hq3_208, hq4_208, hq5_208, hq6_208, -⟩ := mth_in (l := l) (by omega)
                refine pl_call (a := [.ref m0, .int (nI ds)]) (rest := []) rfl rfl rfl (rd_places0 (tx := tx) (cN := cN) (A := A) (s := ds) (l := l) (k0 := k_208) (W := W_208) hR1 hY1 (hdt) (hq1_208) (⟨by omega, hq5_208⟩)) (fun v1 M2 q3 => ?_)
                obtain ⟨rfl, rfl⟩ := q3
                show pl _ _ _ (211, [(0, .ref m0), (2, .int (nI (p + 6))), (3, .int (nI e)), (4, .int (nI x)), (5, .long (nL (by4 f (p + 10)))), (7, .int (nI y)), (8, .int (nI (by2 f (p + 14 + by4 f (p + 10))))), (9, .int (nI (p + 14 + by4 f (p + 10) + 2))), (10, .int (nI (p + 14 + by4 f (p + 10) + 2 + 8 * by2 f (p + 14 + by4 f (p + 10))))), (11, .int (nI (by2 f (p + 14 + by4 f (p + 10) + 2 + 8 * by2 f (p + 14 + by4 f (p + 10)))))), (12, .int (nI i))], [.int (nI (W_208))], M1) _
                rw [← hq6_208]
                show pl _ _ _ (_, [(0, .ref m0), (2, .int (nI (p + 6))), (3, .int (nI e)), (4, .int (nI x)), (5, .long (nL (by4 f (p + 10)))), (7, .int (nI y)), (8, .int (nI (by2 f (p + 14 + by4 f (p + 10))))), (9, .int (nI (p + 14 + by4 f (p + 10) + 2))), (10, .int (nI (p + 14 + by4 f (p + 10) + 2 + 8 * by2 f (p + 14 + by4 f (p + 10))))), (11, .int (nI (by2 f (p + 14 + by4 f (p + 10) + 2 + 8 * by2 f (p + 14 + by4 f (p + 10)))))), (12, .int (nI i))], [.int (nI (argN l))], M1) _
                have hal_208 := argN_lt l
                refine ps_st (S' := (212, [(0, .ref m0), (2, .int (nI (p + 6))), (3, .int (nI e)), (4, .int (nI x)), (5, .long (nL (by4 f (p + 10)))), (7, .int (nI y)), (8, .int (nI (by2 f (p + 14 + by4 f (p + 10))))), (9, .int (nI (p + 14 + by4 f (p + 10) + 2))), (10, .int (nI (p + 14 + by4 f (p + 10) + 2 + 8 * by2 f (p + 14 + by4 f (p + 10))))), (11, .int (nI (by2 f (p + 14 + by4 f (p + 10) + 2 + 8 * by2 f (p + 14 + by4 f (p + 10)))))), (12, .int (nI i))], [.ref m0, .int (nI (argN l))], M1)) rfl rfl rfl ?_
                refine pr_ref (j := 34) (S' := (215, [(0, .ref m0), (2, .int (nI (p + 6))), (3, .int (nI e)), (4, .int (nI x)), (5, .long (nL (by4 f (p + 10)))), (7, .int (nI y)), (8, .int (nI (by2 f (p + 14 + by4 f (p + 10))))), (9, .int (nI (p + 14 + by4 f (p + 10) + 2))), (10, .int (nI (p + 14 + by4 f (p + 10) + 2 + 8 * by2 f (p + 14 + by4 f (p + 10))))), (11, .int (nI (by2 f (p + 14 + by4 f (p + 10) + 2 + 8 * by2 f (p + 14 + by4 f (p + 10)))))), (12, .int (nI i))], [.ref (q 34), .int (nI (argN l))], M1)) rfl hR1 rfl rfl ?_
                refine ps_st (S' := (217, [(0, .ref m0), (2, .int (nI (p + 6))), (3, .int (nI e)), (4, .int (nI x)), (5, .long (nL (by4 f (p + 10)))), (7, .int (nI y)), (8, .int (nI (by2 f (p + 14 + by4 f (p + 10))))), (9, .int (nI (p + 14 + by4 f (p + 10) + 2))), (10, .int (nI (p + 14 + by4 f (p + 10) + 2 + 8 * by2 f (p + 14 + by4 f (p + 10))))), (11, .int (nI (by2 f (p + 14 + by4 f (p + 10) + 2 + 8 * by2 f (p + 14 + by4 f (p + 10)))))), (12, .int (nI i))], [.int (nI x), .ref (q 34), .int (nI (argN l))], M1)) rfl rfl rfl ?_
                refine pr_ld (a := 34) (j := x) (y := (nI fl)) (S' := (218, [(0, .ref m0), (2, .int (nI (p + 6))), (3, .int (nI e)), (4, .int (nI x)), (5, .long (nL (by4 f (p + 10)))), (7, .int (nI y)), (8, .int (nI (by2 f (p + 14 + by4 f (p + 10))))), (9, .int (nI (p + 14 + by4 f (p + 10) + 2))), (10, .int (nI (p + 14 + by4 f (p + 10) + 2 + 8 * by2 f (p + 14 + by4 f (p + 10))))), (11, .int (nI (by2 f (p + 14 + by4 f (p + 10) + 2 + 8 * by2 f (p + 14 + by4 f (p + 10)))))), (12, .int (nI i))], [.int (nI fl), .int (nI (argN l))], M1)) rfl hR1 rfl (by omega) (fun _ => hr.1) rfl (fun i1_217 => ?_)
                refine ps_st (S' := (220, [(0, .ref m0), (2, .int (nI (p + 6))), (3, .int (nI e)), (4, .int (nI x)), (5, .long (nL (by4 f (p + 10)))), (7, .int (nI y)), (8, .int (nI (by2 f (p + 14 + by4 f (p + 10))))), (9, .int (nI (p + 14 + by4 f (p + 10) + 2))), (10, .int (nI (p + 14 + by4 f (p + 10) + 2 + 8 * by2 f (p + 14 + by4 f (p + 10))))), (11, .int (nI (by2 f (p + 14 + by4 f (p + 10) + 2 + 8 * by2 f (p + 14 + by4 f (p + 10)))))), (12, .int (nI i))], [.int 8, .int (nI fl), .int (nI (argN l))], M1)) rfl rfl rfl ?_
                refine ps_st (S' := (221, [(0, .ref m0), (2, .int (nI (p + 6))), (3, .int (nI e)), (4, .int (nI x)), (5, .long (nL (by4 f (p + 10)))), (7, .int (nI y)), (8, .int (nI (by2 f (p + 14 + by4 f (p + 10))))), (9, .int (nI (p + 14 + by4 f (p + 10) + 2))), (10, .int (nI (p + 14 + by4 f (p + 10) + 2 + 8 * by2 f (p + 14 + by4 f (p + 10))))), (11, .int (nI (by2 f (p + 14 + by4 f (p + 10) + 2 + 8 * by2 f (p + 14 + by4 f (p + 10)))))), (12, .int (nI i))], [.int ((nI fl) &&& 8), .int (nI (argN l))], M1)) rfl rfl rfl ?_
                rw [nI_an (p := fl) (k := 8) (x := 8) rfl]
                show pl _ _ _ (_, [(0, .ref m0), (2, .int (nI (p + 6))), (3, .int (nI e)), (4, .int (nI x)), (5, .long (nL (by4 f (p + 10)))), (7, .int (nI y)), (8, .int (nI (by2 f (p + 14 + by4 f (p + 10))))), (9, .int (nI (p + 14 + by4 f (p + 10) + 2))), (10, .int (nI (p + 14 + by4 f (p + 10) + 2 + 8 * by2 f (p + 14 + by4 f (p + 10))))), (11, .int (nI (by2 f (p + 14 + by4 f (p + 10) + 2 + 8 * by2 f (p + 14 + by4 f (p + 10)))))), (12, .int (nI i))], [.int (nI (aN fl 8)), .int (nI (argN l))], M1) _
                refine ps_if (S1 := (228, [(0, .ref m0), (2, .int (nI (p + 6))), (3, .int (nI e)), (4, .int (nI x)), (5, .long (nL (by4 f (p + 10)))), (7, .int (nI y)), (8, .int (nI (by2 f (p + 14 + by4 f (p + 10))))), (9, .int (nI (p + 14 + by4 f (p + 10) + 2))), (10, .int (nI (p + 14 + by4 f (p + 10) + 2 + 8 * by2 f (p + 14 + by4 f (p + 10))))), (11, .int (nI (by2 f (p + 14 + by4 f (p + 10) + 2 + 8 * by2 f (p + 14 + by4 f (p + 10)))))), (12, .int (nI i))], [.int (nI (argN l))], M1)) (S2 := (224, [(0, .ref m0), (2, .int (nI (p + 6))), (3, .int (nI e)), (4, .int (nI x)), (5, .long (nL (by4 f (p + 10)))), (7, .int (nI y)), (8, .int (nI (by2 f (p + 14 + by4 f (p + 10))))), (9, .int (nI (p + 14 + by4 f (p + 10) + 2))), (10, .int (nI (p + 14 + by4 f (p + 10) + 2 + 8 * by2 f (p + 14 + by4 f (p + 10))))), (11, .int (nI (by2 f (p + 14 + by4 f (p + 10) + 2 + 8 * by2 f (p + 14 + by4 f (p + 10)))))), (12, .int (nI i))], [.int (nI (argN l))], M1)) rfl rfl rfl (fun c_221 => ?_) (fun c_221 => ?_)
                · have c_221 : ¬ (nI (aN fl 8)) = 0 := of_decide_eq_true c_221
                  have n_221 : ¬ (aN fl 8 = 0) := fun h9 => c_221 ((eq_nI (p := aN fl 8) (n := 0) (Nat.lt_of_le_of_lt (an_le _ _) (by decide)) (by decide)).mpr h9)
                  refine ps_st (S' := (229, [(0, .ref m0), (2, .int (nI (p + 6))), (4, .int (nI x)), (5, .long (nL (by4 f (p + 10)))), (8, .int (nI (by2 f (p + 14 + by4 f (p + 10))))), (9, .int (nI (p + 14 + by4 f (p + 10) + 2))), (10, .int (nI (p + 14 + by4 f (p + 10) + 2 + 8 * by2 f (p + 14 + by4 f (p + 10)))))], [.int 0, .int (nI (argN l))], M1)) rfl rfl rfl ?_
                  refine ps_st (S' := (230, [(0, .ref m0), (2, .int (nI (p + 6))), (4, .int (nI x)), (5, .long (nL (by4 f (p + 10)))), (8, .int (nI (by2 f (p + 14 + by4 f (p + 10))))), (9, .int (nI (p + 14 + by4 f (p + 10) + 2))), (10, .int (nI (p + 14 + by4 f (p + 10) + 2 + 8 * by2 f (p + 14 + by4 f (p + 10)))))], [.int ((nI (argN l)) + 0)], M1)) rfl rfl rfl ?_
                  rw [nI_add1 (p := argN l) (k := 0) (x := 0) rfl (by omega)]
                  show pl _ _ _ (_, [(0, .ref m0), (2, .int (nI (p + 6))), (4, .int (nI x)), (5, .long (nL (by4 f (p + 10)))), (8, .int (nI (by2 f (p + 14 + by4 f (p + 10))))), (9, .int (nI (p + 14 + by4 f (p + 10) + 2))), (10, .int (nI (p + 14 + by4 f (p + 10) + 2 + 8 * by2 f (p + 14 + by4 f (p + 10)))))], [.int (nI (argN l + 0))], M1) _
                  refine pl_top (x := (nI (argN l + 0))) (y := (nI w)) (congrArg nI (by rw [hw]; first | rw [if_pos (by omega)] | rw [if_neg (by omega)])) ?_
                  have hwl : w < 2000 := by rw [hw]; have := argN_lt l; split <;> omega
                  refine ps_st (S' := (232, [(12, .int (nI w)), (0, .ref m0), (2, .int (nI (p + 6))), (4, .int (nI x)), (5, .long (nL (by4 f (p + 10)))), (8, .int (nI (by2 f (p + 14 + by4 f (p + 10))))), (9, .int (nI (p + 14 + by4 f (p + 10) + 2))), (10, .int (nI (p + 14 + by4 f (p + 10) + 2 + 8 * by2 f (p + 14 + by4 f (p + 10)))))], [], M1)) rfl rfl rfl ?_
                  refine ps_st (S' := (233, [(12, .int (nI w)), (0, .ref m0), (2, .int (nI (p + 6))), (4, .int (nI x)), (5, .long (nL (by4 f (p + 10)))), (8, .int (nI (by2 f (p + 14 + by4 f (p + 10))))), (9, .int (nI (p + 14 + by4 f (p + 10) + 2))), (10, .int (nI (p + 14 + by4 f (p + 10) + 2 + 8 * by2 f (p + 14 + by4 f (p + 10)))))], [.ref m0], M1)) rfl rfl rfl ?_
                  refine ps_st (S' := (234, [(12, .int (nI w)), (0, .ref m0), (2, .int (nI (p + 6))), (4, .int (nI x)), (5, .long (nL (by4 f (p + 10)))), (8, .int (nI (by2 f (p + 14 + by4 f (p + 10))))), (9, .int (nI (p + 14 + by4 f (p + 10) + 2))), (10, .int (nI (p + 14 + by4 f (p + 10) + 2 + 8 * by2 f (p + 14 + by4 f (p + 10)))))], [.int (nI (p + 6)), .ref m0], M1)) rfl rfl rfl ?_
                  refine ps_st (S' := (235, [(12, .int (nI w)), (0, .ref m0), (2, .int (nI (p + 6))), (4, .int (nI x)), (5, .long (nL (by4 f (p + 10)))), (8, .int (nI (by2 f (p + 14 + by4 f (p + 10))))), (9, .int (nI (p + 14 + by4 f (p + 10) + 2))), (10, .int (nI (p + 14 + by4 f (p + 10) + 2 + 8 * by2 f (p + 14 + by4 f (p + 10)))))], [.int 2, .int (nI (p + 6)), .ref m0], M1)) rfl rfl rfl ?_
                  refine ps_st (S' := (236, [(12, .int (nI w)), (0, .ref m0), (2, .int (nI (p + 6))), (4, .int (nI x)), (5, .long (nL (by4 f (p + 10)))), (8, .int (nI (by2 f (p + 14 + by4 f (p + 10))))), (9, .int (nI (p + 14 + by4 f (p + 10) + 2))), (10, .int (nI (p + 14 + by4 f (p + 10) + 2 + 8 * by2 f (p + 14 + by4 f (p + 10)))))], [.int ((nI (p + 6)) + 2), .ref m0], M1)) rfl rfl rfl ?_
                  rw [nI_add1 (p := p + 6) (k := 2) (x := 2) rfl (by omega)]
                  show pl _ _ _ (_, [(12, .int (nI w)), (0, .ref m0), (2, .int (nI (p + 6))), (4, .int (nI x)), (5, .long (nL (by4 f (p + 10)))), (8, .int (nI (by2 f (p + 14 + by4 f (p + 10))))), (9, .int (nI (p + 14 + by4 f (p + 10) + 2))), (10, .int (nI (p + 14 + by4 f (p + 10) + 2 + 8 * by2 f (p + 14 + by4 f (p + 10)))))], [.int (nI (p + 8)), .ref m0], M1) _
                  refine pl_call (a := [.ref m0, .int (nI (p + 8))]) (rest := []) rfl rfl rfl (rd_u2 (n := n) (f := f) (p := (p + 8)) hR1 hF1 (by omega)) (fun v4 M5 q6 => ?_)
                  obtain ⟨rfl, rfl⟩ := q6
                  show pl _ _ _ (239, [(12, .int (nI w)), (0, .ref m0), (2, .int (nI (p + 6))), (4, .int (nI x)), (5, .long (nL (by4 f (p + 10)))), (8, .int (nI (by2 f (p + 14 + by4 f (p + 10))))), (9, .int (nI (p + 14 + by4 f (p + 10) + 2))), (10, .int (nI (p + 14 + by4 f (p + 10) + 2 + 8 * by2 f (p + 14 + by4 f (p + 10)))))], [.int (nI (by2 f (p + 8)))], M1) _
                  have hu_236 := by2_lt f (p + 8)
                  refine ps_st (S' := (241, [(12, .int (nI w)), (0, .ref m0), (2, .int (nI (p + 6))), (4, .int (nI x)), (5, .long (nL (by4 f (p + 10)))), (8, .int (nI (by2 f (p + 14 + by4 f (p + 10))))), (9, .int (nI (p + 14 + by4 f (p + 10) + 2))), (10, .int (nI (p + 14 + by4 f (p + 10) + 2 + 8 * by2 f (p + 14 + by4 f (p + 10)))))], [.int (nI w), .int (nI (by2 f (p + 8)))], M1)) rfl rfl rfl ?_
                  refine ps_if2 (S1 := (247, [(12, .int (nI w)), (0, .ref m0), (2, .int (nI (p + 6))), (4, .int (nI x)), (5, .long (nL (by4 f (p + 10)))), (8, .int (nI (by2 f (p + 14 + by4 f (p + 10))))), (9, .int (nI (p + 14 + by4 f (p + 10) + 2))), (10, .int (nI (p + 14 + by4 f (p + 10) + 2 + 8 * by2 f (p + 14 + by4 f (p + 10)))))], [], M1)) (S2 := (244, [(12, .int (nI w)), (0, .ref m0), (2, .int (nI (p + 6))), (4, .int (nI x)), (5, .long (nL (by4 f (p + 10)))), (8, .int (nI (by2 f (p + 14 + by4 f (p + 10))))), (9, .int (nI (p + 14 + by4 f (p + 10) + 2))), (10, .int (nI (p + 14 + by4 f (p + 10) + 2 + 8 * by2 f (p + 14 + by4 f (p + 10)))))], [], M1)) rfl rfl rfl (fun c_241 => ?_) (fun c_241 => ?_)
                  · have c_241 : (nI w) ≤ (nI (by2 f (p + 8))) := of_decide_eq_true c_241
                    have n_241 : w ≤ by2 f (p + 8) := (le_nI (p := w) (n := by2 f (p + 8)) (by omega) (Nat.lt_trans (by2_lt _ _) (by decide))).mp c_241
                    refine ps_st (S' := (248, [(12, .int (nI w)), (0, .ref m0), (2, .int (nI (p + 6))), (4, .int (nI x)), (5, .long (nL (by4 f (p + 10)))), (8, .int (nI (by2 f (p + 14 + by4 f (p + 10))))), (9, .int (nI (p + 14 + by4 f (p + 10) + 2))), (10, .int (nI (p + 14 + by4 f (p + 10) + 2 + 8 * by2 f (p + 14 + by4 f (p + 10)))))], [.int 0], M1)) rfl rfl rfl ?_
                    refine ps_st (S' := (250, [(0, .ref m0), (2, .int (nI (p + 6))), (4, .int (nI x)), (5, .long (nL (by4 f (p + 10)))), (8, .int (nI (by2 f (p + 14 + by4 f (p + 10))))), (9, .int (nI (p + 14 + by4 f (p + 10) + 2))), (10, .int (nI (p + 14 + by4 f (p + 10) + 2 + 8 * by2 f (p + 14 + by4 f (p + 10))))), (13, .int 0)], [], M1)) rfl rfl rfl ?_
                    exact ih.2 (0) M1 I1 R1 hR1 hEI1 hER1 hl51 hl52 hl53 hF1 hY1 hP1 hK1 (hr) (hb) (hce) (by omega) (by omega) (by omega) (rfl)
                  · have c_241 : ¬ ((nI w) ≤ (nI (by2 f (p + 8)))) := of_decide_eq_false c_241
                    have n_241 : ¬ (w ≤ by2 f (p + 8)) := fun h9 => c_241 ((le_nI (p := w) (n := by2 f (p + 8)) (by omega) (Nat.lt_trans (by2_lt _ _) (by decide))).mpr h9)
                    refine ps_st (S' := (246, [(12, .int (nI w)), (0, .ref m0), (2, .int (nI (p + 6))), (4, .int (nI x)), (5, .long (nL (by4 f (p + 10)))), (8, .int (nI (by2 f (p + 14 + by4 f (p + 10))))), (9, .int (nI (p + 14 + by4 f (p + 10) + 2))), (10, .int (nI (p + 14 + by4 f (p + 10) + 2 + 8 * by2 f (p + 14 + by4 f (p + 10)))))], [.int 42], M1)) rfl rfl rfl ?_
                    exact ps_ret rfl rfl (Or.inr (Or.inl ⟨42, I1, R1, hce, by
                        unfold cdS
                        rw [if_neg (by omega), if_pos (by omega)], by decide, rfl, hR1, hEI1, hER1⟩))
                · have c_221 : ¬ (¬ (nI (aN fl 8)) = 0) := of_decide_eq_false c_221
                  have n_221 : aN fl 8 = 0 := (eq_nI (p := aN fl 8) (n := 0) (Nat.lt_of_le_of_lt (an_le _ _) (by decide)) (by decide)).mp (Decidable.not_not.mp c_221)
                  refine ps_st (S' := (225, [(0, .ref m0), (2, .int (nI (p + 6))), (3, .int (nI e)), (4, .int (nI x)), (5, .long (nL (by4 f (p + 10)))), (7, .int (nI y)), (8, .int (nI (by2 f (p + 14 + by4 f (p + 10))))), (9, .int (nI (p + 14 + by4 f (p + 10) + 2))), (10, .int (nI (p + 14 + by4 f (p + 10) + 2 + 8 * by2 f (p + 14 + by4 f (p + 10))))), (11, .int (nI (by2 f (p + 14 + by4 f (p + 10) + 2 + 8 * by2 f (p + 14 + by4 f (p + 10)))))), (12, .int (nI i))], [.int 1, .int (nI (argN l))], M1)) rfl rfl rfl ?_
                  refine ps_st (S' := (229, [(0, .ref m0), (2, .int (nI (p + 6))), (4, .int (nI x)), (5, .long (nL (by4 f (p + 10)))), (8, .int (nI (by2 f (p + 14 + by4 f (p + 10))))), (9, .int (nI (p + 14 + by4 f (p + 10) + 2))), (10, .int (nI (p + 14 + by4 f (p + 10) + 2 + 8 * by2 f (p + 14 + by4 f (p + 10)))))], [.int 1, .int (nI (argN l))], M1)) rfl rfl rfl ?_
                  refine ps_st (S' := (230, [(0, .ref m0), (2, .int (nI (p + 6))), (4, .int (nI x)), (5, .long (nL (by4 f (p + 10)))), (8, .int (nI (by2 f (p + 14 + by4 f (p + 10))))), (9, .int (nI (p + 14 + by4 f (p + 10) + 2))), (10, .int (nI (p + 14 + by4 f (p + 10) + 2 + 8 * by2 f (p + 14 + by4 f (p + 10)))))], [.int ((nI (argN l)) + 1)], M1)) rfl rfl rfl ?_
                  rw [nI_add1 (p := argN l) (k := 1) (x := 1) rfl (by omega)]
                  show pl _ _ _ (_, [(0, .ref m0), (2, .int (nI (p + 6))), (4, .int (nI x)), (5, .long (nL (by4 f (p + 10)))), (8, .int (nI (by2 f (p + 14 + by4 f (p + 10))))), (9, .int (nI (p + 14 + by4 f (p + 10) + 2))), (10, .int (nI (p + 14 + by4 f (p + 10) + 2 + 8 * by2 f (p + 14 + by4 f (p + 10)))))], [.int (nI (argN l + 1))], M1) _
                  refine pl_top (x := (nI (argN l + 1))) (y := (nI w)) (congrArg nI (by rw [hw]; first | rw [if_pos (by omega)] | rw [if_neg (by omega)])) ?_
                  have hwl : w < 2000 := by rw [hw]; have := argN_lt l; split <;> omega
                  refine ps_st (S' := (232, [(12, .int (nI w)), (0, .ref m0), (2, .int (nI (p + 6))), (4, .int (nI x)), (5, .long (nL (by4 f (p + 10)))), (8, .int (nI (by2 f (p + 14 + by4 f (p + 10))))), (9, .int (nI (p + 14 + by4 f (p + 10) + 2))), (10, .int (nI (p + 14 + by4 f (p + 10) + 2 + 8 * by2 f (p + 14 + by4 f (p + 10)))))], [], M1)) rfl rfl rfl ?_
                  refine ps_st (S' := (233, [(12, .int (nI w)), (0, .ref m0), (2, .int (nI (p + 6))), (4, .int (nI x)), (5, .long (nL (by4 f (p + 10)))), (8, .int (nI (by2 f (p + 14 + by4 f (p + 10))))), (9, .int (nI (p + 14 + by4 f (p + 10) + 2))), (10, .int (nI (p + 14 + by4 f (p + 10) + 2 + 8 * by2 f (p + 14 + by4 f (p + 10)))))], [.ref m0], M1)) rfl rfl rfl ?_
                  refine ps_st (S' := (234, [(12, .int (nI w)), (0, .ref m0), (2, .int (nI (p + 6))), (4, .int (nI x)), (5, .long (nL (by4 f (p + 10)))), (8, .int (nI (by2 f (p + 14 + by4 f (p + 10))))), (9, .int (nI (p + 14 + by4 f (p + 10) + 2))), (10, .int (nI (p + 14 + by4 f (p + 10) + 2 + 8 * by2 f (p + 14 + by4 f (p + 10)))))], [.int (nI (p + 6)), .ref m0], M1)) rfl rfl rfl ?_
                  refine ps_st (S' := (235, [(12, .int (nI w)), (0, .ref m0), (2, .int (nI (p + 6))), (4, .int (nI x)), (5, .long (nL (by4 f (p + 10)))), (8, .int (nI (by2 f (p + 14 + by4 f (p + 10))))), (9, .int (nI (p + 14 + by4 f (p + 10) + 2))), (10, .int (nI (p + 14 + by4 f (p + 10) + 2 + 8 * by2 f (p + 14 + by4 f (p + 10)))))], [.int 2, .int (nI (p + 6)), .ref m0], M1)) rfl rfl rfl ?_
                  refine ps_st (S' := (236, [(12, .int (nI w)), (0, .ref m0), (2, .int (nI (p + 6))), (4, .int (nI x)), (5, .long (nL (by4 f (p + 10)))), (8, .int (nI (by2 f (p + 14 + by4 f (p + 10))))), (9, .int (nI (p + 14 + by4 f (p + 10) + 2))), (10, .int (nI (p + 14 + by4 f (p + 10) + 2 + 8 * by2 f (p + 14 + by4 f (p + 10)))))], [.int ((nI (p + 6)) + 2), .ref m0], M1)) rfl rfl rfl ?_
                  rw [nI_add1 (p := p + 6) (k := 2) (x := 2) rfl (by omega)]
                  show pl _ _ _ (_, [(12, .int (nI w)), (0, .ref m0), (2, .int (nI (p + 6))), (4, .int (nI x)), (5, .long (nL (by4 f (p + 10)))), (8, .int (nI (by2 f (p + 14 + by4 f (p + 10))))), (9, .int (nI (p + 14 + by4 f (p + 10) + 2))), (10, .int (nI (p + 14 + by4 f (p + 10) + 2 + 8 * by2 f (p + 14 + by4 f (p + 10)))))], [.int (nI (p + 8)), .ref m0], M1) _
                  refine pl_call (a := [.ref m0, .int (nI (p + 8))]) (rest := []) rfl rfl rfl (rd_u2 (n := n) (f := f) (p := (p + 8)) hR1 hF1 (by omega)) (fun v7 M8 q9 => ?_)
                  obtain ⟨rfl, rfl⟩ := q9
                  show pl _ _ _ (239, [(12, .int (nI w)), (0, .ref m0), (2, .int (nI (p + 6))), (4, .int (nI x)), (5, .long (nL (by4 f (p + 10)))), (8, .int (nI (by2 f (p + 14 + by4 f (p + 10))))), (9, .int (nI (p + 14 + by4 f (p + 10) + 2))), (10, .int (nI (p + 14 + by4 f (p + 10) + 2 + 8 * by2 f (p + 14 + by4 f (p + 10)))))], [.int (nI (by2 f (p + 8)))], M1) _
                  have hu_236 := by2_lt f (p + 8)
                  refine ps_st (S' := (241, [(12, .int (nI w)), (0, .ref m0), (2, .int (nI (p + 6))), (4, .int (nI x)), (5, .long (nL (by4 f (p + 10)))), (8, .int (nI (by2 f (p + 14 + by4 f (p + 10))))), (9, .int (nI (p + 14 + by4 f (p + 10) + 2))), (10, .int (nI (p + 14 + by4 f (p + 10) + 2 + 8 * by2 f (p + 14 + by4 f (p + 10)))))], [.int (nI w), .int (nI (by2 f (p + 8)))], M1)) rfl rfl rfl ?_
                  refine ps_if2 (S1 := (247, [(12, .int (nI w)), (0, .ref m0), (2, .int (nI (p + 6))), (4, .int (nI x)), (5, .long (nL (by4 f (p + 10)))), (8, .int (nI (by2 f (p + 14 + by4 f (p + 10))))), (9, .int (nI (p + 14 + by4 f (p + 10) + 2))), (10, .int (nI (p + 14 + by4 f (p + 10) + 2 + 8 * by2 f (p + 14 + by4 f (p + 10)))))], [], M1)) (S2 := (244, [(12, .int (nI w)), (0, .ref m0), (2, .int (nI (p + 6))), (4, .int (nI x)), (5, .long (nL (by4 f (p + 10)))), (8, .int (nI (by2 f (p + 14 + by4 f (p + 10))))), (9, .int (nI (p + 14 + by4 f (p + 10) + 2))), (10, .int (nI (p + 14 + by4 f (p + 10) + 2 + 8 * by2 f (p + 14 + by4 f (p + 10)))))], [], M1)) rfl rfl rfl (fun c_241 => ?_) (fun c_241 => ?_)
                  · have c_241 : (nI w) ≤ (nI (by2 f (p + 8))) := of_decide_eq_true c_241
                    have n_241 : w ≤ by2 f (p + 8) := (le_nI (p := w) (n := by2 f (p + 8)) (by omega) (Nat.lt_trans (by2_lt _ _) (by decide))).mp c_241
                    refine ps_st (S' := (248, [(12, .int (nI w)), (0, .ref m0), (2, .int (nI (p + 6))), (4, .int (nI x)), (5, .long (nL (by4 f (p + 10)))), (8, .int (nI (by2 f (p + 14 + by4 f (p + 10))))), (9, .int (nI (p + 14 + by4 f (p + 10) + 2))), (10, .int (nI (p + 14 + by4 f (p + 10) + 2 + 8 * by2 f (p + 14 + by4 f (p + 10)))))], [.int 0], M1)) rfl rfl rfl ?_
                    refine ps_st (S' := (250, [(0, .ref m0), (2, .int (nI (p + 6))), (4, .int (nI x)), (5, .long (nL (by4 f (p + 10)))), (8, .int (nI (by2 f (p + 14 + by4 f (p + 10))))), (9, .int (nI (p + 14 + by4 f (p + 10) + 2))), (10, .int (nI (p + 14 + by4 f (p + 10) + 2 + 8 * by2 f (p + 14 + by4 f (p + 10))))), (13, .int 0)], [], M1)) rfl rfl rfl ?_
                    exact ih.2 (0) M1 I1 R1 hR1 hEI1 hER1 hl51 hl52 hl53 hF1 hY1 hP1 hK1 (hr) (hb) (hce) (by omega) (by omega) (by omega) (rfl)
                  · have c_241 : ¬ ((nI w) ≤ (nI (by2 f (p + 8)))) := of_decide_eq_false c_241
                    have n_241 : ¬ (w ≤ by2 f (p + 8)) := fun h9 => c_241 ((le_nI (p := w) (n := by2 f (p + 8)) (by omega) (Nat.lt_trans (by2_lt _ _) (by decide))).mpr h9)
                    refine ps_st (S' := (246, [(12, .int (nI w)), (0, .ref m0), (2, .int (nI (p + 6))), (4, .int (nI x)), (5, .long (nL (by4 f (p + 10)))), (8, .int (nI (by2 f (p + 14 + by4 f (p + 10))))), (9, .int (nI (p + 14 + by4 f (p + 10) + 2))), (10, .int (nI (p + 14 + by4 f (p + 10) + 2 + 8 * by2 f (p + 14 + by4 f (p + 10)))))], [.int 42], M1)) rfl rfl rfl ?_
                    exact ps_ret rfl rfl (Or.inr (Or.inl ⟨42, I1, R1, hce, by
                        unfold cdS
                        rw [if_neg (by omega), if_pos (by omega)], by decide, rfl, hR1, hEI1, hER1⟩))
              · have n_194 : ¬ (by4 f (p + 10) ≤ 65535) := fun h9 => of_decide_eq_false c_194 ((cL_le (p := by4 f (p + 10)) (k := 65535) (x := (nL (by4 f (p + 10)))) (y := 65535) rfl rfl (by omega) (by omega)).mpr h9)
                refine ps_st (S' := (199, [], [.int 41], M1)) rfl rfl rfl ?_
                exact ps_ret rfl rfl (Or.inr (Or.inl ⟨41, I1, R1, hce, by
                    unfold cdS
                    rw [if_pos (by omega)], by decide, rfl, hR1, hEI1, hER1⟩))
          · have c_175 : ¬ ((nI y) = (nI e)) := of_decide_eq_false c_175
            have n_175 : ¬ (y = e) := fun h9 => c_175 ((eq_nI (p := y) (n := e) (by omega) (by omega)).mpr h9)
            refine ps_st (S' := (180, [(0, .ref m0), (2, .int (nI (p + 6))), (3, .int (nI e)), (4, .int (nI x)), (5, .long (nL (by4 f (p + 10)))), (7, .int (nI y)), (8, .int (nI (by2 f (p + 14 + by4 f (p + 10))))), (9, .int (nI (p + 14 + by4 f (p + 10) + 2))), (10, .int (nI (p + 14 + by4 f (p + 10) + 2 + 8 * by2 f (p + 14 + by4 f (p + 10))))), (11, .int (nI (by2 f (p + 14 + by4 f (p + 10) + 2 + 8 * by2 f (p + 14 + by4 f (p + 10)))))), (12, .int (nI i))], [.int 30], M1)) rfl rfl rfl ?_
            exact ps_ret rfl rfl (Or.inl ⟨I1, R1, by
                rw [cdE_of]
                rw [if_neg (by omega), if_neg (by omega), if_neg (by omega), ← hg]
                rw [show by2 f (p + 14 + by4 f (p + 10) + 2 + 8 * by2 f (p + 14 + by4 f (p + 10))) - i = 0 by omega]
                exact (fun h9 => n_175 (Option.some.inj h9)), rfl, hR1, hEI1, hER1⟩)
        · have c_114 : ¬ ((nI (by2 f (p + 14 + by4 f (p + 10) + 2 + 8 * by2 f (p + 14 + by4 f (p + 10))))) ≤ (nI i)) := of_decide_eq_false c_114
          have n_114 : ¬ (by2 f (p + 14 + by4 f (p + 10) + 2 + 8 * by2 f (p + 14 + by4 f (p + 10))) ≤ i) := fun h9 => c_114 ((le_nI (p := by2 f (p + 14 + by4 f (p + 10) + 2 + 8 * by2 f (p + 14 + by4 f (p + 10)))) (n := i) (Nat.lt_trans (by2_lt _ _) (by decide)) (by omega)).mpr h9)
          refine ps_st (S' := (119, [(0, .ref m0), (2, .int (nI (p + 6))), (3, .int (nI e)), (4, .int (nI x)), (5, .long (nL (by4 f (p + 10)))), (7, .int (nI y)), (8, .int (nI (by2 f (p + 14 + by4 f (p + 10))))), (9, .int (nI (p + 14 + by4 f (p + 10) + 2))), (10, .int (nI (p + 14 + by4 f (p + 10) + 2 + 8 * by2 f (p + 14 + by4 f (p + 10))))), (11, .int (nI (by2 f (p + 14 + by4 f (p + 10) + 2 + 8 * by2 f (p + 14 + by4 f (p + 10)))))), (12, .int (nI i))], [.int (nI y)], M1)) rfl rfl rfl ?_
          refine ps_st (S' := (121, [(0, .ref m0), (2, .int (nI (p + 6))), (3, .int (nI e)), (4, .int (nI x)), (5, .long (nL (by4 f (p + 10)))), (7, .int (nI y)), (8, .int (nI (by2 f (p + 14 + by4 f (p + 10))))), (9, .int (nI (p + 14 + by4 f (p + 10) + 2))), (10, .int (nI (p + 14 + by4 f (p + 10) + 2 + 8 * by2 f (p + 14 + by4 f (p + 10))))), (11, .int (nI (by2 f (p + 14 + by4 f (p + 10) + 2 + 8 * by2 f (p + 14 + by4 f (p + 10)))))), (12, .int (nI i))], [.int 6, .int (nI y)], M1)) rfl rfl rfl ?_
          refine ps_st (S' := (122, [(0, .ref m0), (2, .int (nI (p + 6))), (3, .int (nI e)), (4, .int (nI x)), (5, .long (nL (by4 f (p + 10)))), (7, .int (nI y)), (8, .int (nI (by2 f (p + 14 + by4 f (p + 10))))), (9, .int (nI (p + 14 + by4 f (p + 10) + 2))), (10, .int (nI (p + 14 + by4 f (p + 10) + 2 + 8 * by2 f (p + 14 + by4 f (p + 10))))), (11, .int (nI (by2 f (p + 14 + by4 f (p + 10) + 2 + 8 * by2 f (p + 14 + by4 f (p + 10)))))), (12, .int (nI i))], [.int ((nI y) + 6)], M1)) rfl rfl rfl ?_
          rw [nI_add1 (p := y) (k := 6) (x := 6) rfl (by omega)]
          show pl _ _ _ (_, [(0, .ref m0), (2, .int (nI (p + 6))), (3, .int (nI e)), (4, .int (nI x)), (5, .long (nL (by4 f (p + 10)))), (7, .int (nI y)), (8, .int (nI (by2 f (p + 14 + by4 f (p + 10))))), (9, .int (nI (p + 14 + by4 f (p + 10) + 2))), (10, .int (nI (p + 14 + by4 f (p + 10) + 2 + 8 * by2 f (p + 14 + by4 f (p + 10))))), (11, .int (nI (by2 f (p + 14 + by4 f (p + 10) + 2 + 8 * by2 f (p + 14 + by4 f (p + 10)))))), (12, .int (nI i))], [.int (nI (y + 6))], M1) _
          refine ps_st (S' := (123, [(0, .ref m0), (2, .int (nI (p + 6))), (3, .int (nI e)), (4, .int (nI x)), (5, .long (nL (by4 f (p + 10)))), (7, .int (nI y)), (8, .int (nI (by2 f (p + 14 + by4 f (p + 10))))), (9, .int (nI (p + 14 + by4 f (p + 10) + 2))), (10, .int (nI (p + 14 + by4 f (p + 10) + 2 + 8 * by2 f (p + 14 + by4 f (p + 10))))), (11, .int (nI (by2 f (p + 14 + by4 f (p + 10) + 2 + 8 * by2 f (p + 14 + by4 f (p + 10)))))), (12, .int (nI i))], [.int (nI e), .int (nI (y + 6))], M1)) rfl rfl rfl ?_
          refine ps_if2 (S1 := (146, [], [], M1)) (S2 := (126, [(0, .ref m0), (2, .int (nI (p + 6))), (3, .int (nI e)), (4, .int (nI x)), (5, .long (nL (by4 f (p + 10)))), (7, .int (nI y)), (8, .int (nI (by2 f (p + 14 + by4 f (p + 10))))), (9, .int (nI (p + 14 + by4 f (p + 10) + 2))), (10, .int (nI (p + 14 + by4 f (p + 10) + 2 + 8 * by2 f (p + 14 + by4 f (p + 10))))), (11, .int (nI (by2 f (p + 14 + by4 f (p + 10) + 2 + 8 * by2 f (p + 14 + by4 f (p + 10)))))), (12, .int (nI i))], [], M1)) rfl rfl rfl (fun c_123 => ?_) (fun c_123 => ?_)
          · have c_123 : (nI e) < (nI (y + 6)) := of_decide_eq_true c_123
            have n_123 : e < y + 6 := (lt_nI (p := e) (n := y + 6) (by omega) (by omega)).mp c_123
            refine ps_st (S' := (148, [], [.int 30], M1)) rfl rfl rfl ?_
            exact ps_ret rfl rfl (Or.inl ⟨I1, R1, by
                rw [cdE_of]
                rw [if_neg (by omega), if_neg (by omega), if_neg (by omega), ← hg]
                rw [s_atE_st (i := i) (p := y) (by omega), if_pos (by omega)]
                exact (fun h9 => (by cases h9)), rfl, hR1, hEI1, hER1⟩)
          · have c_123 : ¬ ((nI e) < (nI (y + 6))) := of_decide_eq_false c_123
            have n_123 : ¬ (e < y + 6) := fun h9 => c_123 ((lt_nI (p := e) (n := y + 6) (by omega) (by omega)).mpr h9)
            refine ps_st (S' := (127, [(0, .ref m0), (2, .int (nI (p + 6))), (3, .int (nI e)), (4, .int (nI x)), (5, .long (nL (by4 f (p + 10)))), (7, .int (nI y)), (8, .int (nI (by2 f (p + 14 + by4 f (p + 10))))), (9, .int (nI (p + 14 + by4 f (p + 10) + 2))), (10, .int (nI (p + 14 + by4 f (p + 10) + 2 + 8 * by2 f (p + 14 + by4 f (p + 10))))), (11, .int (nI (by2 f (p + 14 + by4 f (p + 10) + 2 + 8 * by2 f (p + 14 + by4 f (p + 10)))))), (12, .int (nI i))], [.ref m0], M1)) rfl rfl rfl ?_
            refine ps_st (S' := (129, [(0, .ref m0), (2, .int (nI (p + 6))), (3, .int (nI e)), (4, .int (nI x)), (5, .long (nL (by4 f (p + 10)))), (7, .int (nI y)), (8, .int (nI (by2 f (p + 14 + by4 f (p + 10))))), (9, .int (nI (p + 14 + by4 f (p + 10) + 2))), (10, .int (nI (p + 14 + by4 f (p + 10) + 2 + 8 * by2 f (p + 14 + by4 f (p + 10))))), (11, .int (nI (by2 f (p + 14 + by4 f (p + 10) + 2 + 8 * by2 f (p + 14 + by4 f (p + 10)))))), (12, .int (nI i))], [.int (nI y), .ref m0], M1)) rfl rfl rfl ?_
            refine ps_st (S' := (130, [(0, .ref m0), (2, .int (nI (p + 6))), (3, .int (nI e)), (4, .int (nI x)), (5, .long (nL (by4 f (p + 10)))), (7, .int (nI y)), (8, .int (nI (by2 f (p + 14 + by4 f (p + 10))))), (9, .int (nI (p + 14 + by4 f (p + 10) + 2))), (10, .int (nI (p + 14 + by4 f (p + 10) + 2 + 8 * by2 f (p + 14 + by4 f (p + 10))))), (11, .int (nI (by2 f (p + 14 + by4 f (p + 10) + 2 + 8 * by2 f (p + 14 + by4 f (p + 10)))))), (12, .int (nI i))], [.int 2, .int (nI y), .ref m0], M1)) rfl rfl rfl ?_
            refine ps_st (S' := (131, [(0, .ref m0), (2, .int (nI (p + 6))), (3, .int (nI e)), (4, .int (nI x)), (5, .long (nL (by4 f (p + 10)))), (7, .int (nI y)), (8, .int (nI (by2 f (p + 14 + by4 f (p + 10))))), (9, .int (nI (p + 14 + by4 f (p + 10) + 2))), (10, .int (nI (p + 14 + by4 f (p + 10) + 2 + 8 * by2 f (p + 14 + by4 f (p + 10))))), (11, .int (nI (by2 f (p + 14 + by4 f (p + 10) + 2 + 8 * by2 f (p + 14 + by4 f (p + 10)))))), (12, .int (nI i))], [.int ((nI y) + 2), .ref m0], M1)) rfl rfl rfl ?_
            rw [nI_add1 (p := y) (k := 2) (x := 2) rfl (by omega)]
            show pl _ _ _ (_, [(0, .ref m0), (2, .int (nI (p + 6))), (3, .int (nI e)), (4, .int (nI x)), (5, .long (nL (by4 f (p + 10)))), (7, .int (nI y)), (8, .int (nI (by2 f (p + 14 + by4 f (p + 10))))), (9, .int (nI (p + 14 + by4 f (p + 10) + 2))), (10, .int (nI (p + 14 + by4 f (p + 10) + 2 + 8 * by2 f (p + 14 + by4 f (p + 10))))), (11, .int (nI (by2 f (p + 14 + by4 f (p + 10) + 2 + 8 * by2 f (p + 14 + by4 f (p + 10)))))), (12, .int (nI i))], [.int (nI (y + 2)), .ref m0], M1) _
            refine pl_call (a := [.ref m0, .int (nI (y + 2))]) (rest := []) rfl rfl rfl (rd_u4 (n := n) (f := f) (p := (y + 2)) hR1 hF1 (by omega)) (fun v10 M11 q12 => ?_)
            obtain ⟨rfl, rfl⟩ := q12
            show pl _ _ _ (134, [(0, .ref m0), (2, .int (nI (p + 6))), (3, .int (nI e)), (4, .int (nI x)), (5, .long (nL (by4 f (p + 10)))), (7, .int (nI y)), (8, .int (nI (by2 f (p + 14 + by4 f (p + 10))))), (9, .int (nI (p + 14 + by4 f (p + 10) + 2))), (10, .int (nI (p + 14 + by4 f (p + 10) + 2 + 8 * by2 f (p + 14 + by4 f (p + 10))))), (11, .int (nI (by2 f (p + 14 + by4 f (p + 10) + 2 + 8 * by2 f (p + 14 + by4 f (p + 10)))))), (12, .int (nI i))], [.long (nL (by4 f (y + 2)))], M1) _
            have hu_131 := by4_lt f (y + 2)
            refine ps_st (S' := (135, [(0, .ref m0), (2, .int (nI (p + 6))), (3, .int (nI e)), (4, .int (nI x)), (5, .long (nL (by4 f (p + 10)))), (7, .int (nI y)), (8, .int (nI (by2 f (p + 14 + by4 f (p + 10))))), (9, .int (nI (p + 14 + by4 f (p + 10) + 2))), (10, .int (nI (p + 14 + by4 f (p + 10) + 2 + 8 * by2 f (p + 14 + by4 f (p + 10))))), (11, .int (nI (by2 f (p + 14 + by4 f (p + 10) + 2 + 8 * by2 f (p + 14 + by4 f (p + 10)))))), (12, .int (nI i))], [.int (nI e), .long (nL (by4 f (y + 2)))], M1)) rfl rfl rfl ?_
            refine ps_st (S' := (137, [(0, .ref m0), (2, .int (nI (p + 6))), (3, .int (nI e)), (4, .int (nI x)), (5, .long (nL (by4 f (p + 10)))), (7, .int (nI y)), (8, .int (nI (by2 f (p + 14 + by4 f (p + 10))))), (9, .int (nI (p + 14 + by4 f (p + 10) + 2))), (10, .int (nI (p + 14 + by4 f (p + 10) + 2 + 8 * by2 f (p + 14 + by4 f (p + 10))))), (11, .int (nI (by2 f (p + 14 + by4 f (p + 10) + 2 + 8 * by2 f (p + 14 + by4 f (p + 10)))))), (12, .int (nI i))], [.int (nI y), .int (nI e), .long (nL (by4 f (y + 2)))], M1)) rfl rfl rfl ?_
            refine ps_st (S' := (138, [(0, .ref m0), (2, .int (nI (p + 6))), (3, .int (nI e)), (4, .int (nI x)), (5, .long (nL (by4 f (p + 10)))), (7, .int (nI y)), (8, .int (nI (by2 f (p + 14 + by4 f (p + 10))))), (9, .int (nI (p + 14 + by4 f (p + 10) + 2))), (10, .int (nI (p + 14 + by4 f (p + 10) + 2 + 8 * by2 f (p + 14 + by4 f (p + 10))))), (11, .int (nI (by2 f (p + 14 + by4 f (p + 10) + 2 + 8 * by2 f (p + 14 + by4 f (p + 10)))))), (12, .int (nI i))], [.int ((nI e) - (nI y)), .long (nL (by4 f (y + 2)))], M1)) rfl rfl rfl ?_
            rw [nI_sub1 (p := e) (k := y) (x := (nI y)) rfl (by omega) (by omega)]
            show pl _ _ _ (_, [(0, .ref m0), (2, .int (nI (p + 6))), (3, .int (nI e)), (4, .int (nI x)), (5, .long (nL (by4 f (p + 10)))), (7, .int (nI y)), (8, .int (nI (by2 f (p + 14 + by4 f (p + 10))))), (9, .int (nI (p + 14 + by4 f (p + 10) + 2))), (10, .int (nI (p + 14 + by4 f (p + 10) + 2 + 8 * by2 f (p + 14 + by4 f (p + 10))))), (11, .int (nI (by2 f (p + 14 + by4 f (p + 10) + 2 + 8 * by2 f (p + 14 + by4 f (p + 10)))))), (12, .int (nI i))], [.int (nI (e - y)), .long (nL (by4 f (y + 2)))], M1) _
            refine ps_st (S' := (140, [(0, .ref m0), (2, .int (nI (p + 6))), (3, .int (nI e)), (4, .int (nI x)), (5, .long (nL (by4 f (p + 10)))), (7, .int (nI y)), (8, .int (nI (by2 f (p + 14 + by4 f (p + 10))))), (9, .int (nI (p + 14 + by4 f (p + 10) + 2))), (10, .int (nI (p + 14 + by4 f (p + 10) + 2 + 8 * by2 f (p + 14 + by4 f (p + 10))))), (11, .int (nI (by2 f (p + 14 + by4 f (p + 10) + 2 + 8 * by2 f (p + 14 + by4 f (p + 10)))))), (12, .int (nI i))], [.int 6, .int (nI (e - y)), .long (nL (by4 f (y + 2)))], M1)) rfl rfl rfl ?_
            refine ps_st (S' := (141, [(0, .ref m0), (2, .int (nI (p + 6))), (3, .int (nI e)), (4, .int (nI x)), (5, .long (nL (by4 f (p + 10)))), (7, .int (nI y)), (8, .int (nI (by2 f (p + 14 + by4 f (p + 10))))), (9, .int (nI (p + 14 + by4 f (p + 10) + 2))), (10, .int (nI (p + 14 + by4 f (p + 10) + 2 + 8 * by2 f (p + 14 + by4 f (p + 10))))), (11, .int (nI (by2 f (p + 14 + by4 f (p + 10) + 2 + 8 * by2 f (p + 14 + by4 f (p + 10)))))), (12, .int (nI i))], [.int ((nI (e - y)) - 6), .long (nL (by4 f (y + 2)))], M1)) rfl rfl rfl ?_
            rw [nI_sub1 (p := e - y) (k := 6) (x := 6) rfl (by omega) (by omega)]
            show pl _ _ _ (_, [(0, .ref m0), (2, .int (nI (p + 6))), (3, .int (nI e)), (4, .int (nI x)), (5, .long (nL (by4 f (p + 10)))), (7, .int (nI y)), (8, .int (nI (by2 f (p + 14 + by4 f (p + 10))))), (9, .int (nI (p + 14 + by4 f (p + 10) + 2))), (10, .int (nI (p + 14 + by4 f (p + 10) + 2 + 8 * by2 f (p + 14 + by4 f (p + 10))))), (11, .int (nI (by2 f (p + 14 + by4 f (p + 10) + 2 + 8 * by2 f (p + 14 + by4 f (p + 10)))))), (12, .int (nI i))], [.int (nI ((e - y) - 6)), .long (nL (by4 f (y + 2)))], M1) _
            refine ps_st (S' := (142, [(0, .ref m0), (2, .int (nI (p + 6))), (3, .int (nI e)), (4, .int (nI x)), (5, .long (nL (by4 f (p + 10)))), (7, .int (nI y)), (8, .int (nI (by2 f (p + 14 + by4 f (p + 10))))), (9, .int (nI (p + 14 + by4 f (p + 10) + 2))), (10, .int (nI (p + 14 + by4 f (p + 10) + 2 + 8 * by2 f (p + 14 + by4 f (p + 10))))), (11, .int (nI (by2 f (p + 14 + by4 f (p + 10) + 2 + 8 * by2 f (p + 14 + by4 f (p + 10)))))), (12, .int (nI i))], [.long (Int32.toInt64 (nI ((e - y) - 6))), .long (nL (by4 f (y + 2)))], M1)) rfl rfl rfl ?_
            rw [i2l_nL (p := (e - y) - 6) (by omega)]
            show pl _ _ _ (_, [(0, .ref m0), (2, .int (nI (p + 6))), (3, .int (nI e)), (4, .int (nI x)), (5, .long (nL (by4 f (p + 10)))), (7, .int (nI y)), (8, .int (nI (by2 f (p + 14 + by4 f (p + 10))))), (9, .int (nI (p + 14 + by4 f (p + 10) + 2))), (10, .int (nI (p + 14 + by4 f (p + 10) + 2 + 8 * by2 f (p + 14 + by4 f (p + 10))))), (11, .int (nI (by2 f (p + 14 + by4 f (p + 10) + 2 + 8 * by2 f (p + 14 + by4 f (p + 10)))))), (12, .int (nI i))], [.long (nL ((e - y) - 6)), .long (nL (by4 f (y + 2)))], M1) _
            refine ps_st (S' := (143, [(0, .ref m0), (2, .int (nI (p + 6))), (3, .int (nI e)), (4, .int (nI x)), (5, .long (nL (by4 f (p + 10)))), (7, .int (nI y)), (8, .int (nI (by2 f (p + 14 + by4 f (p + 10))))), (9, .int (nI (p + 14 + by4 f (p + 10) + 2))), (10, .int (nI (p + 14 + by4 f (p + 10) + 2 + 8 * by2 f (p + 14 + by4 f (p + 10))))), (11, .int (nI (by2 f (p + 14 + by4 f (p + 10) + 2 + 8 * by2 f (p + 14 + by4 f (p + 10)))))), (12, .int (nI i))], [.int (lg_cmp (nL (by4 f (y + 2))) (nL ((e - y) - 6)))], M1)) rfl rfl rfl ?_
            refine ps_if (S1 := (149, [(0, .ref m0), (2, .int (nI (p + 6))), (3, .int (nI e)), (4, .int (nI x)), (5, .long (nL (by4 f (p + 10)))), (7, .int (nI y)), (8, .int (nI (by2 f (p + 14 + by4 f (p + 10))))), (9, .int (nI (p + 14 + by4 f (p + 10) + 2))), (10, .int (nI (p + 14 + by4 f (p + 10) + 2 + 8 * by2 f (p + 14 + by4 f (p + 10))))), (11, .int (nI (by2 f (p + 14 + by4 f (p + 10) + 2 + 8 * by2 f (p + 14 + by4 f (p + 10)))))), (12, .int (nI i))], [], M1)) (S2 := (146, [], [], M1)) rfl rfl rfl (fun c_143 => ?_) (fun c_143 => ?_)
            · have n_143 : by4 f (y + 2) ≤ (e - y) - 6 := (cL_le (p := by4 f (y + 2)) (k := (e - y) - 6) (x := (nL (by4 f (y + 2)))) (y := (nL ((e - y) - 6))) rfl rfl (by omega) (by omega)).mp (of_decide_eq_true c_143)
              refine ps_st (S' := (151, [(0, .ref m0), (2, .int (nI (p + 6))), (3, .int (nI e)), (4, .int (nI x)), (5, .long (nL (by4 f (p + 10)))), (7, .int (nI y)), (8, .int (nI (by2 f (p + 14 + by4 f (p + 10))))), (9, .int (nI (p + 14 + by4 f (p + 10) + 2))), (10, .int (nI (p + 14 + by4 f (p + 10) + 2 + 8 * by2 f (p + 14 + by4 f (p + 10))))), (11, .int (nI (by2 f (p + 14 + by4 f (p + 10) + 2 + 8 * by2 f (p + 14 + by4 f (p + 10)))))), (12, .int (nI i))], [.int (nI y)], M1)) rfl rfl rfl ?_
              refine ps_st (S' := (153, [(0, .ref m0), (2, .int (nI (p + 6))), (3, .int (nI e)), (4, .int (nI x)), (5, .long (nL (by4 f (p + 10)))), (7, .int (nI y)), (8, .int (nI (by2 f (p + 14 + by4 f (p + 10))))), (9, .int (nI (p + 14 + by4 f (p + 10) + 2))), (10, .int (nI (p + 14 + by4 f (p + 10) + 2 + 8 * by2 f (p + 14 + by4 f (p + 10))))), (11, .int (nI (by2 f (p + 14 + by4 f (p + 10) + 2 + 8 * by2 f (p + 14 + by4 f (p + 10)))))), (12, .int (nI i))], [.int 6, .int (nI y)], M1)) rfl rfl rfl ?_
              refine ps_st (S' := (154, [(0, .ref m0), (2, .int (nI (p + 6))), (3, .int (nI e)), (4, .int (nI x)), (5, .long (nL (by4 f (p + 10)))), (7, .int (nI y)), (8, .int (nI (by2 f (p + 14 + by4 f (p + 10))))), (9, .int (nI (p + 14 + by4 f (p + 10) + 2))), (10, .int (nI (p + 14 + by4 f (p + 10) + 2 + 8 * by2 f (p + 14 + by4 f (p + 10))))), (11, .int (nI (by2 f (p + 14 + by4 f (p + 10) + 2 + 8 * by2 f (p + 14 + by4 f (p + 10)))))), (12, .int (nI i))], [.ref m0, .int 6, .int (nI y)], M1)) rfl rfl rfl ?_
              refine ps_st (S' := (156, [(0, .ref m0), (2, .int (nI (p + 6))), (3, .int (nI e)), (4, .int (nI x)), (5, .long (nL (by4 f (p + 10)))), (7, .int (nI y)), (8, .int (nI (by2 f (p + 14 + by4 f (p + 10))))), (9, .int (nI (p + 14 + by4 f (p + 10) + 2))), (10, .int (nI (p + 14 + by4 f (p + 10) + 2 + 8 * by2 f (p + 14 + by4 f (p + 10))))), (11, .int (nI (by2 f (p + 14 + by4 f (p + 10) + 2 + 8 * by2 f (p + 14 + by4 f (p + 10)))))), (12, .int (nI i))], [.int (nI y), .ref m0, .int 6, .int (nI y)], M1)) rfl rfl rfl ?_
              refine ps_st (S' := (157, [(0, .ref m0), (2, .int (nI (p + 6))), (3, .int (nI e)), (4, .int (nI x)), (5, .long (nL (by4 f (p + 10)))), (7, .int (nI y)), (8, .int (nI (by2 f (p + 14 + by4 f (p + 10))))), (9, .int (nI (p + 14 + by4 f (p + 10) + 2))), (10, .int (nI (p + 14 + by4 f (p + 10) + 2 + 8 * by2 f (p + 14 + by4 f (p + 10))))), (11, .int (nI (by2 f (p + 14 + by4 f (p + 10) + 2 + 8 * by2 f (p + 14 + by4 f (p + 10)))))), (12, .int (nI i))], [.int 2, .int (nI y), .ref m0, .int 6, .int (nI y)], M1)) rfl rfl rfl ?_
              refine ps_st (S' := (158, [(0, .ref m0), (2, .int (nI (p + 6))), (3, .int (nI e)), (4, .int (nI x)), (5, .long (nL (by4 f (p + 10)))), (7, .int (nI y)), (8, .int (nI (by2 f (p + 14 + by4 f (p + 10))))), (9, .int (nI (p + 14 + by4 f (p + 10) + 2))), (10, .int (nI (p + 14 + by4 f (p + 10) + 2 + 8 * by2 f (p + 14 + by4 f (p + 10))))), (11, .int (nI (by2 f (p + 14 + by4 f (p + 10) + 2 + 8 * by2 f (p + 14 + by4 f (p + 10)))))), (12, .int (nI i))], [.int ((nI y) + 2), .ref m0, .int 6, .int (nI y)], M1)) rfl rfl rfl ?_
              rw [nI_add1 (p := y) (k := 2) (x := 2) rfl (by omega)]
              show pl _ _ _ (_, [(0, .ref m0), (2, .int (nI (p + 6))), (3, .int (nI e)), (4, .int (nI x)), (5, .long (nL (by4 f (p + 10)))), (7, .int (nI y)), (8, .int (nI (by2 f (p + 14 + by4 f (p + 10))))), (9, .int (nI (p + 14 + by4 f (p + 10) + 2))), (10, .int (nI (p + 14 + by4 f (p + 10) + 2 + 8 * by2 f (p + 14 + by4 f (p + 10))))), (11, .int (nI (by2 f (p + 14 + by4 f (p + 10) + 2 + 8 * by2 f (p + 14 + by4 f (p + 10)))))), (12, .int (nI i))], [.int (nI (y + 2)), .ref m0, .int 6, .int (nI y)], M1) _
              refine pl_call (a := [.ref m0, .int (nI (y + 2))]) (rest := [.int 6, .int (nI y)]) rfl rfl rfl (rd_u4 (n := n) (f := f) (p := (y + 2)) hR1 hF1 (by omega)) (fun v13 M14 q15 => ?_)
              obtain ⟨rfl, rfl⟩ := q15
              show pl _ _ _ (161, [(0, .ref m0), (2, .int (nI (p + 6))), (3, .int (nI e)), (4, .int (nI x)), (5, .long (nL (by4 f (p + 10)))), (7, .int (nI y)), (8, .int (nI (by2 f (p + 14 + by4 f (p + 10))))), (9, .int (nI (p + 14 + by4 f (p + 10) + 2))), (10, .int (nI (p + 14 + by4 f (p + 10) + 2 + 8 * by2 f (p + 14 + by4 f (p + 10))))), (11, .int (nI (by2 f (p + 14 + by4 f (p + 10) + 2 + 8 * by2 f (p + 14 + by4 f (p + 10)))))), (12, .int (nI i))], [.long (nL (by4 f (y + 2))), .int 6, .int (nI y)], M1) _
              have hu_158 := by4_lt f (y + 2)
              refine ps_st (S' := (162, [(0, .ref m0), (2, .int (nI (p + 6))), (3, .int (nI e)), (4, .int (nI x)), (5, .long (nL (by4 f (p + 10)))), (7, .int (nI y)), (8, .int (nI (by2 f (p + 14 + by4 f (p + 10))))), (9, .int (nI (p + 14 + by4 f (p + 10) + 2))), (10, .int (nI (p + 14 + by4 f (p + 10) + 2 + 8 * by2 f (p + 14 + by4 f (p + 10))))), (11, .int (nI (by2 f (p + 14 + by4 f (p + 10) + 2 + 8 * by2 f (p + 14 + by4 f (p + 10)))))), (12, .int (nI i))], [.int (Int64.toInt32 (nL (by4 f (y + 2)))), .int 6, .int (nI y)], M1)) rfl rfl rfl ?_
              rw [l2i_nL (p := by4 f (y + 2)) (by omega)]
              show pl _ _ _ (_, [(0, .ref m0), (2, .int (nI (p + 6))), (3, .int (nI e)), (4, .int (nI x)), (5, .long (nL (by4 f (p + 10)))), (7, .int (nI y)), (8, .int (nI (by2 f (p + 14 + by4 f (p + 10))))), (9, .int (nI (p + 14 + by4 f (p + 10) + 2))), (10, .int (nI (p + 14 + by4 f (p + 10) + 2 + 8 * by2 f (p + 14 + by4 f (p + 10))))), (11, .int (nI (by2 f (p + 14 + by4 f (p + 10) + 2 + 8 * by2 f (p + 14 + by4 f (p + 10)))))), (12, .int (nI i))], [.int (nI (by4 f (y + 2))), .int 6, .int (nI y)], M1) _
              refine ps_st (S' := (163, [(0, .ref m0), (2, .int (nI (p + 6))), (3, .int (nI e)), (4, .int (nI x)), (5, .long (nL (by4 f (p + 10)))), (7, .int (nI y)), (8, .int (nI (by2 f (p + 14 + by4 f (p + 10))))), (9, .int (nI (p + 14 + by4 f (p + 10) + 2))), (10, .int (nI (p + 14 + by4 f (p + 10) + 2 + 8 * by2 f (p + 14 + by4 f (p + 10))))), (11, .int (nI (by2 f (p + 14 + by4 f (p + 10) + 2 + 8 * by2 f (p + 14 + by4 f (p + 10)))))), (12, .int (nI i))], [.int (6 + (nI (by4 f (y + 2)))), .int (nI y)], M1)) rfl rfl rfl ?_
              rw [nI_add2 (p := 6) (k := by4 f (y + 2)) (x := 6) (y := (nI (by4 f (y + 2)))) rfl rfl (by omega)]
              show pl _ _ _ (_, [(0, .ref m0), (2, .int (nI (p + 6))), (3, .int (nI e)), (4, .int (nI x)), (5, .long (nL (by4 f (p + 10)))), (7, .int (nI y)), (8, .int (nI (by2 f (p + 14 + by4 f (p + 10))))), (9, .int (nI (p + 14 + by4 f (p + 10) + 2))), (10, .int (nI (p + 14 + by4 f (p + 10) + 2 + 8 * by2 f (p + 14 + by4 f (p + 10))))), (11, .int (nI (by2 f (p + 14 + by4 f (p + 10) + 2 + 8 * by2 f (p + 14 + by4 f (p + 10)))))), (12, .int (nI i))], [.int (nI (6 + by4 f (y + 2))), .int (nI y)], M1) _
              refine ps_st (S' := (164, [(0, .ref m0), (2, .int (nI (p + 6))), (3, .int (nI e)), (4, .int (nI x)), (5, .long (nL (by4 f (p + 10)))), (7, .int (nI y)), (8, .int (nI (by2 f (p + 14 + by4 f (p + 10))))), (9, .int (nI (p + 14 + by4 f (p + 10) + 2))), (10, .int (nI (p + 14 + by4 f (p + 10) + 2 + 8 * by2 f (p + 14 + by4 f (p + 10))))), (11, .int (nI (by2 f (p + 14 + by4 f (p + 10) + 2 + 8 * by2 f (p + 14 + by4 f (p + 10)))))), (12, .int (nI i))], [.int ((nI y) + (nI (6 + by4 f (y + 2))))], M1)) rfl rfl rfl ?_
              rw [nI_add1 (p := y) (k := 6 + by4 f (y + 2)) (x := (nI (6 + by4 f (y + 2)))) rfl (by omega)]
              rw [show nI (y + (6 + by4 f (y + 2))) = nI (y + 6 + by4 f (y + 2)) from congrArg nI (by omega)]
              show pl _ _ _ (_, [(0, .ref m0), (2, .int (nI (p + 6))), (3, .int (nI e)), (4, .int (nI x)), (5, .long (nL (by4 f (p + 10)))), (7, .int (nI y)), (8, .int (nI (by2 f (p + 14 + by4 f (p + 10))))), (9, .int (nI (p + 14 + by4 f (p + 10) + 2))), (10, .int (nI (p + 14 + by4 f (p + 10) + 2 + 8 * by2 f (p + 14 + by4 f (p + 10))))), (11, .int (nI (by2 f (p + 14 + by4 f (p + 10) + 2 + 8 * by2 f (p + 14 + by4 f (p + 10)))))), (12, .int (nI i))], [.int (nI (y + 6 + by4 f (y + 2)))], M1) _
              refine ps_st (S' := (166, [(7, .int (nI (y + 6 + by4 f (y + 2)))), (0, .ref m0), (2, .int (nI (p + 6))), (3, .int (nI e)), (4, .int (nI x)), (5, .long (nL (by4 f (p + 10)))), (8, .int (nI (by2 f (p + 14 + by4 f (p + 10))))), (9, .int (nI (p + 14 + by4 f (p + 10) + 2))), (10, .int (nI (p + 14 + by4 f (p + 10) + 2 + 8 * by2 f (p + 14 + by4 f (p + 10))))), (11, .int (nI (by2 f (p + 14 + by4 f (p + 10) + 2 + 8 * by2 f (p + 14 + by4 f (p + 10)))))), (12, .int (nI i))], [], M1)) rfl rfl rfl ?_
              refine ps_st (S' := (169, [(12, .int ((nI i) + 1)), (7, .int (nI (y + 6 + by4 f (y + 2)))), (0, .ref m0), (2, .int (nI (p + 6))), (3, .int (nI e)), (4, .int (nI x)), (5, .long (nL (by4 f (p + 10)))), (8, .int (nI (by2 f (p + 14 + by4 f (p + 10))))), (9, .int (nI (p + 14 + by4 f (p + 10) + 2))), (10, .int (nI (p + 14 + by4 f (p + 10) + 2 + 8 * by2 f (p + 14 + by4 f (p + 10))))), (11, .int (nI (by2 f (p + 14 + by4 f (p + 10) + 2 + 8 * by2 f (p + 14 + by4 f (p + 10))))))], [], M1)) rfl rfl rfl ?_
              rw [nI_add1 (p := i) (k := 1) (x := 1) rfl (by omega)]
              show pl _ _ _ (_, [(12, .int (nI (i + 1))), (7, .int (nI (y + 6 + by4 f (y + 2)))), (0, .ref m0), (2, .int (nI (p + 6))), (3, .int (nI e)), (4, .int (nI x)), (5, .long (nL (by4 f (p + 10)))), (8, .int (nI (by2 f (p + 14 + by4 f (p + 10))))), (9, .int (nI (p + 14 + by4 f (p + 10) + 2))), (10, .int (nI (p + 14 + by4 f (p + 10) + 2 + 8 * by2 f (p + 14 + by4 f (p + 10))))), (11, .int (nI (by2 f (p + 14 + by4 f (p + 10) + 2 + 8 * by2 f (p + 14 + by4 f (p + 10))))))], [], M1) _
              refine ps_st (S' := (110, [(0, .ref m0), (2, .int (nI (p + 6))), (3, .int (nI e)), (4, .int (nI x)), (5, .long (nL (by4 f (p + 10)))), (7, .int (nI (y + 6 + by4 f (y + 2)))), (8, .int (nI (by2 f (p + 14 + by4 f (p + 10))))), (9, .int (nI (p + 14 + by4 f (p + 10) + 2))), (10, .int (nI (p + 14 + by4 f (p + 10) + 2 + 8 * by2 f (p + 14 + by4 f (p + 10))))), (11, .int (nI (by2 f (p + 14 + by4 f (p + 10) + 2 + 8 * by2 f (p + 14 + by4 f (p + 10)))))), (12, .int (nI (i + 1)))], [], M1)) rfl rfl rfl ?_
              exact ih.1 (i + 1) (y + 6 + by4 f (y + 2)) M1 I1 R1 hR1 hEI1 hER1 hl51 hl52 hl53 hF1 hY1 hP1 hK1 (hr) (hb) (by omega) (by omega) (by
                  rw [← hg, s_atE_st (i := i) (p := y) (by omega), if_neg (by omega), if_neg (by omega)])
            · have n_143 : ¬ (by4 f (y + 2) ≤ (e - y) - 6) := fun h9 => of_decide_eq_false c_143 ((cL_le (p := by4 f (y + 2)) (k := (e - y) - 6) (x := (nL (by4 f (y + 2)))) (y := (nL ((e - y) - 6))) rfl rfl (by omega) (by omega)).mpr h9)
              refine ps_st (S' := (148, [], [.int 30], M1)) rfl rfl rfl ?_
              exact ps_ret rfl rfl (Or.inl ⟨I1, R1, by
                  rw [cdE_of]
                  rw [if_neg (by omega), if_neg (by omega), if_neg (by omega), ← hg]
                  rw [s_atE_st (i := i) (p := y) (by omega), if_neg (by omega), if_pos (by omega)]
                  exact (fun h9 => (by cases h9)), rfl, hR1, hEI1, hER1⟩)
      · skip
        intro i M1 I1 R1 hR1 hEI1 hER1 hl51 hl52 hl53 hF1 hY1 hP1 hK1 hr hb hce h41 h42 hi hw9
        have hn := hF1.1
        have hu9 := by2_lt f (p + 14 + by4 f (p + 10))
        have hu8 := by2_lt f (p + 14 + by4 f (p + 10) + 2 + 8 * by2 f (p + 14 + by4 f (p + 10)))
        have htl := hY1.1.2.2.1
        refine ps_st1 (S' := (252, [(0, .ref m0), (2, .int (nI (p + 6))), (4, .int (nI x)), (5, .long (nL (by4 f (p + 10)))), (8, .int (nI (by2 f (p + 14 + by4 f (p + 10))))), (9, .int (nI (p + 14 + by4 f (p + 10) + 2))), (10, .int (nI (p + 14 + by4 f (p + 10) + 2 + 8 * by2 f (p + 14 + by4 f (p + 10))))), (13, .int (nI i))], [.int (nI i)], M1)) rfl rfl rfl ?_
        refine ps_st (S' := (254, [(0, .ref m0), (2, .int (nI (p + 6))), (4, .int (nI x)), (5, .long (nL (by4 f (p + 10)))), (8, .int (nI (by2 f (p + 14 + by4 f (p + 10))))), (9, .int (nI (p + 14 + by4 f (p + 10) + 2))), (10, .int (nI (p + 14 + by4 f (p + 10) + 2 + 8 * by2 f (p + 14 + by4 f (p + 10))))), (13, .int (nI i))], [.int (nI (by2 f (p + 14 + by4 f (p + 10)))), .int (nI i)], M1)) rfl rfl rfl ?_
        refine ps_if2 (S1 := (353, [(0, .ref m0), (2, .int (nI (p + 6))), (4, .int (nI x)), (5, .long (nL (by4 f (p + 10)))), (8, .int (nI (by2 f (p + 14 + by4 f (p + 10))))), (9, .int (nI (p + 14 + by4 f (p + 10) + 2))), (10, .int (nI (p + 14 + by4 f (p + 10) + 2 + 8 * by2 f (p + 14 + by4 f (p + 10))))), (13, .int (nI i))], [], M1)) (S2 := (257, [(0, .ref m0), (2, .int (nI (p + 6))), (4, .int (nI x)), (5, .long (nL (by4 f (p + 10)))), (8, .int (nI (by2 f (p + 14 + by4 f (p + 10))))), (9, .int (nI (p + 14 + by4 f (p + 10) + 2))), (10, .int (nI (p + 14 + by4 f (p + 10) + 2 + 8 * by2 f (p + 14 + by4 f (p + 10))))), (13, .int (nI i))], [], M1)) rfl rfl rfl (fun c_254 => ?_) (fun c_254 => ?_)
        · have c_254 : (nI (by2 f (p + 14 + by4 f (p + 10)))) ≤ (nI i) := of_decide_eq_true c_254
          have n_254 : by2 f (p + 14 + by4 f (p + 10)) ≤ i := (le_nI (p := by2 f (p + 14 + by4 f (p + 10))) (n := i) (Nat.lt_trans (by2_lt _ _) (by decide)) (by omega)).mp c_254
          refine ps_st (S' := (354, [(0, .ref m0), (2, .int (nI (p + 6))), (4, .int (nI x)), (5, .long (nL (by4 f (p + 10)))), (8, .int (nI (by2 f (p + 14 + by4 f (p + 10))))), (9, .int (nI (p + 14 + by4 f (p + 10) + 2))), (10, .int (nI (p + 14 + by4 f (p + 10) + 2 + 8 * by2 f (p + 14 + by4 f (p + 10))))), (13, .int (nI i))], [.ref m0], M1)) rfl rfl rfl ?_
          refine pr_ref (j := 39) (S' := (357, [(0, .ref m0), (2, .int (nI (p + 6))), (4, .int (nI x)), (5, .long (nL (by4 f (p + 10)))), (8, .int (nI (by2 f (p + 14 + by4 f (p + 10))))), (9, .int (nI (p + 14 + by4 f (p + 10) + 2))), (10, .int (nI (p + 14 + by4 f (p + 10) + 2 + 8 * by2 f (p + 14 + by4 f (p + 10))))), (13, .int (nI i))], [.ref (q 39)], M1)) rfl hR1 rfl rfl ?_
          refine ps_st (S' := (359, [(0, .ref m0), (2, .int (nI (p + 6))), (4, .int (nI x)), (5, .long (nL (by4 f (p + 10)))), (8, .int (nI (by2 f (p + 14 + by4 f (p + 10))))), (9, .int (nI (p + 14 + by4 f (p + 10) + 2))), (10, .int (nI (p + 14 + by4 f (p + 10) + 2 + 8 * by2 f (p + 14 + by4 f (p + 10))))), (13, .int (nI i))], [.int (nI x), .ref (q 39)], M1)) rfl rfl rfl ?_
          refine ps_st (S' := (360, [(0, .ref m0), (2, .int (nI (p + 6))), (4, .int (nI x)), (5, .long (nL (by4 f (p + 10)))), (8, .int (nI (by2 f (p + 14 + by4 f (p + 10))))), (9, .int (nI (p + 14 + by4 f (p + 10) + 2))), (10, .int (nI (p + 14 + by4 f (p + 10) + 2 + 8 * by2 f (p + 14 + by4 f (p + 10))))), (13, .int (nI i))], [.ref m0, .int (nI x), .ref (q 39)], M1)) rfl rfl rfl ?_
          refine ps_st (S' := (361, [(0, .ref m0), (2, .int (nI (p + 6))), (4, .int (nI x)), (5, .long (nL (by4 f (p + 10)))), (8, .int (nI (by2 f (p + 14 + by4 f (p + 10))))), (9, .int (nI (p + 14 + by4 f (p + 10) + 2))), (10, .int (nI (p + 14 + by4 f (p + 10) + 2 + 8 * by2 f (p + 14 + by4 f (p + 10))))), (13, .int (nI i))], [.int (nI (p + 6)), .ref m0, .int (nI x), .ref (q 39)], M1)) rfl rfl rfl ?_
          refine pl_call (a := [.ref m0, .int (nI (p + 6))]) (rest := [.int (nI x), .ref (q 39)]) rfl rfl rfl (rd_u2 (n := n) (f := f) (p := (p + 6)) hR1 hF1 (by omega)) (fun v16 M17 q18 => ?_)
          obtain ⟨rfl, rfl⟩ := q18
          show pl _ _ _ (364, [(0, .ref m0), (2, .int (nI (p + 6))), (4, .int (nI x)), (5, .long (nL (by4 f (p + 10)))), (8, .int (nI (by2 f (p + 14 + by4 f (p + 10))))), (9, .int (nI (p + 14 + by4 f (p + 10) + 2))), (10, .int (nI (p + 14 + by4 f (p + 10) + 2 + 8 * by2 f (p + 14 + by4 f (p + 10))))), (13, .int (nI i))], [.int (nI (by2 f (p + 6))), .int (nI x), .ref (q 39)], M1) _
          have hu_361 := by2_lt f (p + 6)
          refine pr_st (a := 39) (j := x) rfl hR1 rfl (by omega) (fun M19 R20 i1_364 hR21 hS22 => ?_)
          have hF_23 := hF1.mono (fun _ _ => rfl) (rRx hS22 (by decide))
          have hY_24 := hY1.mono (fun _ _ => rfl) (rRx hS22 (by decide))
          have hP_25 := hP1.mono (fun _ _ => rfl) (rRx hS22 (by decide))
          have hK_26 := hK1.mono (fun _ _ => rfl) (rRx hS22 (by decide))
          have hER27 := hER1.st hS22 (by decide)
          show pl _ _ _ (365, [(0, .ref m0), (2, .int (nI (p + 6))), (4, .int (nI x)), (5, .long (nL (by4 f (p + 10)))), (8, .int (nI (by2 f (p + 14 + by4 f (p + 10))))), (9, .int (nI (p + 14 + by4 f (p + 10) + 2))), (10, .int (nI (p + 14 + by4 f (p + 10) + 2 + 8 * by2 f (p + 14 + by4 f (p + 10))))), (13, .int (nI i))], [], M19) _
          refine ps_st (S' := (366, [(0, .ref m0), (2, .int (nI (p + 6))), (4, .int (nI x)), (5, .long (nL (by4 f (p + 10)))), (8, .int (nI (by2 f (p + 14 + by4 f (p + 10))))), (9, .int (nI (p + 14 + by4 f (p + 10) + 2))), (10, .int (nI (p + 14 + by4 f (p + 10) + 2 + 8 * by2 f (p + 14 + by4 f (p + 10))))), (13, .int (nI i))], [.ref m0], M19)) rfl rfl rfl ?_
          refine pr_ref (j := 40) (S' := (369, [(0, .ref m0), (2, .int (nI (p + 6))), (4, .int (nI x)), (5, .long (nL (by4 f (p + 10)))), (8, .int (nI (by2 f (p + 14 + by4 f (p + 10))))), (9, .int (nI (p + 14 + by4 f (p + 10) + 2))), (10, .int (nI (p + 14 + by4 f (p + 10) + 2 + 8 * by2 f (p + 14 + by4 f (p + 10))))), (13, .int (nI i))], [.ref (q 40)], M19)) rfl hR21 rfl rfl ?_
          refine ps_st (S' := (371, [(0, .ref m0), (2, .int (nI (p + 6))), (4, .int (nI x)), (5, .long (nL (by4 f (p + 10)))), (8, .int (nI (by2 f (p + 14 + by4 f (p + 10))))), (9, .int (nI (p + 14 + by4 f (p + 10) + 2))), (10, .int (nI (p + 14 + by4 f (p + 10) + 2 + 8 * by2 f (p + 14 + by4 f (p + 10))))), (13, .int (nI i))], [.int (nI x), .ref (q 40)], M19)) rfl rfl rfl ?_
          refine ps_st (S' := (372, [(0, .ref m0), (2, .int (nI (p + 6))), (4, .int (nI x)), (5, .long (nL (by4 f (p + 10)))), (8, .int (nI (by2 f (p + 14 + by4 f (p + 10))))), (9, .int (nI (p + 14 + by4 f (p + 10) + 2))), (10, .int (nI (p + 14 + by4 f (p + 10) + 2 + 8 * by2 f (p + 14 + by4 f (p + 10))))), (13, .int (nI i))], [.ref m0, .int (nI x), .ref (q 40)], M19)) rfl rfl rfl ?_
          refine ps_st (S' := (373, [(0, .ref m0), (2, .int (nI (p + 6))), (4, .int (nI x)), (5, .long (nL (by4 f (p + 10)))), (8, .int (nI (by2 f (p + 14 + by4 f (p + 10))))), (9, .int (nI (p + 14 + by4 f (p + 10) + 2))), (10, .int (nI (p + 14 + by4 f (p + 10) + 2 + 8 * by2 f (p + 14 + by4 f (p + 10))))), (13, .int (nI i))], [.int (nI (p + 6)), .ref m0, .int (nI x), .ref (q 40)], M19)) rfl rfl rfl ?_
          refine ps_st (S' := (374, [(0, .ref m0), (2, .int (nI (p + 6))), (4, .int (nI x)), (5, .long (nL (by4 f (p + 10)))), (8, .int (nI (by2 f (p + 14 + by4 f (p + 10))))), (9, .int (nI (p + 14 + by4 f (p + 10) + 2))), (10, .int (nI (p + 14 + by4 f (p + 10) + 2 + 8 * by2 f (p + 14 + by4 f (p + 10))))), (13, .int (nI i))], [.int 2, .int (nI (p + 6)), .ref m0, .int (nI x), .ref (q 40)], M19)) rfl rfl rfl ?_
          refine ps_st (S' := (375, [(0, .ref m0), (2, .int (nI (p + 6))), (4, .int (nI x)), (5, .long (nL (by4 f (p + 10)))), (8, .int (nI (by2 f (p + 14 + by4 f (p + 10))))), (9, .int (nI (p + 14 + by4 f (p + 10) + 2))), (10, .int (nI (p + 14 + by4 f (p + 10) + 2 + 8 * by2 f (p + 14 + by4 f (p + 10))))), (13, .int (nI i))], [.int ((nI (p + 6)) + 2), .ref m0, .int (nI x), .ref (q 40)], M19)) rfl rfl rfl ?_
          rw [nI_add1 (p := p + 6) (k := 2) (x := 2) rfl (by omega)]
          show pl _ _ _ (_, [(0, .ref m0), (2, .int (nI (p + 6))), (4, .int (nI x)), (5, .long (nL (by4 f (p + 10)))), (8, .int (nI (by2 f (p + 14 + by4 f (p + 10))))), (9, .int (nI (p + 14 + by4 f (p + 10) + 2))), (10, .int (nI (p + 14 + by4 f (p + 10) + 2 + 8 * by2 f (p + 14 + by4 f (p + 10))))), (13, .int (nI i))], [.int (nI (p + 8)), .ref m0, .int (nI x), .ref (q 40)], M19) _
          refine pl_call (a := [.ref m0, .int (nI (p + 8))]) (rest := [.int (nI x), .ref (q 40)]) rfl rfl rfl (rd_u2 (n := n) (f := f) (p := (p + 8)) hR21 hF_23 (by omega)) (fun v28 M29 q30 => ?_)
          obtain ⟨rfl, rfl⟩ := q30
          show pl _ _ _ (378, [(0, .ref m0), (2, .int (nI (p + 6))), (4, .int (nI x)), (5, .long (nL (by4 f (p + 10)))), (8, .int (nI (by2 f (p + 14 + by4 f (p + 10))))), (9, .int (nI (p + 14 + by4 f (p + 10) + 2))), (10, .int (nI (p + 14 + by4 f (p + 10) + 2 + 8 * by2 f (p + 14 + by4 f (p + 10))))), (13, .int (nI i))], [.int (nI (by2 f (p + 8))), .int (nI x), .ref (q 40)], M19) _
          have hu_375 := by2_lt f (p + 8)
          refine pr_st (a := 40) (j := x) rfl hR21 rfl (by omega) (fun M31 R32 i1_378 hR33 hS34 => ?_)
          have hF_35 := hF_23.mono (fun _ _ => rfl) (rRx hS34 (by decide))
          have hY_36 := hY_24.mono (fun _ _ => rfl) (rRx hS34 (by decide))
          have hP_37 := hP_25.mono (fun _ _ => rfl) (rRx hS34 (by decide))
          have hK_38 := hK_26.mono (fun _ _ => rfl) (rRx hS34 (by decide))
          have hER39 := hER27.st hS34 (by decide)
          show pl _ _ _ (379, [(0, .ref m0), (2, .int (nI (p + 6))), (4, .int (nI x)), (5, .long (nL (by4 f (p + 10)))), (8, .int (nI (by2 f (p + 14 + by4 f (p + 10))))), (9, .int (nI (p + 14 + by4 f (p + 10) + 2))), (10, .int (nI (p + 14 + by4 f (p + 10) + 2 + 8 * by2 f (p + 14 + by4 f (p + 10))))), (13, .int (nI i))], [], M31) _
          refine ps_st (S' := (380, [(0, .ref m0), (2, .int (nI (p + 6))), (4, .int (nI x)), (5, .long (nL (by4 f (p + 10)))), (8, .int (nI (by2 f (p + 14 + by4 f (p + 10))))), (9, .int (nI (p + 14 + by4 f (p + 10) + 2))), (10, .int (nI (p + 14 + by4 f (p + 10) + 2 + 8 * by2 f (p + 14 + by4 f (p + 10))))), (13, .int (nI i))], [.ref m0], M31)) rfl rfl rfl ?_
          refine pr_ref (j := 38) (S' := (383, [(0, .ref m0), (2, .int (nI (p + 6))), (4, .int (nI x)), (5, .long (nL (by4 f (p + 10)))), (8, .int (nI (by2 f (p + 14 + by4 f (p + 10))))), (9, .int (nI (p + 14 + by4 f (p + 10) + 2))), (10, .int (nI (p + 14 + by4 f (p + 10) + 2 + 8 * by2 f (p + 14 + by4 f (p + 10))))), (13, .int (nI i))], [.ref (q 38)], M31)) rfl hR33 rfl rfl ?_
          refine ps_st (S' := (385, [(0, .ref m0), (2, .int (nI (p + 6))), (4, .int (nI x)), (5, .long (nL (by4 f (p + 10)))), (8, .int (nI (by2 f (p + 14 + by4 f (p + 10))))), (9, .int (nI (p + 14 + by4 f (p + 10) + 2))), (10, .int (nI (p + 14 + by4 f (p + 10) + 2 + 8 * by2 f (p + 14 + by4 f (p + 10))))), (13, .int (nI i))], [.int (nI x), .ref (q 38)], M31)) rfl rfl rfl ?_
          refine ps_st (S' := (387, [(0, .ref m0), (2, .int (nI (p + 6))), (4, .int (nI x)), (5, .long (nL (by4 f (p + 10)))), (8, .int (nI (by2 f (p + 14 + by4 f (p + 10))))), (9, .int (nI (p + 14 + by4 f (p + 10) + 2))), (10, .int (nI (p + 14 + by4 f (p + 10) + 2 + 8 * by2 f (p + 14 + by4 f (p + 10))))), (13, .int (nI i))], [.long (nL (by4 f (p + 10))), .int (nI x), .ref (q 38)], M31)) rfl rfl rfl ?_
          refine ps_st (S' := (388, [(0, .ref m0), (2, .int (nI (p + 6))), (4, .int (nI x)), (5, .long (nL (by4 f (p + 10)))), (8, .int (nI (by2 f (p + 14 + by4 f (p + 10))))), (9, .int (nI (p + 14 + by4 f (p + 10) + 2))), (10, .int (nI (p + 14 + by4 f (p + 10) + 2 + 8 * by2 f (p + 14 + by4 f (p + 10))))), (13, .int (nI i))], [.int (Int64.toInt32 (nL (by4 f (p + 10)))), .int (nI x), .ref (q 38)], M31)) rfl rfl rfl ?_
          rw [l2i_nL (p := by4 f (p + 10)) (by omega)]
          show pl _ _ _ (_, [(0, .ref m0), (2, .int (nI (p + 6))), (4, .int (nI x)), (5, .long (nL (by4 f (p + 10)))), (8, .int (nI (by2 f (p + 14 + by4 f (p + 10))))), (9, .int (nI (p + 14 + by4 f (p + 10) + 2))), (10, .int (nI (p + 14 + by4 f (p + 10) + 2 + 8 * by2 f (p + 14 + by4 f (p + 10))))), (13, .int (nI i))], [.int (nI (by4 f (p + 10))), .int (nI x), .ref (q 38)], M31) _
          refine pr_st (a := 38) (j := x) rfl hR33 rfl (by omega) (fun M40 R41 i1_388 hR42 hS43 => ?_)
          have hF_44 := hF_35.mono (fun _ _ => rfl) (rRx hS43 (by decide))
          have hY_45 := hY_36.mono (fun _ _ => rfl) (rRx hS43 (by decide))
          have hP_46 := hP_37.mono (fun _ _ => rfl) (rRx hS43 (by decide))
          have hK_47 := hK_38.mono (fun _ _ => rfl) (rRx hS43 (by decide))
          have hER48 := hER39.st hS43 (by decide)
          show pl _ _ _ (389, [(0, .ref m0), (2, .int (nI (p + 6))), (4, .int (nI x)), (5, .long (nL (by4 f (p + 10)))), (8, .int (nI (by2 f (p + 14 + by4 f (p + 10))))), (9, .int (nI (p + 14 + by4 f (p + 10) + 2))), (10, .int (nI (p + 14 + by4 f (p + 10) + 2 + 8 * by2 f (p + 14 + by4 f (p + 10))))), (13, .int (nI i))], [], M40) _
          refine ps_st (S' := (390, [(0, .ref m0), (2, .int (nI (p + 6))), (4, .int (nI x)), (5, .long (nL (by4 f (p + 10)))), (8, .int (nI (by2 f (p + 14 + by4 f (p + 10))))), (9, .int (nI (p + 14 + by4 f (p + 10) + 2))), (10, .int (nI (p + 14 + by4 f (p + 10) + 2 + 8 * by2 f (p + 14 + by4 f (p + 10))))), (13, .int (nI i))], [.ref m0], M40)) rfl rfl rfl ?_
          refine pr_ref (j := 37) (S' := (393, [(0, .ref m0), (2, .int (nI (p + 6))), (4, .int (nI x)), (5, .long (nL (by4 f (p + 10)))), (8, .int (nI (by2 f (p + 14 + by4 f (p + 10))))), (9, .int (nI (p + 14 + by4 f (p + 10) + 2))), (10, .int (nI (p + 14 + by4 f (p + 10) + 2 + 8 * by2 f (p + 14 + by4 f (p + 10))))), (13, .int (nI i))], [.ref (q 37)], M40)) rfl hR42 rfl rfl ?_
          refine ps_st (S' := (395, [(0, .ref m0), (2, .int (nI (p + 6))), (4, .int (nI x)), (5, .long (nL (by4 f (p + 10)))), (8, .int (nI (by2 f (p + 14 + by4 f (p + 10))))), (9, .int (nI (p + 14 + by4 f (p + 10) + 2))), (10, .int (nI (p + 14 + by4 f (p + 10) + 2 + 8 * by2 f (p + 14 + by4 f (p + 10))))), (13, .int (nI i))], [.int (nI x), .ref (q 37)], M40)) rfl rfl rfl ?_
          refine ps_st (S' := (396, [(0, .ref m0), (2, .int (nI (p + 6))), (4, .int (nI x)), (5, .long (nL (by4 f (p + 10)))), (8, .int (nI (by2 f (p + 14 + by4 f (p + 10))))), (9, .int (nI (p + 14 + by4 f (p + 10) + 2))), (10, .int (nI (p + 14 + by4 f (p + 10) + 2 + 8 * by2 f (p + 14 + by4 f (p + 10))))), (13, .int (nI i))], [.ref m0, .int (nI x), .ref (q 37)], M40)) rfl rfl rfl ?_
          refine pr_int (j := 49) (S' := (399, [(0, .ref m0), (2, .int (nI (p + 6))), (4, .int (nI x)), (5, .long (nL (by4 f (p + 10)))), (8, .int (nI (by2 f (p + 14 + by4 f (p + 10))))), (9, .int (nI (p + 14 + by4 f (p + 10) + 2))), (10, .int (nI (p + 14 + by4 f (p + 10) + 2 + 8 * by2 f (p + 14 + by4 f (p + 10))))), (13, .int (nI i))], [.int 0, .int (nI x), .ref (q 37)], M40)) rfl hR42 rfl hF_44.2.1 rfl ?_
          refine ps_st (S' := (400, [(0, .ref m0), (2, .int (nI (p + 6))), (4, .int (nI x)), (5, .long (nL (by4 f (p + 10)))), (8, .int (nI (by2 f (p + 14 + by4 f (p + 10))))), (9, .int (nI (p + 14 + by4 f (p + 10) + 2))), (10, .int (nI (p + 14 + by4 f (p + 10) + 2 + 8 * by2 f (p + 14 + by4 f (p + 10))))), (13, .int (nI i))], [.int (nI (p + 6)), .int 0, .int (nI x), .ref (q 37)], M40)) rfl rfl rfl ?_
          refine ps_st (S' := (401, [(0, .ref m0), (2, .int (nI (p + 6))), (4, .int (nI x)), (5, .long (nL (by4 f (p + 10)))), (8, .int (nI (by2 f (p + 14 + by4 f (p + 10))))), (9, .int (nI (p + 14 + by4 f (p + 10) + 2))), (10, .int (nI (p + 14 + by4 f (p + 10) + 2 + 8 * by2 f (p + 14 + by4 f (p + 10))))), (13, .int (nI i))], [.int (0 + (nI (p + 6))), .int (nI x), .ref (q 37)], M40)) rfl rfl rfl ?_
          rw [show (0 : Int32) + (nI (p + 6)) = (nI (p + 6)) from Int32.zero_add _]
          show pl _ _ _ (_, [(0, .ref m0), (2, .int (nI (p + 6))), (4, .int (nI x)), (5, .long (nL (by4 f (p + 10)))), (8, .int (nI (by2 f (p + 14 + by4 f (p + 10))))), (9, .int (nI (p + 14 + by4 f (p + 10) + 2))), (10, .int (nI (p + 14 + by4 f (p + 10) + 2 + 8 * by2 f (p + 14 + by4 f (p + 10))))), (13, .int (nI i))], [.int (nI (p + 6)), .int (nI x), .ref (q 37)], M40) _
          refine ps_st (S' := (403, [(0, .ref m0), (2, .int (nI (p + 6))), (4, .int (nI x)), (5, .long (nL (by4 f (p + 10)))), (8, .int (nI (by2 f (p + 14 + by4 f (p + 10))))), (9, .int (nI (p + 14 + by4 f (p + 10) + 2))), (10, .int (nI (p + 14 + by4 f (p + 10) + 2 + 8 * by2 f (p + 14 + by4 f (p + 10))))), (13, .int (nI i))], [.int 8, .int (nI (p + 6)), .int (nI x), .ref (q 37)], M40)) rfl rfl rfl ?_
          refine ps_st (S' := (404, [(0, .ref m0), (2, .int (nI (p + 6))), (4, .int (nI x)), (5, .long (nL (by4 f (p + 10)))), (8, .int (nI (by2 f (p + 14 + by4 f (p + 10))))), (9, .int (nI (p + 14 + by4 f (p + 10) + 2))), (10, .int (nI (p + 14 + by4 f (p + 10) + 2 + 8 * by2 f (p + 14 + by4 f (p + 10))))), (13, .int (nI i))], [.int ((nI (p + 6)) + 8), .int (nI x), .ref (q 37)], M40)) rfl rfl rfl ?_
          rw [nI_add1 (p := p + 6) (k := 8) (x := 8) rfl (by omega)]
          show pl _ _ _ (_, [(0, .ref m0), (2, .int (nI (p + 6))), (4, .int (nI x)), (5, .long (nL (by4 f (p + 10)))), (8, .int (nI (by2 f (p + 14 + by4 f (p + 10))))), (9, .int (nI (p + 14 + by4 f (p + 10) + 2))), (10, .int (nI (p + 14 + by4 f (p + 10) + 2 + 8 * by2 f (p + 14 + by4 f (p + 10))))), (13, .int (nI i))], [.int (nI (p + 14)), .int (nI x), .ref (q 37)], M40) _
          refine pr_st (a := 37) (j := x) rfl hR42 rfl (by omega) (fun M49 R50 i1_404 hR51 hS52 => ?_)
          have hF_53 := hF_44.mono (fun _ _ => rfl) (rRx hS52 (by decide))
          have hY_54 := hY_45.mono (fun _ _ => rfl) (rRx hS52 (by decide))
          have hP_55 := hP_46.mono (fun _ _ => rfl) (rRx hS52 (by decide))
          have hK_56 := hK_47.mono (fun _ _ => rfl) (rRx hS52 (by decide))
          have hER57 := hER48.st hS52 (by decide)
          show pl _ _ _ (405, [(0, .ref m0), (2, .int (nI (p + 6))), (4, .int (nI x)), (5, .long (nL (by4 f (p + 10)))), (8, .int (nI (by2 f (p + 14 + by4 f (p + 10))))), (9, .int (nI (p + 14 + by4 f (p + 10) + 2))), (10, .int (nI (p + 14 + by4 f (p + 10) + 2 + 8 * by2 f (p + 14 + by4 f (p + 10))))), (13, .int (nI i))], [], M49) _
          refine ps_st (S' := (406, [(0, .ref m0), (2, .int (nI (p + 6))), (4, .int (nI x)), (5, .long (nL (by4 f (p + 10)))), (8, .int (nI (by2 f (p + 14 + by4 f (p + 10))))), (9, .int (nI (p + 14 + by4 f (p + 10) + 2))), (10, .int (nI (p + 14 + by4 f (p + 10) + 2 + 8 * by2 f (p + 14 + by4 f (p + 10))))), (13, .int (nI i))], [.ref m0], M49)) rfl rfl rfl ?_
          refine pr_ref (j := 41) (S' := (409, [(0, .ref m0), (2, .int (nI (p + 6))), (4, .int (nI x)), (5, .long (nL (by4 f (p + 10)))), (8, .int (nI (by2 f (p + 14 + by4 f (p + 10))))), (9, .int (nI (p + 14 + by4 f (p + 10) + 2))), (10, .int (nI (p + 14 + by4 f (p + 10) + 2 + 8 * by2 f (p + 14 + by4 f (p + 10))))), (13, .int (nI i))], [.ref (q 41)], M49)) rfl hR51 rfl rfl ?_
          refine ps_st (S' := (411, [(0, .ref m0), (2, .int (nI (p + 6))), (4, .int (nI x)), (5, .long (nL (by4 f (p + 10)))), (8, .int (nI (by2 f (p + 14 + by4 f (p + 10))))), (9, .int (nI (p + 14 + by4 f (p + 10) + 2))), (10, .int (nI (p + 14 + by4 f (p + 10) + 2 + 8 * by2 f (p + 14 + by4 f (p + 10))))), (13, .int (nI i))], [.int (nI x), .ref (q 41)], M49)) rfl rfl rfl ?_
          refine ps_st (S' := (412, [(0, .ref m0), (2, .int (nI (p + 6))), (4, .int (nI x)), (5, .long (nL (by4 f (p + 10)))), (8, .int (nI (by2 f (p + 14 + by4 f (p + 10))))), (9, .int (nI (p + 14 + by4 f (p + 10) + 2))), (10, .int (nI (p + 14 + by4 f (p + 10) + 2 + 8 * by2 f (p + 14 + by4 f (p + 10))))), (13, .int (nI i))], [.ref m0, .int (nI x), .ref (q 41)], M49)) rfl rfl rfl ?_
          refine pr_int (j := 49) (S' := (415, [(0, .ref m0), (2, .int (nI (p + 6))), (4, .int (nI x)), (5, .long (nL (by4 f (p + 10)))), (8, .int (nI (by2 f (p + 14 + by4 f (p + 10))))), (9, .int (nI (p + 14 + by4 f (p + 10) + 2))), (10, .int (nI (p + 14 + by4 f (p + 10) + 2 + 8 * by2 f (p + 14 + by4 f (p + 10))))), (13, .int (nI i))], [.int 0, .int (nI x), .ref (q 41)], M49)) rfl hR51 rfl hF_44.2.1 rfl ?_
          refine ps_st (S' := (417, [(0, .ref m0), (2, .int (nI (p + 6))), (4, .int (nI x)), (5, .long (nL (by4 f (p + 10)))), (8, .int (nI (by2 f (p + 14 + by4 f (p + 10))))), (9, .int (nI (p + 14 + by4 f (p + 10) + 2))), (10, .int (nI (p + 14 + by4 f (p + 10) + 2 + 8 * by2 f (p + 14 + by4 f (p + 10))))), (13, .int (nI i))], [.int (nI (p + 14 + by4 f (p + 10) + 2)), .int 0, .int (nI x), .ref (q 41)], M49)) rfl rfl rfl ?_
          refine ps_st (S' := (418, [(0, .ref m0), (2, .int (nI (p + 6))), (4, .int (nI x)), (5, .long (nL (by4 f (p + 10)))), (8, .int (nI (by2 f (p + 14 + by4 f (p + 10))))), (9, .int (nI (p + 14 + by4 f (p + 10) + 2))), (10, .int (nI (p + 14 + by4 f (p + 10) + 2 + 8 * by2 f (p + 14 + by4 f (p + 10))))), (13, .int (nI i))], [.int (0 + (nI (p + 14 + by4 f (p + 10) + 2))), .int (nI x), .ref (q 41)], M49)) rfl rfl rfl ?_
          rw [show (0 : Int32) + (nI (p + 14 + by4 f (p + 10) + 2)) = (nI (p + 14 + by4 f (p + 10) + 2)) from Int32.zero_add _]
          show pl _ _ _ (_, [(0, .ref m0), (2, .int (nI (p + 6))), (4, .int (nI x)), (5, .long (nL (by4 f (p + 10)))), (8, .int (nI (by2 f (p + 14 + by4 f (p + 10))))), (9, .int (nI (p + 14 + by4 f (p + 10) + 2))), (10, .int (nI (p + 14 + by4 f (p + 10) + 2 + 8 * by2 f (p + 14 + by4 f (p + 10))))), (13, .int (nI i))], [.int (nI (p + 14 + by4 f (p + 10) + 2)), .int (nI x), .ref (q 41)], M49) _
          refine pr_st (a := 41) (j := x) rfl hR51 rfl (by omega) (fun M58 R59 i1_418 hR60 hS61 => ?_)
          have hF_62 := hF_53.mono (fun _ _ => rfl) (rRx hS61 (by decide))
          have hY_63 := hY_54.mono (fun _ _ => rfl) (rRx hS61 (by decide))
          have hP_64 := hP_55.mono (fun _ _ => rfl) (rRx hS61 (by decide))
          have hK_65 := hK_56.mono (fun _ _ => rfl) (rRx hS61 (by decide))
          have hER66 := hER57.st hS61 (by decide)
          show pl _ _ _ (419, [(0, .ref m0), (2, .int (nI (p + 6))), (4, .int (nI x)), (5, .long (nL (by4 f (p + 10)))), (8, .int (nI (by2 f (p + 14 + by4 f (p + 10))))), (9, .int (nI (p + 14 + by4 f (p + 10) + 2))), (10, .int (nI (p + 14 + by4 f (p + 10) + 2 + 8 * by2 f (p + 14 + by4 f (p + 10))))), (13, .int (nI i))], [], M58) _
          refine ps_st (S' := (420, [(0, .ref m0), (2, .int (nI (p + 6))), (4, .int (nI x)), (5, .long (nL (by4 f (p + 10)))), (8, .int (nI (by2 f (p + 14 + by4 f (p + 10))))), (9, .int (nI (p + 14 + by4 f (p + 10) + 2))), (10, .int (nI (p + 14 + by4 f (p + 10) + 2 + 8 * by2 f (p + 14 + by4 f (p + 10))))), (13, .int (nI i))], [.ref m0], M58)) rfl rfl rfl ?_
          refine pr_ref (j := 42) (S' := (423, [(0, .ref m0), (2, .int (nI (p + 6))), (4, .int (nI x)), (5, .long (nL (by4 f (p + 10)))), (8, .int (nI (by2 f (p + 14 + by4 f (p + 10))))), (9, .int (nI (p + 14 + by4 f (p + 10) + 2))), (10, .int (nI (p + 14 + by4 f (p + 10) + 2 + 8 * by2 f (p + 14 + by4 f (p + 10))))), (13, .int (nI i))], [.ref (q 42)], M58)) rfl hR60 rfl rfl ?_
          refine ps_st (S' := (425, [(0, .ref m0), (2, .int (nI (p + 6))), (4, .int (nI x)), (5, .long (nL (by4 f (p + 10)))), (8, .int (nI (by2 f (p + 14 + by4 f (p + 10))))), (9, .int (nI (p + 14 + by4 f (p + 10) + 2))), (10, .int (nI (p + 14 + by4 f (p + 10) + 2 + 8 * by2 f (p + 14 + by4 f (p + 10))))), (13, .int (nI i))], [.int (nI x), .ref (q 42)], M58)) rfl rfl rfl ?_
          refine ps_st (S' := (427, [(0, .ref m0), (2, .int (nI (p + 6))), (4, .int (nI x)), (5, .long (nL (by4 f (p + 10)))), (8, .int (nI (by2 f (p + 14 + by4 f (p + 10))))), (9, .int (nI (p + 14 + by4 f (p + 10) + 2))), (10, .int (nI (p + 14 + by4 f (p + 10) + 2 + 8 * by2 f (p + 14 + by4 f (p + 10))))), (13, .int (nI i))], [.int (nI (by2 f (p + 14 + by4 f (p + 10)))), .int (nI x), .ref (q 42)], M58)) rfl rfl rfl ?_
          refine pr_st (a := 42) (j := x) rfl hR60 rfl (by omega) (fun M67 R68 i1_427 hR69 hS70 => ?_)
          have hF_71 := hF_62.mono (fun _ _ => rfl) (rRx hS70 (by decide))
          have hY_72 := hY_63.mono (fun _ _ => rfl) (rRx hS70 (by decide))
          have hP_73 := hP_64.mono (fun _ _ => rfl) (rRx hS70 (by decide))
          have hK_74 := hK_65.mono (fun _ _ => rfl) (rRx hS70 (by decide))
          have hER75 := hER66.st hS70 (by decide)
          show pl _ _ _ (428, [(0, .ref m0), (2, .int (nI (p + 6))), (4, .int (nI x)), (5, .long (nL (by4 f (p + 10)))), (8, .int (nI (by2 f (p + 14 + by4 f (p + 10))))), (9, .int (nI (p + 14 + by4 f (p + 10) + 2))), (10, .int (nI (p + 14 + by4 f (p + 10) + 2 + 8 * by2 f (p + 14 + by4 f (p + 10))))), (13, .int (nI i))], [], M67) _
          refine ps_st (S' := (429, [(0, .ref m0), (2, .int (nI (p + 6))), (4, .int (nI x)), (5, .long (nL (by4 f (p + 10)))), (8, .int (nI (by2 f (p + 14 + by4 f (p + 10))))), (9, .int (nI (p + 14 + by4 f (p + 10) + 2))), (10, .int (nI (p + 14 + by4 f (p + 10) + 2 + 8 * by2 f (p + 14 + by4 f (p + 10))))), (13, .int (nI i))], [.ref m0], M67)) rfl rfl rfl ?_
          refine ps_st (S' := (431, [(0, .ref m0), (2, .int (nI (p + 6))), (4, .int (nI x)), (5, .long (nL (by4 f (p + 10)))), (8, .int (nI (by2 f (p + 14 + by4 f (p + 10))))), (9, .int (nI (p + 14 + by4 f (p + 10) + 2))), (10, .int (nI (p + 14 + by4 f (p + 10) + 2 + 8 * by2 f (p + 14 + by4 f (p + 10))))), (13, .int (nI i))], [.int (nI (p + 14 + by4 f (p + 10) + 2 + 8 * by2 f (p + 14 + by4 f (p + 10)))), .ref m0], M67)) rfl rfl rfl ?_
          refine ps_st (S' := (432, [(0, .ref m0), (2, .int (nI (p + 6))), (4, .int (nI x)), (5, .long (nL (by4 f (p + 10)))), (8, .int (nI (by2 f (p + 14 + by4 f (p + 10))))), (9, .int (nI (p + 14 + by4 f (p + 10) + 2))), (10, .int (nI (p + 14 + by4 f (p + 10) + 2 + 8 * by2 f (p + 14 + by4 f (p + 10))))), (13, .int (nI i))], [.int 3, .int (nI (p + 14 + by4 f (p + 10) + 2 + 8 * by2 f (p + 14 + by4 f (p + 10)))), .ref m0], M67)) rfl rfl rfl ?_
          refine ps_st (S' := (434, [(0, .ref m0), (2, .int (nI (p + 6))), (4, .int (nI x)), (5, .long (nL (by4 f (p + 10)))), (8, .int (nI (by2 f (p + 14 + by4 f (p + 10))))), (9, .int (nI (p + 14 + by4 f (p + 10) + 2))), (10, .int (nI (p + 14 + by4 f (p + 10) + 2 + 8 * by2 f (p + 14 + by4 f (p + 10))))), (13, .int (nI i))], [.int (nI x), .int 3, .int (nI (p + 14 + by4 f (p + 10) + 2 + 8 * by2 f (p + 14 + by4 f (p + 10)))), .ref m0], M67)) rfl rfl rfl ?_
          have h37a : R68 37 x = some (nI (p + 14)) := by rw [hS70, rset_ne (by decide), hS61, rset_ne (by decide), hS52, rset_at]
          have hcd := (s_cdE_in hce).2.2
          refine pl_call (a := [.ref m0, .int (nI (p + 14 + by4 f (p + 10) + 2 + 8 * by2 f (p + 14 + by4 f (p + 10)))), .int 3, .int (nI x)]) (rest := []) rfl rfl rfl (rd_checkAttributes3 (n := n) (f := f) (tx := tx) (cN := cN) (A := A) (N := N) (mj := mj) (E := E) (p1 := (p + 14 + by4 f (p + 10) + 2 + 8 * by2 f (p + 14 + by4 f (p + 10)))) (e := e) (x := x) hR69 hl51 hl52 hl53 hF_71 hY_72 hP_73 hK_74 (hEP) (hN) (hmj) (by omega) (hcd)) (fun v76 M77 q78 => ?_)
          rcases q78 with q78 | q78
          · skip
            obtain ⟨e979, I80, R81, q434_s, rfl, hR82, hI83, hX84, hi85, hi86⟩ := q78
            have hi87 := (hI83 51 (by decide)).trans hl51
            have hi88 := (hI83 52 (by decide)).trans hl52
            have hi89 := (hI83 53 (by decide)).trans hl53
            have hi90 := (hI83 49 (by decide)).trans hF_44.2.1
            have hF_91 := hF_71.mono (cIx hI83 (by decide)) (cRx hX84 (by decide))
            have hY_92 := hY_72.mono (cIx hI83 (by decide)) (cRx hX84 (by decide))
            have hP_93 := hP_73.mono (cIx hI83 (by decide)) (cRx hX84 (by decide))
            have hK_94 := hK_74.mono (cIx hI83 (by decide)) (cRx hX84 (by decide))
            have hEI95 := hEI1.tr hI83 (by decide)
            have hER96 := hER75.tr hX84 (by decide)
            show pl _ _ _ (437, [(0, .ref m0), (2, .int (nI (p + 6))), (4, .int (nI x)), (5, .long (nL (by4 f (p + 10)))), (8, .int (nI (by2 f (p + 14 + by4 f (p + 10))))), (9, .int (nI (p + 14 + by4 f (p + 10) + 2))), (10, .int (nI (p + 14 + by4 f (p + 10) + 2 + 8 * by2 f (p + 14 + by4 f (p + 10))))), (13, .int (nI i))], [.int (-1)], M77) _
            refine ps_if (S1 := (444, [(0, .ref m0), (2, .int (nI (p + 6))), (4, .int (nI x)), (5, .long (nL (by4 f (p + 10)))), (8, .int (nI (by2 f (p + 14 + by4 f (p + 10))))), (9, .int (nI (p + 14 + by4 f (p + 10) + 2))), (10, .int (nI (p + 14 + by4 f (p + 10) + 2 + 8 * by2 f (p + 14 + by4 f (p + 10))))), (13, .int (nI i))], [], M77)) (S2 := (440, [(0, .ref m0), (2, .int (nI (p + 6))), (4, .int (nI x)), (5, .long (nL (by4 f (p + 10)))), (8, .int (nI (by2 f (p + 14 + by4 f (p + 10))))), (9, .int (nI (p + 14 + by4 f (p + 10) + 2))), (10, .int (nI (p + 14 + by4 f (p + 10) + 2 + 8 * by2 f (p + 14 + by4 f (p + 10))))), (13, .int (nI i))], [], M77)) rfl rfl rfl (fun c_437 => ?_) (fun c_437 => ?_)
            · exact absurd (of_decide_eq_true c_437) (by decide)
            refine ps_st (S' := (441, [(0, .ref m0), (2, .int (nI (p + 6))), (4, .int (nI x)), (5, .long (nL (by4 f (p + 10)))), (8, .int (nI (by2 f (p + 14 + by4 f (p + 10))))), (9, .int (nI (p + 14 + by4 f (p + 10) + 2))), (10, .int (nI (p + 14 + by4 f (p + 10) + 2 + 8 * by2 f (p + 14 + by4 f (p + 10))))), (13, .int (nI i))], [.int (-1)], M77)) rfl rfl rfl ?_
            refine ps_st (S' := (445, [], [.int (-1)], M77)) rfl rfl rfl ?_
            exact ps_ret rfl rfl (Or.inr (Or.inr (Or.inl ⟨e979, I80, R81, hce, by
                unfold cdS
                rw [if_neg h41, if_neg h42, if_neg (by rw [← hw9, show by2 f (p + 14 + by4 f (p + 10)) - i = 0 by omega]; exact Nat.one_ne_zero)]
                exact q434_s, rfl, hR82, hEI95, hER96, hi85, hi86⟩)))
          · skip
            obtain ⟨s'97, I98, R99, q434_s, rfl, hR100, hI101, hX102⟩ := q78
            have hi103 := (hI101 51 (by decide)).trans hl51
            have hi104 := (hI101 52 (by decide)).trans hl52
            have hi105 := (hI101 53 (by decide)).trans hl53
            have hi106 := (hI101 49 (by decide)).trans hF_44.2.1
            have hF_107 := hF_71.mono (cIx hI101 (by decide)) (cRx hX102 (by decide))
            have hY_108 := hY_72.mono (cIx hI101 (by decide)) (cRx hX102 (by decide))
            have hP_109 := hP_73.mono (cIx hI101 (by decide)) (cRx hX102 (by decide))
            have hK_110 := hK_74.mono (cIx hI101 (by decide)) (cRx hX102 (by decide))
            have hEI111 := hEI1.tr hI101 (by decide)
            have hER112 := hER75.tr hX102 (by decide)
            show pl _ _ _ (437, [(0, .ref m0), (2, .int (nI (p + 6))), (4, .int (nI x)), (5, .long (nL (by4 f (p + 10)))), (8, .int (nI (by2 f (p + 14 + by4 f (p + 10))))), (9, .int (nI (p + 14 + by4 f (p + 10) + 2))), (10, .int (nI (p + 14 + by4 f (p + 10) + 2 + 8 * by2 f (p + 14 + by4 f (p + 10))))), (13, .int (nI i))], [.int (nI e)], M77) _
            have h37 : R99 37 x = some (nI (p + 14)) := by rw [hX102 37 (by decide)]; exact h37a
            refine ps_if (S1 := (444, [(0, .ref m0), (2, .int (nI (p + 6))), (4, .int (nI x)), (5, .long (nL (by4 f (p + 10)))), (8, .int (nI (by2 f (p + 14 + by4 f (p + 10))))), (9, .int (nI (p + 14 + by4 f (p + 10) + 2))), (10, .int (nI (p + 14 + by4 f (p + 10) + 2 + 8 * by2 f (p + 14 + by4 f (p + 10))))), (13, .int (nI i))], [], M77)) (S2 := (440, [(0, .ref m0), (2, .int (nI (p + 6))), (4, .int (nI x)), (5, .long (nL (by4 f (p + 10)))), (8, .int (nI (by2 f (p + 14 + by4 f (p + 10))))), (9, .int (nI (p + 14 + by4 f (p + 10) + 2))), (10, .int (nI (p + 14 + by4 f (p + 10) + 2 + 8 * by2 f (p + 14 + by4 f (p + 10))))), (13, .int (nI i))], [], M77)) rfl rfl rfl (fun c_437 => ?_) (fun c_437 => ?_)
            rotate_left
            · exact absurd ((le_nI (p := 0) (n := e) (by decide) (by omega)).mpr (by omega)) (of_decide_eq_false c_437)
            refine ps_st (S' := (445, [], [.int 0], M77)) rfl rfl rfl ?_
            exact ps_ret rfl rfl (Or.inr (Or.inr (Or.inr ⟨s'97, I98, R99, hce, by
                unfold cdS
                rw [if_neg h41, if_neg h42, if_neg (by rw [← hw9, show by2 f (p + 14 + by4 f (p + 10)) - i = 0 by omega]; exact Nat.one_ne_zero)]
                exact q434_s, h37, rfl, hR100, hEI111, hER112⟩)))
        · have c_254 : ¬ ((nI (by2 f (p + 14 + by4 f (p + 10)))) ≤ (nI i)) := of_decide_eq_false c_254
          have n_254 : ¬ (by2 f (p + 14 + by4 f (p + 10)) ≤ i) := fun h9 => c_254 ((le_nI (p := by2 f (p + 14 + by4 f (p + 10))) (n := i) (Nat.lt_trans (by2_lt _ _) (by decide)) (by omega)).mpr h9)
          refine ps_st (S' := (259, [(0, .ref m0), (2, .int (nI (p + 6))), (4, .int (nI x)), (5, .long (nL (by4 f (p + 10)))), (8, .int (nI (by2 f (p + 14 + by4 f (p + 10))))), (9, .int (nI (p + 14 + by4 f (p + 10) + 2))), (10, .int (nI (p + 14 + by4 f (p + 10) + 2 + 8 * by2 f (p + 14 + by4 f (p + 10))))), (13, .int (nI i))], [.int (nI (p + 14 + by4 f (p + 10) + 2))], M1)) rfl rfl rfl ?_
          refine ps_st (S' := (261, [(0, .ref m0), (2, .int (nI (p + 6))), (4, .int (nI x)), (5, .long (nL (by4 f (p + 10)))), (8, .int (nI (by2 f (p + 14 + by4 f (p + 10))))), (9, .int (nI (p + 14 + by4 f (p + 10) + 2))), (10, .int (nI (p + 14 + by4 f (p + 10) + 2 + 8 * by2 f (p + 14 + by4 f (p + 10))))), (13, .int (nI i))], [.int 8, .int (nI (p + 14 + by4 f (p + 10) + 2))], M1)) rfl rfl rfl ?_
          refine ps_st (S' := (263, [(0, .ref m0), (2, .int (nI (p + 6))), (4, .int (nI x)), (5, .long (nL (by4 f (p + 10)))), (8, .int (nI (by2 f (p + 14 + by4 f (p + 10))))), (9, .int (nI (p + 14 + by4 f (p + 10) + 2))), (10, .int (nI (p + 14 + by4 f (p + 10) + 2 + 8 * by2 f (p + 14 + by4 f (p + 10))))), (13, .int (nI i))], [.int (nI i), .int 8, .int (nI (p + 14 + by4 f (p + 10) + 2))], M1)) rfl rfl rfl ?_
          refine ps_st (S' := (264, [(0, .ref m0), (2, .int (nI (p + 6))), (4, .int (nI x)), (5, .long (nL (by4 f (p + 10)))), (8, .int (nI (by2 f (p + 14 + by4 f (p + 10))))), (9, .int (nI (p + 14 + by4 f (p + 10) + 2))), (10, .int (nI (p + 14 + by4 f (p + 10) + 2 + 8 * by2 f (p + 14 + by4 f (p + 10))))), (13, .int (nI i))], [.int (8 * (nI i)), .int (nI (p + 14 + by4 f (p + 10) + 2))], M1)) rfl rfl rfl ?_
          rw [nI_mul1 (p := 8) (k := i) (x := 8) (y := (nI i)) rfl rfl (by omega)]
          show pl _ _ _ (_, [(0, .ref m0), (2, .int (nI (p + 6))), (4, .int (nI x)), (5, .long (nL (by4 f (p + 10)))), (8, .int (nI (by2 f (p + 14 + by4 f (p + 10))))), (9, .int (nI (p + 14 + by4 f (p + 10) + 2))), (10, .int (nI (p + 14 + by4 f (p + 10) + 2 + 8 * by2 f (p + 14 + by4 f (p + 10))))), (13, .int (nI i))], [.int (nI (8 * i)), .int (nI (p + 14 + by4 f (p + 10) + 2))], M1) _
          refine ps_st (S' := (265, [(0, .ref m0), (2, .int (nI (p + 6))), (4, .int (nI x)), (5, .long (nL (by4 f (p + 10)))), (8, .int (nI (by2 f (p + 14 + by4 f (p + 10))))), (9, .int (nI (p + 14 + by4 f (p + 10) + 2))), (10, .int (nI (p + 14 + by4 f (p + 10) + 2 + 8 * by2 f (p + 14 + by4 f (p + 10))))), (13, .int (nI i))], [.int ((nI (p + 14 + by4 f (p + 10) + 2)) + (nI (8 * i)))], M1)) rfl rfl rfl ?_
          rw [nI_add1 (p := p + 14 + by4 f (p + 10) + 2) (k := 8 * i) (x := (nI (8 * i))) rfl (by omega)]
          show pl _ _ _ (_, [(0, .ref m0), (2, .int (nI (p + 6))), (4, .int (nI x)), (5, .long (nL (by4 f (p + 10)))), (8, .int (nI (by2 f (p + 14 + by4 f (p + 10))))), (9, .int (nI (p + 14 + by4 f (p + 10) + 2))), (10, .int (nI (p + 14 + by4 f (p + 10) + 2 + 8 * by2 f (p + 14 + by4 f (p + 10))))), (13, .int (nI i))], [.int (nI (p + 14 + by4 f (p + 10) + 2 + 8 * i))], M1) _
          refine ps_st (S' := (267, [(14, .int (nI (p + 14 + by4 f (p + 10) + 2 + 8 * i))), (0, .ref m0), (2, .int (nI (p + 6))), (4, .int (nI x)), (5, .long (nL (by4 f (p + 10)))), (8, .int (nI (by2 f (p + 14 + by4 f (p + 10))))), (9, .int (nI (p + 14 + by4 f (p + 10) + 2))), (10, .int (nI (p + 14 + by4 f (p + 10) + 2 + 8 * by2 f (p + 14 + by4 f (p + 10))))), (13, .int (nI i))], [], M1)) rfl rfl rfl ?_
          refine ps_st (S' := (268, [(14, .int (nI (p + 14 + by4 f (p + 10) + 2 + 8 * i))), (0, .ref m0), (2, .int (nI (p + 6))), (4, .int (nI x)), (5, .long (nL (by4 f (p + 10)))), (8, .int (nI (by2 f (p + 14 + by4 f (p + 10))))), (9, .int (nI (p + 14 + by4 f (p + 10) + 2))), (10, .int (nI (p + 14 + by4 f (p + 10) + 2 + 8 * by2 f (p + 14 + by4 f (p + 10))))), (13, .int (nI i))], [.ref m0], M1)) rfl rfl rfl ?_
          refine ps_st (S' := (270, [(14, .int (nI (p + 14 + by4 f (p + 10) + 2 + 8 * i))), (0, .ref m0), (2, .int (nI (p + 6))), (4, .int (nI x)), (5, .long (nL (by4 f (p + 10)))), (8, .int (nI (by2 f (p + 14 + by4 f (p + 10))))), (9, .int (nI (p + 14 + by4 f (p + 10) + 2))), (10, .int (nI (p + 14 + by4 f (p + 10) + 2 + 8 * by2 f (p + 14 + by4 f (p + 10))))), (13, .int (nI i))], [.int (nI (p + 14 + by4 f (p + 10) + 2 + 8 * i)), .ref m0], M1)) rfl rfl rfl ?_
          refine pl_call (a := [.ref m0, .int (nI (p + 14 + by4 f (p + 10) + 2 + 8 * i))]) (rest := []) rfl rfl rfl (rd_u2 (n := n) (f := f) (p := (p + 14 + by4 f (p + 10) + 2 + 8 * i)) hR1 hF1 (by omega)) (fun v113 M114 q115 => ?_)
          obtain ⟨rfl, rfl⟩ := q115
          show pl _ _ _ (273, [(14, .int (nI (p + 14 + by4 f (p + 10) + 2 + 8 * i))), (0, .ref m0), (2, .int (nI (p + 6))), (4, .int (nI x)), (5, .long (nL (by4 f (p + 10)))), (8, .int (nI (by2 f (p + 14 + by4 f (p + 10))))), (9, .int (nI (p + 14 + by4 f (p + 10) + 2))), (10, .int (nI (p + 14 + by4 f (p + 10) + 2 + 8 * by2 f (p + 14 + by4 f (p + 10))))), (13, .int (nI i))], [.int (nI (by2 f (p + 14 + by4 f (p + 10) + 2 + 8 * i)))], M1) _
          have hu_270 := by2_lt f (p + 14 + by4 f (p + 10) + 2 + 8 * i)
          refine ps_st (S' := (274, [(14, .int (nI (p + 14 + by4 f (p + 10) + 2 + 8 * i))), (0, .ref m0), (2, .int (nI (p + 6))), (4, .int (nI x)), (5, .long (nL (by4 f (p + 10)))), (8, .int (nI (by2 f (p + 14 + by4 f (p + 10))))), (9, .int (nI (p + 14 + by4 f (p + 10) + 2))), (10, .int (nI (p + 14 + by4 f (p + 10) + 2 + 8 * by2 f (p + 14 + by4 f (p + 10))))), (13, .int (nI i))], [.ref m0, .int (nI (by2 f (p + 14 + by4 f (p + 10) + 2 + 8 * i)))], M1)) rfl rfl rfl ?_
          refine ps_st (S' := (276, [(14, .int (nI (p + 14 + by4 f (p + 10) + 2 + 8 * i))), (0, .ref m0), (2, .int (nI (p + 6))), (4, .int (nI x)), (5, .long (nL (by4 f (p + 10)))), (8, .int (nI (by2 f (p + 14 + by4 f (p + 10))))), (9, .int (nI (p + 14 + by4 f (p + 10) + 2))), (10, .int (nI (p + 14 + by4 f (p + 10) + 2 + 8 * by2 f (p + 14 + by4 f (p + 10))))), (13, .int (nI i))], [.int (nI (p + 14 + by4 f (p + 10) + 2 + 8 * i)), .ref m0, .int (nI (by2 f (p + 14 + by4 f (p + 10) + 2 + 8 * i)))], M1)) rfl rfl rfl ?_
          refine ps_st (S' := (277, [(14, .int (nI (p + 14 + by4 f (p + 10) + 2 + 8 * i))), (0, .ref m0), (2, .int (nI (p + 6))), (4, .int (nI x)), (5, .long (nL (by4 f (p + 10)))), (8, .int (nI (by2 f (p + 14 + by4 f (p + 10))))), (9, .int (nI (p + 14 + by4 f (p + 10) + 2))), (10, .int (nI (p + 14 + by4 f (p + 10) + 2 + 8 * by2 f (p + 14 + by4 f (p + 10))))), (13, .int (nI i))], [.int 2, .int (nI (p + 14 + by4 f (p + 10) + 2 + 8 * i)), .ref m0, .int (nI (by2 f (p + 14 + by4 f (p + 10) + 2 + 8 * i)))], M1)) rfl rfl rfl ?_
          refine ps_st (S' := (278, [(14, .int (nI (p + 14 + by4 f (p + 10) + 2 + 8 * i))), (0, .ref m0), (2, .int (nI (p + 6))), (4, .int (nI x)), (5, .long (nL (by4 f (p + 10)))), (8, .int (nI (by2 f (p + 14 + by4 f (p + 10))))), (9, .int (nI (p + 14 + by4 f (p + 10) + 2))), (10, .int (nI (p + 14 + by4 f (p + 10) + 2 + 8 * by2 f (p + 14 + by4 f (p + 10))))), (13, .int (nI i))], [.int ((nI (p + 14 + by4 f (p + 10) + 2 + 8 * i)) + 2), .ref m0, .int (nI (by2 f (p + 14 + by4 f (p + 10) + 2 + 8 * i)))], M1)) rfl rfl rfl ?_
          rw [nI_add1 (p := p + 14 + by4 f (p + 10) + 2 + 8 * i) (k := 2) (x := 2) rfl (by omega)]
          show pl _ _ _ (_, [(14, .int (nI (p + 14 + by4 f (p + 10) + 2 + 8 * i))), (0, .ref m0), (2, .int (nI (p + 6))), (4, .int (nI x)), (5, .long (nL (by4 f (p + 10)))), (8, .int (nI (by2 f (p + 14 + by4 f (p + 10))))), (9, .int (nI (p + 14 + by4 f (p + 10) + 2))), (10, .int (nI (p + 14 + by4 f (p + 10) + 2 + 8 * by2 f (p + 14 + by4 f (p + 10))))), (13, .int (nI i))], [.int (nI (p + 14 + by4 f (p + 10) + 2 + 8 * i + 2)), .ref m0, .int (nI (by2 f (p + 14 + by4 f (p + 10) + 2 + 8 * i)))], M1) _
          refine pl_call (a := [.ref m0, .int (nI (p + 14 + by4 f (p + 10) + 2 + 8 * i + 2))]) (rest := [.int (nI (by2 f (p + 14 + by4 f (p + 10) + 2 + 8 * i)))]) rfl rfl rfl (rd_u2 (n := n) (f := f) (p := (p + 14 + by4 f (p + 10) + 2 + 8 * i + 2)) hR1 hF1 (by omega)) (fun v116 M117 q118 => ?_)
          obtain ⟨rfl, rfl⟩ := q118
          show pl _ _ _ (281, [(14, .int (nI (p + 14 + by4 f (p + 10) + 2 + 8 * i))), (0, .ref m0), (2, .int (nI (p + 6))), (4, .int (nI x)), (5, .long (nL (by4 f (p + 10)))), (8, .int (nI (by2 f (p + 14 + by4 f (p + 10))))), (9, .int (nI (p + 14 + by4 f (p + 10) + 2))), (10, .int (nI (p + 14 + by4 f (p + 10) + 2 + 8 * by2 f (p + 14 + by4 f (p + 10))))), (13, .int (nI i))], [.int (nI (by2 f (p + 14 + by4 f (p + 10) + 2 + 8 * i + 2))), .int (nI (by2 f (p + 14 + by4 f (p + 10) + 2 + 8 * i)))], M1) _
          have hu_278 := by2_lt f (p + 14 + by4 f (p + 10) + 2 + 8 * i + 2)
          refine ps_if2 (S1 := (344, [], [], M1)) (S2 := (284, [(14, .int (nI (p + 14 + by4 f (p + 10) + 2 + 8 * i))), (0, .ref m0), (2, .int (nI (p + 6))), (4, .int (nI x)), (5, .long (nL (by4 f (p + 10)))), (8, .int (nI (by2 f (p + 14 + by4 f (p + 10))))), (9, .int (nI (p + 14 + by4 f (p + 10) + 2))), (10, .int (nI (p + 14 + by4 f (p + 10) + 2 + 8 * by2 f (p + 14 + by4 f (p + 10))))), (13, .int (nI i))], [], M1)) rfl rfl rfl (fun c_281 => ?_) (fun c_281 => ?_)
          · have c_281 : (nI (by2 f (p + 14 + by4 f (p + 10) + 2 + 8 * i + 2))) ≤ (nI (by2 f (p + 14 + by4 f (p + 10) + 2 + 8 * i))) := of_decide_eq_true c_281
            have n_281 : by2 f (p + 14 + by4 f (p + 10) + 2 + 8 * i + 2) ≤ by2 f (p + 14 + by4 f (p + 10) + 2 + 8 * i) := (le_nI (p := by2 f (p + 14 + by4 f (p + 10) + 2 + 8 * i + 2)) (n := by2 f (p + 14 + by4 f (p + 10) + 2 + 8 * i)) (Nat.lt_trans (by2_lt _ _) (by decide)) (Nat.lt_trans (by2_lt _ _) (by decide))).mp c_281
            refine ps_st (S' := (346, [], [.int 43], M1)) rfl rfl rfl ?_
            exact ps_ret rfl rfl (Or.inr (Or.inl ⟨43, I1, R1, hce, by
                unfold cdS
                rw [if_neg h41, if_neg h42, if_pos (by rw [← hw9, rwA_st (i := i) (by omega), if_pos (by unfold rwN; rw [if_neg (by omega)])])], by decide, rfl, hR1, hEI1, hER1⟩))
          · have c_281 : ¬ ((nI (by2 f (p + 14 + by4 f (p + 10) + 2 + 8 * i + 2))) ≤ (nI (by2 f (p + 14 + by4 f (p + 10) + 2 + 8 * i)))) := of_decide_eq_false c_281
            have n_281 : ¬ (by2 f (p + 14 + by4 f (p + 10) + 2 + 8 * i + 2) ≤ by2 f (p + 14 + by4 f (p + 10) + 2 + 8 * i)) := fun h9 => c_281 ((le_nI (p := by2 f (p + 14 + by4 f (p + 10) + 2 + 8 * i + 2)) (n := by2 f (p + 14 + by4 f (p + 10) + 2 + 8 * i)) (Nat.lt_trans (by2_lt _ _) (by decide)) (Nat.lt_trans (by2_lt _ _) (by decide))).mpr h9)
            refine ps_st (S' := (285, [(14, .int (nI (p + 14 + by4 f (p + 10) + 2 + 8 * i))), (0, .ref m0), (2, .int (nI (p + 6))), (4, .int (nI x)), (5, .long (nL (by4 f (p + 10)))), (8, .int (nI (by2 f (p + 14 + by4 f (p + 10))))), (9, .int (nI (p + 14 + by4 f (p + 10) + 2))), (10, .int (nI (p + 14 + by4 f (p + 10) + 2 + 8 * by2 f (p + 14 + by4 f (p + 10))))), (13, .int (nI i))], [.ref m0], M1)) rfl rfl rfl ?_
            refine ps_st (S' := (287, [(14, .int (nI (p + 14 + by4 f (p + 10) + 2 + 8 * i))), (0, .ref m0), (2, .int (nI (p + 6))), (4, .int (nI x)), (5, .long (nL (by4 f (p + 10)))), (8, .int (nI (by2 f (p + 14 + by4 f (p + 10))))), (9, .int (nI (p + 14 + by4 f (p + 10) + 2))), (10, .int (nI (p + 14 + by4 f (p + 10) + 2 + 8 * by2 f (p + 14 + by4 f (p + 10))))), (13, .int (nI i))], [.int (nI (p + 14 + by4 f (p + 10) + 2 + 8 * i)), .ref m0], M1)) rfl rfl rfl ?_
            refine ps_st (S' := (288, [(14, .int (nI (p + 14 + by4 f (p + 10) + 2 + 8 * i))), (0, .ref m0), (2, .int (nI (p + 6))), (4, .int (nI x)), (5, .long (nL (by4 f (p + 10)))), (8, .int (nI (by2 f (p + 14 + by4 f (p + 10))))), (9, .int (nI (p + 14 + by4 f (p + 10) + 2))), (10, .int (nI (p + 14 + by4 f (p + 10) + 2 + 8 * by2 f (p + 14 + by4 f (p + 10))))), (13, .int (nI i))], [.int 2, .int (nI (p + 14 + by4 f (p + 10) + 2 + 8 * i)), .ref m0], M1)) rfl rfl rfl ?_
            refine ps_st (S' := (289, [(14, .int (nI (p + 14 + by4 f (p + 10) + 2 + 8 * i))), (0, .ref m0), (2, .int (nI (p + 6))), (4, .int (nI x)), (5, .long (nL (by4 f (p + 10)))), (8, .int (nI (by2 f (p + 14 + by4 f (p + 10))))), (9, .int (nI (p + 14 + by4 f (p + 10) + 2))), (10, .int (nI (p + 14 + by4 f (p + 10) + 2 + 8 * by2 f (p + 14 + by4 f (p + 10))))), (13, .int (nI i))], [.int ((nI (p + 14 + by4 f (p + 10) + 2 + 8 * i)) + 2), .ref m0], M1)) rfl rfl rfl ?_
            rw [nI_add1 (p := p + 14 + by4 f (p + 10) + 2 + 8 * i) (k := 2) (x := 2) rfl (by omega)]
            show pl _ _ _ (_, [(14, .int (nI (p + 14 + by4 f (p + 10) + 2 + 8 * i))), (0, .ref m0), (2, .int (nI (p + 6))), (4, .int (nI x)), (5, .long (nL (by4 f (p + 10)))), (8, .int (nI (by2 f (p + 14 + by4 f (p + 10))))), (9, .int (nI (p + 14 + by4 f (p + 10) + 2))), (10, .int (nI (p + 14 + by4 f (p + 10) + 2 + 8 * by2 f (p + 14 + by4 f (p + 10))))), (13, .int (nI i))], [.int (nI (p + 14 + by4 f (p + 10) + 2 + 8 * i + 2)), .ref m0], M1) _
            refine pl_call (a := [.ref m0, .int (nI (p + 14 + by4 f (p + 10) + 2 + 8 * i + 2))]) (rest := []) rfl rfl rfl (rd_u2 (n := n) (f := f) (p := (p + 14 + by4 f (p + 10) + 2 + 8 * i + 2)) hR1 hF1 (by omega)) (fun v119 M120 q121 => ?_)
            obtain ⟨rfl, rfl⟩ := q121
            show pl _ _ _ (292, [(14, .int (nI (p + 14 + by4 f (p + 10) + 2 + 8 * i))), (0, .ref m0), (2, .int (nI (p + 6))), (4, .int (nI x)), (5, .long (nL (by4 f (p + 10)))), (8, .int (nI (by2 f (p + 14 + by4 f (p + 10))))), (9, .int (nI (p + 14 + by4 f (p + 10) + 2))), (10, .int (nI (p + 14 + by4 f (p + 10) + 2 + 8 * by2 f (p + 14 + by4 f (p + 10))))), (13, .int (nI i))], [.int (nI (by2 f (p + 14 + by4 f (p + 10) + 2 + 8 * i + 2)))], M1) _
            have hu_289 := by2_lt f (p + 14 + by4 f (p + 10) + 2 + 8 * i + 2)
            refine ps_st (S' := (293, [(14, .int (nI (p + 14 + by4 f (p + 10) + 2 + 8 * i))), (0, .ref m0), (2, .int (nI (p + 6))), (4, .int (nI x)), (5, .long (nL (by4 f (p + 10)))), (8, .int (nI (by2 f (p + 14 + by4 f (p + 10))))), (9, .int (nI (p + 14 + by4 f (p + 10) + 2))), (10, .int (nI (p + 14 + by4 f (p + 10) + 2 + 8 * by2 f (p + 14 + by4 f (p + 10))))), (13, .int (nI i))], [.long (Int32.toInt64 (nI (by2 f (p + 14 + by4 f (p + 10) + 2 + 8 * i + 2))))], M1)) rfl rfl rfl ?_
            rw [i2l_nL (p := by2 f (p + 14 + by4 f (p + 10) + 2 + 8 * i + 2)) (by omega)]
            show pl _ _ _ (_, [(14, .int (nI (p + 14 + by4 f (p + 10) + 2 + 8 * i))), (0, .ref m0), (2, .int (nI (p + 6))), (4, .int (nI x)), (5, .long (nL (by4 f (p + 10)))), (8, .int (nI (by2 f (p + 14 + by4 f (p + 10))))), (9, .int (nI (p + 14 + by4 f (p + 10) + 2))), (10, .int (nI (p + 14 + by4 f (p + 10) + 2 + 8 * by2 f (p + 14 + by4 f (p + 10))))), (13, .int (nI i))], [.long (nL (by2 f (p + 14 + by4 f (p + 10) + 2 + 8 * i + 2)))], M1) _
            refine ps_st (S' := (295, [(14, .int (nI (p + 14 + by4 f (p + 10) + 2 + 8 * i))), (0, .ref m0), (2, .int (nI (p + 6))), (4, .int (nI x)), (5, .long (nL (by4 f (p + 10)))), (8, .int (nI (by2 f (p + 14 + by4 f (p + 10))))), (9, .int (nI (p + 14 + by4 f (p + 10) + 2))), (10, .int (nI (p + 14 + by4 f (p + 10) + 2 + 8 * by2 f (p + 14 + by4 f (p + 10))))), (13, .int (nI i))], [.long (nL (by4 f (p + 10))), .long (nL (by2 f (p + 14 + by4 f (p + 10) + 2 + 8 * i + 2)))], M1)) rfl rfl rfl ?_
            refine ps_st (S' := (296, [(14, .int (nI (p + 14 + by4 f (p + 10) + 2 + 8 * i))), (0, .ref m0), (2, .int (nI (p + 6))), (4, .int (nI x)), (5, .long (nL (by4 f (p + 10)))), (8, .int (nI (by2 f (p + 14 + by4 f (p + 10))))), (9, .int (nI (p + 14 + by4 f (p + 10) + 2))), (10, .int (nI (p + 14 + by4 f (p + 10) + 2 + 8 * by2 f (p + 14 + by4 f (p + 10))))), (13, .int (nI i))], [.int (lg_cmp (nL (by2 f (p + 14 + by4 f (p + 10) + 2 + 8 * i + 2))) (nL (by4 f (p + 10))))], M1)) rfl rfl rfl ?_
            refine ps_if (S1 := (344, [], [], M1)) (S2 := (299, [(14, .int (nI (p + 14 + by4 f (p + 10) + 2 + 8 * i))), (0, .ref m0), (2, .int (nI (p + 6))), (4, .int (nI x)), (5, .long (nL (by4 f (p + 10)))), (8, .int (nI (by2 f (p + 14 + by4 f (p + 10))))), (9, .int (nI (p + 14 + by4 f (p + 10) + 2))), (10, .int (nI (p + 14 + by4 f (p + 10) + 2 + 8 * by2 f (p + 14 + by4 f (p + 10))))), (13, .int (nI i))], [], M1)) rfl rfl rfl (fun c_296 => ?_) (fun c_296 => ?_)
            · have n_296 : by4 f (p + 10) < by2 f (p + 14 + by4 f (p + 10) + 2 + 8 * i + 2) := (cL_gt (p := by2 f (p + 14 + by4 f (p + 10) + 2 + 8 * i + 2)) (k := by4 f (p + 10)) (x := (nL (by2 f (p + 14 + by4 f (p + 10) + 2 + 8 * i + 2)))) (y := (nL (by4 f (p + 10)))) rfl rfl (by omega) (by omega)).mp (of_decide_eq_true c_296)
              refine ps_st (S' := (346, [], [.int 43], M1)) rfl rfl rfl ?_
              exact ps_ret rfl rfl (Or.inr (Or.inl ⟨43, I1, R1, hce, by
                  unfold cdS
                  rw [if_neg h41, if_neg h42, if_pos (by rw [← hw9, rwA_st (i := i) (by omega), if_pos (by unfold rwN; rw [if_neg (by omega)])])], by decide, rfl, hR1, hEI1, hER1⟩))
            · have n_296 : ¬ (by4 f (p + 10) < by2 f (p + 14 + by4 f (p + 10) + 2 + 8 * i + 2)) := fun h9 => of_decide_eq_false c_296 ((cL_gt (p := by2 f (p + 14 + by4 f (p + 10) + 2 + 8 * i + 2)) (k := by4 f (p + 10)) (x := (nL (by2 f (p + 14 + by4 f (p + 10) + 2 + 8 * i + 2)))) (y := (nL (by4 f (p + 10)))) rfl rfl (by omega) (by omega)).mpr h9)
              refine ps_st (S' := (300, [(14, .int (nI (p + 14 + by4 f (p + 10) + 2 + 8 * i))), (0, .ref m0), (2, .int (nI (p + 6))), (4, .int (nI x)), (5, .long (nL (by4 f (p + 10)))), (8, .int (nI (by2 f (p + 14 + by4 f (p + 10))))), (9, .int (nI (p + 14 + by4 f (p + 10) + 2))), (10, .int (nI (p + 14 + by4 f (p + 10) + 2 + 8 * by2 f (p + 14 + by4 f (p + 10))))), (13, .int (nI i))], [.ref m0], M1)) rfl rfl rfl ?_
              refine ps_st (S' := (302, [(14, .int (nI (p + 14 + by4 f (p + 10) + 2 + 8 * i))), (0, .ref m0), (2, .int (nI (p + 6))), (4, .int (nI x)), (5, .long (nL (by4 f (p + 10)))), (8, .int (nI (by2 f (p + 14 + by4 f (p + 10))))), (9, .int (nI (p + 14 + by4 f (p + 10) + 2))), (10, .int (nI (p + 14 + by4 f (p + 10) + 2 + 8 * by2 f (p + 14 + by4 f (p + 10))))), (13, .int (nI i))], [.int (nI (p + 14 + by4 f (p + 10) + 2 + 8 * i)), .ref m0], M1)) rfl rfl rfl ?_
              refine ps_st (S' := (303, [(14, .int (nI (p + 14 + by4 f (p + 10) + 2 + 8 * i))), (0, .ref m0), (2, .int (nI (p + 6))), (4, .int (nI x)), (5, .long (nL (by4 f (p + 10)))), (8, .int (nI (by2 f (p + 14 + by4 f (p + 10))))), (9, .int (nI (p + 14 + by4 f (p + 10) + 2))), (10, .int (nI (p + 14 + by4 f (p + 10) + 2 + 8 * by2 f (p + 14 + by4 f (p + 10))))), (13, .int (nI i))], [.int 4, .int (nI (p + 14 + by4 f (p + 10) + 2 + 8 * i)), .ref m0], M1)) rfl rfl rfl ?_
              refine ps_st (S' := (304, [(14, .int (nI (p + 14 + by4 f (p + 10) + 2 + 8 * i))), (0, .ref m0), (2, .int (nI (p + 6))), (4, .int (nI x)), (5, .long (nL (by4 f (p + 10)))), (8, .int (nI (by2 f (p + 14 + by4 f (p + 10))))), (9, .int (nI (p + 14 + by4 f (p + 10) + 2))), (10, .int (nI (p + 14 + by4 f (p + 10) + 2 + 8 * by2 f (p + 14 + by4 f (p + 10))))), (13, .int (nI i))], [.int ((nI (p + 14 + by4 f (p + 10) + 2 + 8 * i)) + 4), .ref m0], M1)) rfl rfl rfl ?_
              rw [nI_add1 (p := p + 14 + by4 f (p + 10) + 2 + 8 * i) (k := 4) (x := 4) rfl (by omega)]
              show pl _ _ _ (_, [(14, .int (nI (p + 14 + by4 f (p + 10) + 2 + 8 * i))), (0, .ref m0), (2, .int (nI (p + 6))), (4, .int (nI x)), (5, .long (nL (by4 f (p + 10)))), (8, .int (nI (by2 f (p + 14 + by4 f (p + 10))))), (9, .int (nI (p + 14 + by4 f (p + 10) + 2))), (10, .int (nI (p + 14 + by4 f (p + 10) + 2 + 8 * by2 f (p + 14 + by4 f (p + 10))))), (13, .int (nI i))], [.int (nI (p + 14 + by4 f (p + 10) + 2 + 8 * i + 4)), .ref m0], M1) _
              refine pl_call (a := [.ref m0, .int (nI (p + 14 + by4 f (p + 10) + 2 + 8 * i + 4))]) (rest := []) rfl rfl rfl (rd_u2 (n := n) (f := f) (p := (p + 14 + by4 f (p + 10) + 2 + 8 * i + 4)) hR1 hF1 (by omega)) (fun v122 M123 q124 => ?_)
              obtain ⟨rfl, rfl⟩ := q124
              show pl _ _ _ (307, [(14, .int (nI (p + 14 + by4 f (p + 10) + 2 + 8 * i))), (0, .ref m0), (2, .int (nI (p + 6))), (4, .int (nI x)), (5, .long (nL (by4 f (p + 10)))), (8, .int (nI (by2 f (p + 14 + by4 f (p + 10))))), (9, .int (nI (p + 14 + by4 f (p + 10) + 2))), (10, .int (nI (p + 14 + by4 f (p + 10) + 2 + 8 * by2 f (p + 14 + by4 f (p + 10))))), (13, .int (nI i))], [.int (nI (by2 f (p + 14 + by4 f (p + 10) + 2 + 8 * i + 4)))], M1) _
              have hu_304 := by2_lt f (p + 14 + by4 f (p + 10) + 2 + 8 * i + 4)
              refine ps_st (S' := (308, [(14, .int (nI (p + 14 + by4 f (p + 10) + 2 + 8 * i))), (0, .ref m0), (2, .int (nI (p + 6))), (4, .int (nI x)), (5, .long (nL (by4 f (p + 10)))), (8, .int (nI (by2 f (p + 14 + by4 f (p + 10))))), (9, .int (nI (p + 14 + by4 f (p + 10) + 2))), (10, .int (nI (p + 14 + by4 f (p + 10) + 2 + 8 * by2 f (p + 14 + by4 f (p + 10))))), (13, .int (nI i))], [.long (Int32.toInt64 (nI (by2 f (p + 14 + by4 f (p + 10) + 2 + 8 * i + 4))))], M1)) rfl rfl rfl ?_
              rw [i2l_nL (p := by2 f (p + 14 + by4 f (p + 10) + 2 + 8 * i + 4)) (by omega)]
              show pl _ _ _ (_, [(14, .int (nI (p + 14 + by4 f (p + 10) + 2 + 8 * i))), (0, .ref m0), (2, .int (nI (p + 6))), (4, .int (nI x)), (5, .long (nL (by4 f (p + 10)))), (8, .int (nI (by2 f (p + 14 + by4 f (p + 10))))), (9, .int (nI (p + 14 + by4 f (p + 10) + 2))), (10, .int (nI (p + 14 + by4 f (p + 10) + 2 + 8 * by2 f (p + 14 + by4 f (p + 10))))), (13, .int (nI i))], [.long (nL (by2 f (p + 14 + by4 f (p + 10) + 2 + 8 * i + 4)))], M1) _
              refine ps_st (S' := (310, [(14, .int (nI (p + 14 + by4 f (p + 10) + 2 + 8 * i))), (0, .ref m0), (2, .int (nI (p + 6))), (4, .int (nI x)), (5, .long (nL (by4 f (p + 10)))), (8, .int (nI (by2 f (p + 14 + by4 f (p + 10))))), (9, .int (nI (p + 14 + by4 f (p + 10) + 2))), (10, .int (nI (p + 14 + by4 f (p + 10) + 2 + 8 * by2 f (p + 14 + by4 f (p + 10))))), (13, .int (nI i))], [.long (nL (by4 f (p + 10))), .long (nL (by2 f (p + 14 + by4 f (p + 10) + 2 + 8 * i + 4)))], M1)) rfl rfl rfl ?_
              refine ps_st (S' := (311, [(14, .int (nI (p + 14 + by4 f (p + 10) + 2 + 8 * i))), (0, .ref m0), (2, .int (nI (p + 6))), (4, .int (nI x)), (5, .long (nL (by4 f (p + 10)))), (8, .int (nI (by2 f (p + 14 + by4 f (p + 10))))), (9, .int (nI (p + 14 + by4 f (p + 10) + 2))), (10, .int (nI (p + 14 + by4 f (p + 10) + 2 + 8 * by2 f (p + 14 + by4 f (p + 10))))), (13, .int (nI i))], [.int (lg_cmp (nL (by2 f (p + 14 + by4 f (p + 10) + 2 + 8 * i + 4))) (nL (by4 f (p + 10))))], M1)) rfl rfl rfl ?_
              refine ps_if (S1 := (344, [], [], M1)) (S2 := (314, [(14, .int (nI (p + 14 + by4 f (p + 10) + 2 + 8 * i))), (0, .ref m0), (2, .int (nI (p + 6))), (4, .int (nI x)), (5, .long (nL (by4 f (p + 10)))), (8, .int (nI (by2 f (p + 14 + by4 f (p + 10))))), (9, .int (nI (p + 14 + by4 f (p + 10) + 2))), (10, .int (nI (p + 14 + by4 f (p + 10) + 2 + 8 * by2 f (p + 14 + by4 f (p + 10))))), (13, .int (nI i))], [], M1)) rfl rfl rfl (fun c_311 => ?_) (fun c_311 => ?_)
              · have n_311 : by4 f (p + 10) ≤ by2 f (p + 14 + by4 f (p + 10) + 2 + 8 * i + 4) := (cL_ge (p := by2 f (p + 14 + by4 f (p + 10) + 2 + 8 * i + 4)) (k := by4 f (p + 10)) (x := (nL (by2 f (p + 14 + by4 f (p + 10) + 2 + 8 * i + 4)))) (y := (nL (by4 f (p + 10)))) rfl rfl (by omega) (by omega)).mp (of_decide_eq_true c_311)
                refine ps_st (S' := (346, [], [.int 43], M1)) rfl rfl rfl ?_
                exact ps_ret rfl rfl (Or.inr (Or.inl ⟨43, I1, R1, hce, by
                    unfold cdS
                    rw [if_neg h41, if_neg h42, if_pos (by rw [← hw9, rwA_st (i := i) (by omega), if_pos (by unfold rwN; rw [if_neg (by omega)])])], by decide, rfl, hR1, hEI1, hER1⟩))
              · have n_311 : ¬ (by4 f (p + 10) ≤ by2 f (p + 14 + by4 f (p + 10) + 2 + 8 * i + 4)) := fun h9 => of_decide_eq_false c_311 ((cL_ge (p := by2 f (p + 14 + by4 f (p + 10) + 2 + 8 * i + 4)) (k := by4 f (p + 10)) (x := (nL (by2 f (p + 14 + by4 f (p + 10) + 2 + 8 * i + 4)))) (y := (nL (by4 f (p + 10)))) rfl rfl (by omega) (by omega)).mpr h9)
                refine ps_st (S' := (315, [(14, .int (nI (p + 14 + by4 f (p + 10) + 2 + 8 * i))), (0, .ref m0), (2, .int (nI (p + 6))), (4, .int (nI x)), (5, .long (nL (by4 f (p + 10)))), (8, .int (nI (by2 f (p + 14 + by4 f (p + 10))))), (9, .int (nI (p + 14 + by4 f (p + 10) + 2))), (10, .int (nI (p + 14 + by4 f (p + 10) + 2 + 8 * by2 f (p + 14 + by4 f (p + 10))))), (13, .int (nI i))], [.ref m0], M1)) rfl rfl rfl ?_
                refine ps_st (S' := (317, [(14, .int (nI (p + 14 + by4 f (p + 10) + 2 + 8 * i))), (0, .ref m0), (2, .int (nI (p + 6))), (4, .int (nI x)), (5, .long (nL (by4 f (p + 10)))), (8, .int (nI (by2 f (p + 14 + by4 f (p + 10))))), (9, .int (nI (p + 14 + by4 f (p + 10) + 2))), (10, .int (nI (p + 14 + by4 f (p + 10) + 2 + 8 * by2 f (p + 14 + by4 f (p + 10))))), (13, .int (nI i))], [.int (nI (p + 14 + by4 f (p + 10) + 2 + 8 * i)), .ref m0], M1)) rfl rfl rfl ?_
                refine ps_st (S' := (319, [(14, .int (nI (p + 14 + by4 f (p + 10) + 2 + 8 * i))), (0, .ref m0), (2, .int (nI (p + 6))), (4, .int (nI x)), (5, .long (nL (by4 f (p + 10)))), (8, .int (nI (by2 f (p + 14 + by4 f (p + 10))))), (9, .int (nI (p + 14 + by4 f (p + 10) + 2))), (10, .int (nI (p + 14 + by4 f (p + 10) + 2 + 8 * by2 f (p + 14 + by4 f (p + 10))))), (13, .int (nI i))], [.int 6, .int (nI (p + 14 + by4 f (p + 10) + 2 + 8 * i)), .ref m0], M1)) rfl rfl rfl ?_
                refine ps_st (S' := (320, [(14, .int (nI (p + 14 + by4 f (p + 10) + 2 + 8 * i))), (0, .ref m0), (2, .int (nI (p + 6))), (4, .int (nI x)), (5, .long (nL (by4 f (p + 10)))), (8, .int (nI (by2 f (p + 14 + by4 f (p + 10))))), (9, .int (nI (p + 14 + by4 f (p + 10) + 2))), (10, .int (nI (p + 14 + by4 f (p + 10) + 2 + 8 * by2 f (p + 14 + by4 f (p + 10))))), (13, .int (nI i))], [.int ((nI (p + 14 + by4 f (p + 10) + 2 + 8 * i)) + 6), .ref m0], M1)) rfl rfl rfl ?_
                rw [nI_add1 (p := p + 14 + by4 f (p + 10) + 2 + 8 * i) (k := 6) (x := 6) rfl (by omega)]
                show pl _ _ _ (_, [(14, .int (nI (p + 14 + by4 f (p + 10) + 2 + 8 * i))), (0, .ref m0), (2, .int (nI (p + 6))), (4, .int (nI x)), (5, .long (nL (by4 f (p + 10)))), (8, .int (nI (by2 f (p + 14 + by4 f (p + 10))))), (9, .int (nI (p + 14 + by4 f (p + 10) + 2))), (10, .int (nI (p + 14 + by4 f (p + 10) + 2 + 8 * by2 f (p + 14 + by4 f (p + 10))))), (13, .int (nI i))], [.int (nI (p + 14 + by4 f (p + 10) + 2 + 8 * i + 6)), .ref m0], M1) _
                refine pl_call (a := [.ref m0, .int (nI (p + 14 + by4 f (p + 10) + 2 + 8 * i + 6))]) (rest := []) rfl rfl rfl (rd_u2 (n := n) (f := f) (p := (p + 14 + by4 f (p + 10) + 2 + 8 * i + 6)) hR1 hF1 (by omega)) (fun v125 M126 q127 => ?_)
                obtain ⟨rfl, rfl⟩ := q127
                show pl _ _ _ (323, [(14, .int (nI (p + 14 + by4 f (p + 10) + 2 + 8 * i))), (0, .ref m0), (2, .int (nI (p + 6))), (4, .int (nI x)), (5, .long (nL (by4 f (p + 10)))), (8, .int (nI (by2 f (p + 14 + by4 f (p + 10))))), (9, .int (nI (p + 14 + by4 f (p + 10) + 2))), (10, .int (nI (p + 14 + by4 f (p + 10) + 2 + 8 * by2 f (p + 14 + by4 f (p + 10))))), (13, .int (nI i))], [.int (nI (by2 f (p + 14 + by4 f (p + 10) + 2 + 8 * i + 6)))], M1) _
                have hu_320 := by2_lt f (p + 14 + by4 f (p + 10) + 2 + 8 * i + 6)
                refine ps_if (S1 := (347, [(0, .ref m0), (2, .int (nI (p + 6))), (4, .int (nI x)), (5, .long (nL (by4 f (p + 10)))), (8, .int (nI (by2 f (p + 14 + by4 f (p + 10))))), (9, .int (nI (p + 14 + by4 f (p + 10) + 2))), (10, .int (nI (p + 14 + by4 f (p + 10) + 2 + 8 * by2 f (p + 14 + by4 f (p + 10))))), (13, .int (nI i))], [], M1)) (S2 := (326, [(14, .int (nI (p + 14 + by4 f (p + 10) + 2 + 8 * i))), (0, .ref m0), (2, .int (nI (p + 6))), (4, .int (nI x)), (5, .long (nL (by4 f (p + 10)))), (8, .int (nI (by2 f (p + 14 + by4 f (p + 10))))), (9, .int (nI (p + 14 + by4 f (p + 10) + 2))), (10, .int (nI (p + 14 + by4 f (p + 10) + 2 + 8 * by2 f (p + 14 + by4 f (p + 10))))), (13, .int (nI i))], [], M1)) rfl rfl rfl (fun c_323 => ?_) (fun c_323 => ?_)
                · have c_323 : (nI (by2 f (p + 14 + by4 f (p + 10) + 2 + 8 * i + 6))) = 0 := of_decide_eq_true c_323
                  have n_323 : by2 f (p + 14 + by4 f (p + 10) + 2 + 8 * i + 6) = 0 := (eq_nI (p := by2 f (p + 14 + by4 f (p + 10) + 2 + 8 * i + 6)) (n := 0) (Nat.lt_trans (by2_lt _ _) (by decide)) (by decide)).mp c_323
                  refine ps_st (S' := (350, [(13, .int ((nI i) + 1)), (0, .ref m0), (2, .int (nI (p + 6))), (4, .int (nI x)), (5, .long (nL (by4 f (p + 10)))), (8, .int (nI (by2 f (p + 14 + by4 f (p + 10))))), (9, .int (nI (p + 14 + by4 f (p + 10) + 2))), (10, .int (nI (p + 14 + by4 f (p + 10) + 2 + 8 * by2 f (p + 14 + by4 f (p + 10)))))], [], M1)) rfl rfl rfl ?_
                  rw [nI_add1 (p := i) (k := 1) (x := 1) rfl (by omega)]
                  show pl _ _ _ (_, [(13, .int (nI (i + 1))), (0, .ref m0), (2, .int (nI (p + 6))), (4, .int (nI x)), (5, .long (nL (by4 f (p + 10)))), (8, .int (nI (by2 f (p + 14 + by4 f (p + 10))))), (9, .int (nI (p + 14 + by4 f (p + 10) + 2))), (10, .int (nI (p + 14 + by4 f (p + 10) + 2 + 8 * by2 f (p + 14 + by4 f (p + 10)))))], [], M1) _
                  refine ps_st (S' := (250, [(0, .ref m0), (2, .int (nI (p + 6))), (4, .int (nI x)), (5, .long (nL (by4 f (p + 10)))), (8, .int (nI (by2 f (p + 14 + by4 f (p + 10))))), (9, .int (nI (p + 14 + by4 f (p + 10) + 2))), (10, .int (nI (p + 14 + by4 f (p + 10) + 2 + 8 * by2 f (p + 14 + by4 f (p + 10))))), (13, .int (nI (i + 1)))], [], M1)) rfl rfl rfl ?_
                  exact ih.2 (i + 1) M1 I1 R1 hR1 hEI1 hER1 hl51 hl52 hl53 hF1 hY1 hP1 hK1 (hr) (hb) (hce) (h41) (h42) (by omega) (by
                      rw [← hw9, rwA_st (i := i) (by omega), if_neg (by unfold rwN; rw [if_pos (by omega)]; decide)])
                · have c_323 : ¬ ((nI (by2 f (p + 14 + by4 f (p + 10) + 2 + 8 * i + 6))) = 0) := of_decide_eq_false c_323
                  have n_323 : ¬ (by2 f (p + 14 + by4 f (p + 10) + 2 + 8 * i + 6) = 0) := fun h9 => c_323 ((eq_nI (p := by2 f (p + 14 + by4 f (p + 10) + 2 + 8 * i + 6)) (n := 0) (Nat.lt_trans (by2_lt _ _) (by decide)) (by decide)).mpr h9)
                  refine ps_st (S' := (327, [(14, .int (nI (p + 14 + by4 f (p + 10) + 2 + 8 * i))), (0, .ref m0), (2, .int (nI (p + 6))), (4, .int (nI x)), (5, .long (nL (by4 f (p + 10)))), (8, .int (nI (by2 f (p + 14 + by4 f (p + 10))))), (9, .int (nI (p + 14 + by4 f (p + 10) + 2))), (10, .int (nI (p + 14 + by4 f (p + 10) + 2 + 8 * by2 f (p + 14 + by4 f (p + 10))))), (13, .int (nI i))], [.ref m0], M1)) rfl rfl rfl ?_
                  refine ps_st (S' := (328, [(14, .int (nI (p + 14 + by4 f (p + 10) + 2 + 8 * i))), (0, .ref m0), (2, .int (nI (p + 6))), (4, .int (nI x)), (5, .long (nL (by4 f (p + 10)))), (8, .int (nI (by2 f (p + 14 + by4 f (p + 10))))), (9, .int (nI (p + 14 + by4 f (p + 10) + 2))), (10, .int (nI (p + 14 + by4 f (p + 10) + 2 + 8 * by2 f (p + 14 + by4 f (p + 10))))), (13, .int (nI i))], [.ref m0, .ref m0], M1)) rfl rfl rfl ?_
                  refine ps_st (S' := (330, [(14, .int (nI (p + 14 + by4 f (p + 10) + 2 + 8 * i))), (0, .ref m0), (2, .int (nI (p + 6))), (4, .int (nI x)), (5, .long (nL (by4 f (p + 10)))), (8, .int (nI (by2 f (p + 14 + by4 f (p + 10))))), (9, .int (nI (p + 14 + by4 f (p + 10) + 2))), (10, .int (nI (p + 14 + by4 f (p + 10) + 2 + 8 * by2 f (p + 14 + by4 f (p + 10))))), (13, .int (nI i))], [.int (nI (p + 14 + by4 f (p + 10) + 2 + 8 * i)), .ref m0, .ref m0], M1)) rfl rfl rfl ?_
                  refine ps_st (S' := (332, [(14, .int (nI (p + 14 + by4 f (p + 10) + 2 + 8 * i))), (0, .ref m0), (2, .int (nI (p + 6))), (4, .int (nI x)), (5, .long (nL (by4 f (p + 10)))), (8, .int (nI (by2 f (p + 14 + by4 f (p + 10))))), (9, .int (nI (p + 14 + by4 f (p + 10) + 2))), (10, .int (nI (p + 14 + by4 f (p + 10) + 2 + 8 * by2 f (p + 14 + by4 f (p + 10))))), (13, .int (nI i))], [.int 6, .int (nI (p + 14 + by4 f (p + 10) + 2 + 8 * i)), .ref m0, .ref m0], M1)) rfl rfl rfl ?_
                  refine ps_st (S' := (333, [(14, .int (nI (p + 14 + by4 f (p + 10) + 2 + 8 * i))), (0, .ref m0), (2, .int (nI (p + 6))), (4, .int (nI x)), (5, .long (nL (by4 f (p + 10)))), (8, .int (nI (by2 f (p + 14 + by4 f (p + 10))))), (9, .int (nI (p + 14 + by4 f (p + 10) + 2))), (10, .int (nI (p + 14 + by4 f (p + 10) + 2 + 8 * by2 f (p + 14 + by4 f (p + 10))))), (13, .int (nI i))], [.int ((nI (p + 14 + by4 f (p + 10) + 2 + 8 * i)) + 6), .ref m0, .ref m0], M1)) rfl rfl rfl ?_
                  rw [nI_add1 (p := p + 14 + by4 f (p + 10) + 2 + 8 * i) (k := 6) (x := 6) rfl (by omega)]
                  show pl _ _ _ (_, [(14, .int (nI (p + 14 + by4 f (p + 10) + 2 + 8 * i))), (0, .ref m0), (2, .int (nI (p + 6))), (4, .int (nI x)), (5, .long (nL (by4 f (p + 10)))), (8, .int (nI (by2 f (p + 14 + by4 f (p + 10))))), (9, .int (nI (p + 14 + by4 f (p + 10) + 2))), (10, .int (nI (p + 14 + by4 f (p + 10) + 2 + 8 * by2 f (p + 14 + by4 f (p + 10))))), (13, .int (nI i))], [.int (nI (p + 14 + by4 f (p + 10) + 2 + 8 * i + 6)), .ref m0, .ref m0], M1) _
                  refine pl_call (a := [.ref m0, .int (nI (p + 14 + by4 f (p + 10) + 2 + 8 * i + 6))]) (rest := [.ref m0]) rfl rfl rfl (rd_u2 (n := n) (f := f) (p := (p + 14 + by4 f (p + 10) + 2 + 8 * i + 6)) hR1 hF1 (by omega)) (fun v128 M129 q130 => ?_)
                  obtain ⟨rfl, rfl⟩ := q130
                  show pl _ _ _ (336, [(14, .int (nI (p + 14 + by4 f (p + 10) + 2 + 8 * i))), (0, .ref m0), (2, .int (nI (p + 6))), (4, .int (nI x)), (5, .long (nL (by4 f (p + 10)))), (8, .int (nI (by2 f (p + 14 + by4 f (p + 10))))), (9, .int (nI (p + 14 + by4 f (p + 10) + 2))), (10, .int (nI (p + 14 + by4 f (p + 10) + 2 + 8 * by2 f (p + 14 + by4 f (p + 10))))), (13, .int (nI i))], [.int (nI (by2 f (p + 14 + by4 f (p + 10) + 2 + 8 * i + 6))), .ref m0], M1) _
                  have hu_333 := by2_lt f (p + 14 + by4 f (p + 10) + 2 + 8 * i + 6)
                  refine pl_call (a := [.ref m0, .int (nI (by2 f (p + 14 + by4 f (p + 10) + 2 + 8 * i + 6)))]) (rest := []) rfl rfl rfl (rd_tag (n := n) (f := f) (tx := tx) (cN := cN) (A := A) (N := N) (mj := mj) (E := E) (k := (by2 f (p + 14 + by4 f (p + 10) + 2 + 8 * i + 6))) hR1 hl51 hl52 hl53 hF1 hY1 hP1 (hEP) (hN) (hmj) (by2_lt _ _)) (fun v131 M132 q133 => ?_)
                  obtain ⟨rfl, rfl⟩ := q133
                  show pl _ _ _ (339, [(14, .int (nI (p + 14 + by4 f (p + 10) + 2 + 8 * i))), (0, .ref m0), (2, .int (nI (p + 6))), (4, .int (nI x)), (5, .long (nL (by4 f (p + 10)))), (8, .int (nI (by2 f (p + 14 + by4 f (p + 10))))), (9, .int (nI (p + 14 + by4 f (p + 10) + 2))), (10, .int (nI (p + 14 + by4 f (p + 10) + 2 + 8 * by2 f (p + 14 + by4 f (p + 10))))), (13, .int (nI i))], [.int (nI (tg f E (by2 f (p + 14 + by4 f (p + 10) + 2 + 8 * i + 6))))], M1) _
                  have htg_336 := tg_lt f E (by2 f (p + 14 + by4 f (p + 10) + 2 + 8 * i + 6))
                  refine ps_st (S' := (341, [(14, .int (nI (p + 14 + by4 f (p + 10) + 2 + 8 * i))), (0, .ref m0), (2, .int (nI (p + 6))), (4, .int (nI x)), (5, .long (nL (by4 f (p + 10)))), (8, .int (nI (by2 f (p + 14 + by4 f (p + 10))))), (9, .int (nI (p + 14 + by4 f (p + 10) + 2))), (10, .int (nI (p + 14 + by4 f (p + 10) + 2 + 8 * by2 f (p + 14 + by4 f (p + 10))))), (13, .int (nI i))], [.int 7, .int (nI (tg f E (by2 f (p + 14 + by4 f (p + 10) + 2 + 8 * i + 6))))], M1)) rfl rfl rfl ?_
                  refine ps_if2 (S1 := (347, [(0, .ref m0), (2, .int (nI (p + 6))), (4, .int (nI x)), (5, .long (nL (by4 f (p + 10)))), (8, .int (nI (by2 f (p + 14 + by4 f (p + 10))))), (9, .int (nI (p + 14 + by4 f (p + 10) + 2))), (10, .int (nI (p + 14 + by4 f (p + 10) + 2 + 8 * by2 f (p + 14 + by4 f (p + 10))))), (13, .int (nI i))], [], M1)) (S2 := (344, [], [], M1)) rfl rfl rfl (fun c_341 => ?_) (fun c_341 => ?_)
                  · have c_341 : (nI (tg f E (by2 f (p + 14 + by4 f (p + 10) + 2 + 8 * i + 6)))) = 7 := of_decide_eq_true c_341
                    have n_341 : tg f E (by2 f (p + 14 + by4 f (p + 10) + 2 + 8 * i + 6)) = 7 := (eq_nI (p := tg f E (by2 f (p + 14 + by4 f (p + 10) + 2 + 8 * i + 6))) (n := 7) (Nat.lt_trans (tg_lt _ _ _) (by decide)) (by decide)).mp c_341
                    refine ps_st (S' := (350, [(13, .int ((nI i) + 1)), (0, .ref m0), (2, .int (nI (p + 6))), (4, .int (nI x)), (5, .long (nL (by4 f (p + 10)))), (8, .int (nI (by2 f (p + 14 + by4 f (p + 10))))), (9, .int (nI (p + 14 + by4 f (p + 10) + 2))), (10, .int (nI (p + 14 + by4 f (p + 10) + 2 + 8 * by2 f (p + 14 + by4 f (p + 10)))))], [], M1)) rfl rfl rfl ?_
                    rw [nI_add1 (p := i) (k := 1) (x := 1) rfl (by omega)]
                    show pl _ _ _ (_, [(13, .int (nI (i + 1))), (0, .ref m0), (2, .int (nI (p + 6))), (4, .int (nI x)), (5, .long (nL (by4 f (p + 10)))), (8, .int (nI (by2 f (p + 14 + by4 f (p + 10))))), (9, .int (nI (p + 14 + by4 f (p + 10) + 2))), (10, .int (nI (p + 14 + by4 f (p + 10) + 2 + 8 * by2 f (p + 14 + by4 f (p + 10)))))], [], M1) _
                    refine ps_st (S' := (250, [(0, .ref m0), (2, .int (nI (p + 6))), (4, .int (nI x)), (5, .long (nL (by4 f (p + 10)))), (8, .int (nI (by2 f (p + 14 + by4 f (p + 10))))), (9, .int (nI (p + 14 + by4 f (p + 10) + 2))), (10, .int (nI (p + 14 + by4 f (p + 10) + 2 + 8 * by2 f (p + 14 + by4 f (p + 10))))), (13, .int (nI (i + 1)))], [], M1)) rfl rfl rfl ?_
                    exact ih.2 (i + 1) M1 I1 R1 hR1 hEI1 hER1 hl51 hl52 hl53 hF1 hY1 hP1 hK1 (hr) (hb) (hce) (h41) (h42) (by omega) (by
                        rw [← hw9, rwA_st (i := i) (by omega), if_neg (by unfold rwN; rw [if_pos (by omega)]; decide)])
                  · have c_341 : ¬ ((nI (tg f E (by2 f (p + 14 + by4 f (p + 10) + 2 + 8 * i + 6)))) = 7) := of_decide_eq_false c_341
                    have n_341 : ¬ (tg f E (by2 f (p + 14 + by4 f (p + 10) + 2 + 8 * i + 6)) = 7) := fun h9 => c_341 ((eq_nI (p := tg f E (by2 f (p + 14 + by4 f (p + 10) + 2 + 8 * i + 6))) (n := 7) (Nat.lt_trans (tg_lt _ _ _) (by decide)) (by decide)).mpr h9)
                    refine ps_st (S' := (346, [], [.int 43], M1)) rfl rfl rfl ?_
                    exact ps_ret rfl rfl (Or.inr (Or.inl ⟨43, I1, R1, hce, by
                        unfold cdS
                        rw [if_neg h41, if_neg h42, if_pos (by rw [← hw9, rwA_st (i := i) (by omega), if_pos (by unfold rwN; rw [if_neg (by omega)])])], by decide, rfl, hR1, hEI1, hER1⟩))
  refine ps_st (S' := (1, [(0, .ref m0), (1, .int t), (2, .int (nI (p + 6))), (3, .int (nI e)), (4, .int (nI x))], [.int (nI e)], M)) rfl rfl rfl ?_
  refine ps_st (S' := (2, [(0, .ref m0), (1, .int t), (2, .int (nI (p + 6))), (3, .int (nI e)), (4, .int (nI x))], [.int (nI (p + 6)), .int (nI e)], M)) rfl rfl rfl ?_
  refine ps_st (S' := (3, [(0, .ref m0), (1, .int t), (2, .int (nI (p + 6))), (3, .int (nI e)), (4, .int (nI x))], [.int ((nI e) - (nI (p + 6)))], M)) rfl rfl rfl ?_
  refine ps_st (S' := (5, [(0, .ref m0), (1, .int t), (2, .int (nI (p + 6))), (3, .int (nI e)), (4, .int (nI x))], [.int 8, .int ((nI e) - (nI (p + 6)))], M)) rfl rfl rfl ?_
  refine ps_if2 (S1 := (11, [(0, .ref m0), (1, .int t), (2, .int (nI (p + 6))), (3, .int (nI e)), (4, .int (nI x))], [], M)) (S2 := (8, [(0, .ref m0), (1, .int t), (2, .int (nI (p + 6))), (3, .int (nI e)), (4, .int (nI x))], [], M)) rfl rfl rfl (fun c_5 => ?_) (fun c_5 => ?_)
  · have c_5 : 8 ≤ ((nI e) - (nI (p + 6))) := of_decide_eq_true c_5
    have n_5 : 8 + (p + 6) ≤ e := (le_sub1 (e := e) (p := p + 6) (k := 8) (by omega) (by omega) (by omega)).mp c_5
    refine ps_st (S' := (12, [(0, .ref m0), (1, .int t), (2, .int (nI (p + 6))), (3, .int (nI e)), (4, .int (nI x))], [.ref m0], M)) rfl rfl rfl ?_
    refine ps_st (S' := (13, [(0, .ref m0), (1, .int t), (2, .int (nI (p + 6))), (3, .int (nI e)), (4, .int (nI x))], [.int (nI (p + 6)), .ref m0], M)) rfl rfl rfl ?_
    refine ps_st (S' := (14, [(0, .ref m0), (1, .int t), (2, .int (nI (p + 6))), (3, .int (nI e)), (4, .int (nI x))], [.int 4, .int (nI (p + 6)), .ref m0], M)) rfl rfl rfl ?_
    refine ps_st (S' := (15, [(0, .ref m0), (1, .int t), (2, .int (nI (p + 6))), (3, .int (nI e)), (4, .int (nI x))], [.int ((nI (p + 6)) + 4), .ref m0], M)) rfl rfl rfl ?_
    rw [nI_add1 (p := p + 6) (k := 4) (x := 4) rfl (by omega)]
    show pl _ _ _ (_, [(0, .ref m0), (1, .int t), (2, .int (nI (p + 6))), (3, .int (nI e)), (4, .int (nI x))], [.int (nI (p + 10)), .ref m0], M) _
    refine pl_call (a := [.ref m0, .int (nI (p + 10))]) (rest := []) rfl rfl rfl (rd_u4 (n := n) (f := f) (p := (p + 10)) hR hF (by omega)) (fun v134 M135 q136 => ?_)
    obtain ⟨rfl, rfl⟩ := q136
    show pl _ _ _ (18, [(0, .ref m0), (1, .int t), (2, .int (nI (p + 6))), (3, .int (nI e)), (4, .int (nI x))], [.long (nL (by4 f (p + 10)))], M) _
    have hu_15 := by4_lt f (p + 10)
    refine ps_st (S' := (20, [(5, .long (nL (by4 f (p + 10)))), (0, .ref m0), (1, .int t), (2, .int (nI (p + 6))), (3, .int (nI e)), (4, .int (nI x))], [], M)) rfl rfl rfl ?_
    refine ps_st (S' := (22, [(5, .long (nL (by4 f (p + 10)))), (0, .ref m0), (1, .int t), (2, .int (nI (p + 6))), (3, .int (nI e)), (4, .int (nI x))], [.long (nL (by4 f (p + 10)))], M)) rfl rfl rfl ?_
    refine ps_st (S' := (23, [(5, .long (nL (by4 f (p + 10)))), (0, .ref m0), (1, .int t), (2, .int (nI (p + 6))), (3, .int (nI e)), (4, .int (nI x))], [.int (nI e), .long (nL (by4 f (p + 10)))], M)) rfl rfl rfl ?_
    refine ps_st (S' := (24, [(5, .long (nL (by4 f (p + 10)))), (0, .ref m0), (1, .int t), (2, .int (nI (p + 6))), (3, .int (nI e)), (4, .int (nI x))], [.int (nI (p + 6)), .int (nI e), .long (nL (by4 f (p + 10)))], M)) rfl rfl rfl ?_
    refine ps_st (S' := (25, [(5, .long (nL (by4 f (p + 10)))), (0, .ref m0), (1, .int t), (2, .int (nI (p + 6))), (3, .int (nI e)), (4, .int (nI x))], [.int ((nI e) - (nI (p + 6))), .long (nL (by4 f (p + 10)))], M)) rfl rfl rfl ?_
    rw [nI_sub1 (p := e) (k := p + 6) (x := (nI (p + 6))) rfl (by omega) (by omega)]
    show pl _ _ _ (_, [(5, .long (nL (by4 f (p + 10)))), (0, .ref m0), (1, .int t), (2, .int (nI (p + 6))), (3, .int (nI e)), (4, .int (nI x))], [.int (nI (e - (p + 6))), .long (nL (by4 f (p + 10)))], M) _
    refine ps_st (S' := (27, [(5, .long (nL (by4 f (p + 10)))), (0, .ref m0), (1, .int t), (2, .int (nI (p + 6))), (3, .int (nI e)), (4, .int (nI x))], [.int 8, .int (nI (e - (p + 6))), .long (nL (by4 f (p + 10)))], M)) rfl rfl rfl ?_
    refine ps_st (S' := (28, [(5, .long (nL (by4 f (p + 10)))), (0, .ref m0), (1, .int t), (2, .int (nI (p + 6))), (3, .int (nI e)), (4, .int (nI x))], [.int ((nI (e - (p + 6))) - 8), .long (nL (by4 f (p + 10)))], M)) rfl rfl rfl ?_
    rw [nI_sub1 (p := e - (p + 6)) (k := 8) (x := 8) rfl (by omega) (by omega)]
    show pl _ _ _ (_, [(5, .long (nL (by4 f (p + 10)))), (0, .ref m0), (1, .int t), (2, .int (nI (p + 6))), (3, .int (nI e)), (4, .int (nI x))], [.int (nI ((e - (p + 6)) - 8)), .long (nL (by4 f (p + 10)))], M) _
    refine ps_st (S' := (29, [(5, .long (nL (by4 f (p + 10)))), (0, .ref m0), (1, .int t), (2, .int (nI (p + 6))), (3, .int (nI e)), (4, .int (nI x))], [.long (Int32.toInt64 (nI ((e - (p + 6)) - 8))), .long (nL (by4 f (p + 10)))], M)) rfl rfl rfl ?_
    rw [i2l_nL (p := (e - (p + 6)) - 8) (by omega)]
    show pl _ _ _ (_, [(5, .long (nL (by4 f (p + 10)))), (0, .ref m0), (1, .int t), (2, .int (nI (p + 6))), (3, .int (nI e)), (4, .int (nI x))], [.long (nL ((e - (p + 6)) - 8)), .long (nL (by4 f (p + 10)))], M) _
    refine ps_st (S' := (30, [(5, .long (nL (by4 f (p + 10)))), (0, .ref m0), (1, .int t), (2, .int (nI (p + 6))), (3, .int (nI e)), (4, .int (nI x))], [.int (lg_cmp (nL (by4 f (p + 10))) (nL ((e - (p + 6)) - 8)))], M)) rfl rfl rfl ?_
    refine ps_if (S1 := (36, [(5, .long (nL (by4 f (p + 10)))), (0, .ref m0), (1, .int t), (2, .int (nI (p + 6))), (3, .int (nI e)), (4, .int (nI x))], [], M)) (S2 := (33, [(5, .long (nL (by4 f (p + 10)))), (0, .ref m0), (1, .int t), (2, .int (nI (p + 6))), (3, .int (nI e)), (4, .int (nI x))], [], M)) rfl rfl rfl (fun c_30 => ?_) (fun c_30 => ?_)
    · have n_30 : by4 f (p + 10) ≤ (e - (p + 6)) - 8 := (cL_le (p := by4 f (p + 10)) (k := (e - (p + 6)) - 8) (x := (nL (by4 f (p + 10)))) (y := (nL ((e - (p + 6)) - 8))) rfl rfl (by omega) (by omega)).mp (of_decide_eq_true c_30)
      refine ps_st (S' := (37, [(5, .long (nL (by4 f (p + 10)))), (0, .ref m0), (1, .int t), (2, .int (nI (p + 6))), (3, .int (nI e)), (4, .int (nI x))], [.int (nI (p + 6))], M)) rfl rfl rfl ?_
      refine ps_st (S' := (39, [(5, .long (nL (by4 f (p + 10)))), (0, .ref m0), (1, .int t), (2, .int (nI (p + 6))), (3, .int (nI e)), (4, .int (nI x))], [.int 8, .int (nI (p + 6))], M)) rfl rfl rfl ?_
      refine ps_st (S' := (40, [(5, .long (nL (by4 f (p + 10)))), (0, .ref m0), (1, .int t), (2, .int (nI (p + 6))), (3, .int (nI e)), (4, .int (nI x))], [.int ((nI (p + 6)) + 8)], M)) rfl rfl rfl ?_
      rw [nI_add1 (p := p + 6) (k := 8) (x := 8) rfl (by omega)]
      show pl _ _ _ (_, [(5, .long (nL (by4 f (p + 10)))), (0, .ref m0), (1, .int t), (2, .int (nI (p + 6))), (3, .int (nI e)), (4, .int (nI x))], [.int (nI (p + 14))], M) _
      refine ps_st (S' := (42, [(5, .long (nL (by4 f (p + 10)))), (0, .ref m0), (1, .int t), (2, .int (nI (p + 6))), (3, .int (nI e)), (4, .int (nI x))], [.long (nL (by4 f (p + 10))), .int (nI (p + 14))], M)) rfl rfl rfl ?_
      refine ps_st (S' := (43, [(5, .long (nL (by4 f (p + 10)))), (0, .ref m0), (1, .int t), (2, .int (nI (p + 6))), (3, .int (nI e)), (4, .int (nI x))], [.int (Int64.toInt32 (nL (by4 f (p + 10)))), .int (nI (p + 14))], M)) rfl rfl rfl ?_
      rw [l2i_nL (p := by4 f (p + 10)) (by omega)]
      show pl _ _ _ (_, [(5, .long (nL (by4 f (p + 10)))), (0, .ref m0), (1, .int t), (2, .int (nI (p + 6))), (3, .int (nI e)), (4, .int (nI x))], [.int (nI (by4 f (p + 10))), .int (nI (p + 14))], M) _
      refine ps_st (S' := (44, [(5, .long (nL (by4 f (p + 10)))), (0, .ref m0), (1, .int t), (2, .int (nI (p + 6))), (3, .int (nI e)), (4, .int (nI x))], [.int ((nI (p + 14)) + (nI (by4 f (p + 10))))], M)) rfl rfl rfl ?_
      rw [nI_add1 (p := p + 14) (k := by4 f (p + 10)) (x := (nI (by4 f (p + 10)))) rfl (by omega)]
      show pl _ _ _ (_, [(5, .long (nL (by4 f (p + 10)))), (0, .ref m0), (1, .int t), (2, .int (nI (p + 6))), (3, .int (nI e)), (4, .int (nI x))], [.int (nI (p + 14 + by4 f (p + 10)))], M) _
      refine ps_st (S' := (46, [(7, .int (nI (p + 14 + by4 f (p + 10)))), (5, .long (nL (by4 f (p + 10)))), (0, .ref m0), (1, .int t), (2, .int (nI (p + 6))), (3, .int (nI e)), (4, .int (nI x))], [], M)) rfl rfl rfl ?_
      refine ps_st (S' := (48, [(7, .int (nI (p + 14 + by4 f (p + 10)))), (5, .long (nL (by4 f (p + 10)))), (0, .ref m0), (1, .int t), (2, .int (nI (p + 6))), (3, .int (nI e)), (4, .int (nI x))], [.int (nI (p + 14 + by4 f (p + 10)))], M)) rfl rfl rfl ?_
      refine ps_st (S' := (49, [(7, .int (nI (p + 14 + by4 f (p + 10)))), (5, .long (nL (by4 f (p + 10)))), (0, .ref m0), (1, .int t), (2, .int (nI (p + 6))), (3, .int (nI e)), (4, .int (nI x))], [.int 2, .int (nI (p + 14 + by4 f (p + 10)))], M)) rfl rfl rfl ?_
      refine ps_st (S' := (50, [(7, .int (nI (p + 14 + by4 f (p + 10)))), (5, .long (nL (by4 f (p + 10)))), (0, .ref m0), (1, .int t), (2, .int (nI (p + 6))), (3, .int (nI e)), (4, .int (nI x))], [.int ((nI (p + 14 + by4 f (p + 10))) + 2)], M)) rfl rfl rfl ?_
      rw [nI_add1 (p := p + 14 + by4 f (p + 10)) (k := 2) (x := 2) rfl (by omega)]
      show pl _ _ _ (_, [(7, .int (nI (p + 14 + by4 f (p + 10)))), (5, .long (nL (by4 f (p + 10)))), (0, .ref m0), (1, .int t), (2, .int (nI (p + 6))), (3, .int (nI e)), (4, .int (nI x))], [.int (nI (p + 14 + by4 f (p + 10) + 2))], M) _
      refine ps_st (S' := (51, [(7, .int (nI (p + 14 + by4 f (p + 10)))), (5, .long (nL (by4 f (p + 10)))), (0, .ref m0), (1, .int t), (2, .int (nI (p + 6))), (3, .int (nI e)), (4, .int (nI x))], [.int (nI e), .int (nI (p + 14 + by4 f (p + 10) + 2))], M)) rfl rfl rfl ?_
      refine ps_if2 (S1 := (57, [(7, .int (nI (p + 14 + by4 f (p + 10)))), (5, .long (nL (by4 f (p + 10)))), (0, .ref m0), (1, .int t), (2, .int (nI (p + 6))), (3, .int (nI e)), (4, .int (nI x))], [], M)) (S2 := (54, [(7, .int (nI (p + 14 + by4 f (p + 10)))), (5, .long (nL (by4 f (p + 10)))), (0, .ref m0), (1, .int t), (2, .int (nI (p + 6))), (3, .int (nI e)), (4, .int (nI x))], [], M)) rfl rfl rfl (fun c_51 => ?_) (fun c_51 => ?_)
      · have c_51 : (nI (p + 14 + by4 f (p + 10) + 2)) ≤ (nI e) := of_decide_eq_true c_51
        have n_51 : p + 14 + by4 f (p + 10) + 2 ≤ e := (le_nI (p := p + 14 + by4 f (p + 10) + 2) (n := e) (by omega) (by omega)).mp c_51
        refine ps_st (S' := (58, [(7, .int (nI (p + 14 + by4 f (p + 10)))), (5, .long (nL (by4 f (p + 10)))), (0, .ref m0), (1, .int t), (2, .int (nI (p + 6))), (3, .int (nI e)), (4, .int (nI x))], [.ref m0], M)) rfl rfl rfl ?_
        refine ps_st (S' := (60, [(7, .int (nI (p + 14 + by4 f (p + 10)))), (5, .long (nL (by4 f (p + 10)))), (0, .ref m0), (1, .int t), (2, .int (nI (p + 6))), (3, .int (nI e)), (4, .int (nI x))], [.int (nI (p + 14 + by4 f (p + 10))), .ref m0], M)) rfl rfl rfl ?_
        refine pl_call (a := [.ref m0, .int (nI (p + 14 + by4 f (p + 10)))]) (rest := []) rfl rfl rfl (rd_u2 (n := n) (f := f) (p := (p + 14 + by4 f (p + 10))) hR hF (by omega)) (fun v137 M138 q139 => ?_)
        obtain ⟨rfl, rfl⟩ := q139
        show pl _ _ _ (63, [(7, .int (nI (p + 14 + by4 f (p + 10)))), (5, .long (nL (by4 f (p + 10)))), (0, .ref m0), (1, .int t), (2, .int (nI (p + 6))), (3, .int (nI e)), (4, .int (nI x))], [.int (nI (by2 f (p + 14 + by4 f (p + 10))))], M) _
        have hu_60 := by2_lt f (p + 14 + by4 f (p + 10))
        refine ps_st (S' := (65, [(8, .int (nI (by2 f (p + 14 + by4 f (p + 10))))), (7, .int (nI (p + 14 + by4 f (p + 10)))), (5, .long (nL (by4 f (p + 10)))), (0, .ref m0), (1, .int t), (2, .int (nI (p + 6))), (3, .int (nI e)), (4, .int (nI x))], [], M)) rfl rfl rfl ?_
        refine ps_st (S' := (67, [(8, .int (nI (by2 f (p + 14 + by4 f (p + 10))))), (7, .int (nI (p + 14 + by4 f (p + 10)))), (5, .long (nL (by4 f (p + 10)))), (0, .ref m0), (1, .int t), (2, .int (nI (p + 6))), (3, .int (nI e)), (4, .int (nI x))], [.int (nI (p + 14 + by4 f (p + 10)))], M)) rfl rfl rfl ?_
        refine ps_st (S' := (68, [(8, .int (nI (by2 f (p + 14 + by4 f (p + 10))))), (7, .int (nI (p + 14 + by4 f (p + 10)))), (5, .long (nL (by4 f (p + 10)))), (0, .ref m0), (1, .int t), (2, .int (nI (p + 6))), (3, .int (nI e)), (4, .int (nI x))], [.int 2, .int (nI (p + 14 + by4 f (p + 10)))], M)) rfl rfl rfl ?_
        refine ps_st (S' := (69, [(8, .int (nI (by2 f (p + 14 + by4 f (p + 10))))), (7, .int (nI (p + 14 + by4 f (p + 10)))), (5, .long (nL (by4 f (p + 10)))), (0, .ref m0), (1, .int t), (2, .int (nI (p + 6))), (3, .int (nI e)), (4, .int (nI x))], [.int ((nI (p + 14 + by4 f (p + 10))) + 2)], M)) rfl rfl rfl ?_
        rw [nI_add1 (p := p + 14 + by4 f (p + 10)) (k := 2) (x := 2) rfl (by omega)]
        show pl _ _ _ (_, [(8, .int (nI (by2 f (p + 14 + by4 f (p + 10))))), (7, .int (nI (p + 14 + by4 f (p + 10)))), (5, .long (nL (by4 f (p + 10)))), (0, .ref m0), (1, .int t), (2, .int (nI (p + 6))), (3, .int (nI e)), (4, .int (nI x))], [.int (nI (p + 14 + by4 f (p + 10) + 2))], M) _
        refine ps_st (S' := (71, [(9, .int (nI (p + 14 + by4 f (p + 10) + 2))), (8, .int (nI (by2 f (p + 14 + by4 f (p + 10))))), (7, .int (nI (p + 14 + by4 f (p + 10)))), (5, .long (nL (by4 f (p + 10)))), (0, .ref m0), (1, .int t), (2, .int (nI (p + 6))), (3, .int (nI e)), (4, .int (nI x))], [], M)) rfl rfl rfl ?_
        refine ps_st (S' := (73, [(9, .int (nI (p + 14 + by4 f (p + 10) + 2))), (8, .int (nI (by2 f (p + 14 + by4 f (p + 10))))), (7, .int (nI (p + 14 + by4 f (p + 10)))), (5, .long (nL (by4 f (p + 10)))), (0, .ref m0), (1, .int t), (2, .int (nI (p + 6))), (3, .int (nI e)), (4, .int (nI x))], [.int (nI (p + 14 + by4 f (p + 10) + 2))], M)) rfl rfl rfl ?_
        refine ps_st (S' := (75, [(9, .int (nI (p + 14 + by4 f (p + 10) + 2))), (8, .int (nI (by2 f (p + 14 + by4 f (p + 10))))), (7, .int (nI (p + 14 + by4 f (p + 10)))), (5, .long (nL (by4 f (p + 10)))), (0, .ref m0), (1, .int t), (2, .int (nI (p + 6))), (3, .int (nI e)), (4, .int (nI x))], [.int 8, .int (nI (p + 14 + by4 f (p + 10) + 2))], M)) rfl rfl rfl ?_
        refine ps_st (S' := (77, [(9, .int (nI (p + 14 + by4 f (p + 10) + 2))), (8, .int (nI (by2 f (p + 14 + by4 f (p + 10))))), (7, .int (nI (p + 14 + by4 f (p + 10)))), (5, .long (nL (by4 f (p + 10)))), (0, .ref m0), (1, .int t), (2, .int (nI (p + 6))), (3, .int (nI e)), (4, .int (nI x))], [.int (nI (by2 f (p + 14 + by4 f (p + 10)))), .int 8, .int (nI (p + 14 + by4 f (p + 10) + 2))], M)) rfl rfl rfl ?_
        refine ps_st (S' := (78, [(9, .int (nI (p + 14 + by4 f (p + 10) + 2))), (8, .int (nI (by2 f (p + 14 + by4 f (p + 10))))), (7, .int (nI (p + 14 + by4 f (p + 10)))), (5, .long (nL (by4 f (p + 10)))), (0, .ref m0), (1, .int t), (2, .int (nI (p + 6))), (3, .int (nI e)), (4, .int (nI x))], [.int (8 * (nI (by2 f (p + 14 + by4 f (p + 10))))), .int (nI (p + 14 + by4 f (p + 10) + 2))], M)) rfl rfl rfl ?_
        rw [nI_mul1 (p := 8) (k := by2 f (p + 14 + by4 f (p + 10))) (x := 8) (y := (nI (by2 f (p + 14 + by4 f (p + 10))))) rfl rfl (by omega)]
        show pl _ _ _ (_, [(9, .int (nI (p + 14 + by4 f (p + 10) + 2))), (8, .int (nI (by2 f (p + 14 + by4 f (p + 10))))), (7, .int (nI (p + 14 + by4 f (p + 10)))), (5, .long (nL (by4 f (p + 10)))), (0, .ref m0), (1, .int t), (2, .int (nI (p + 6))), (3, .int (nI e)), (4, .int (nI x))], [.int (nI (8 * (by2 f (p + 14 + by4 f (p + 10))))), .int (nI (p + 14 + by4 f (p + 10) + 2))], M) _
        refine ps_st (S' := (79, [(9, .int (nI (p + 14 + by4 f (p + 10) + 2))), (8, .int (nI (by2 f (p + 14 + by4 f (p + 10))))), (7, .int (nI (p + 14 + by4 f (p + 10)))), (5, .long (nL (by4 f (p + 10)))), (0, .ref m0), (1, .int t), (2, .int (nI (p + 6))), (3, .int (nI e)), (4, .int (nI x))], [.int ((nI (p + 14 + by4 f (p + 10) + 2)) + (nI (8 * (by2 f (p + 14 + by4 f (p + 10))))))], M)) rfl rfl rfl ?_
        rw [nI_add1 (p := p + 14 + by4 f (p + 10) + 2) (k := 8 * (by2 f (p + 14 + by4 f (p + 10)))) (x := (nI (8 * (by2 f (p + 14 + by4 f (p + 10)))))) rfl (by omega)]
        show pl _ _ _ (_, [(9, .int (nI (p + 14 + by4 f (p + 10) + 2))), (8, .int (nI (by2 f (p + 14 + by4 f (p + 10))))), (7, .int (nI (p + 14 + by4 f (p + 10)))), (5, .long (nL (by4 f (p + 10)))), (0, .ref m0), (1, .int t), (2, .int (nI (p + 6))), (3, .int (nI e)), (4, .int (nI x))], [.int (nI (p + 14 + by4 f (p + 10) + 2 + 8 * (by2 f (p + 14 + by4 f (p + 10)))))], M) _
        refine ps_st (S' := (81, [(7, .int (nI (p + 14 + by4 f (p + 10) + 2 + 8 * (by2 f (p + 14 + by4 f (p + 10)))))), (9, .int (nI (p + 14 + by4 f (p + 10) + 2))), (8, .int (nI (by2 f (p + 14 + by4 f (p + 10))))), (5, .long (nL (by4 f (p + 10)))), (0, .ref m0), (1, .int t), (2, .int (nI (p + 6))), (3, .int (nI e)), (4, .int (nI x))], [], M)) rfl rfl rfl ?_
        refine ps_st (S' := (83, [(7, .int (nI (p + 14 + by4 f (p + 10) + 2 + 8 * (by2 f (p + 14 + by4 f (p + 10)))))), (9, .int (nI (p + 14 + by4 f (p + 10) + 2))), (8, .int (nI (by2 f (p + 14 + by4 f (p + 10))))), (5, .long (nL (by4 f (p + 10)))), (0, .ref m0), (1, .int t), (2, .int (nI (p + 6))), (3, .int (nI e)), (4, .int (nI x))], [.int (nI (p + 14 + by4 f (p + 10) + 2 + 8 * (by2 f (p + 14 + by4 f (p + 10)))))], M)) rfl rfl rfl ?_
        refine ps_st (S' := (84, [(7, .int (nI (p + 14 + by4 f (p + 10) + 2 + 8 * (by2 f (p + 14 + by4 f (p + 10)))))), (9, .int (nI (p + 14 + by4 f (p + 10) + 2))), (8, .int (nI (by2 f (p + 14 + by4 f (p + 10))))), (5, .long (nL (by4 f (p + 10)))), (0, .ref m0), (1, .int t), (2, .int (nI (p + 6))), (3, .int (nI e)), (4, .int (nI x))], [.int 2, .int (nI (p + 14 + by4 f (p + 10) + 2 + 8 * (by2 f (p + 14 + by4 f (p + 10)))))], M)) rfl rfl rfl ?_
        refine ps_st (S' := (85, [(7, .int (nI (p + 14 + by4 f (p + 10) + 2 + 8 * (by2 f (p + 14 + by4 f (p + 10)))))), (9, .int (nI (p + 14 + by4 f (p + 10) + 2))), (8, .int (nI (by2 f (p + 14 + by4 f (p + 10))))), (5, .long (nL (by4 f (p + 10)))), (0, .ref m0), (1, .int t), (2, .int (nI (p + 6))), (3, .int (nI e)), (4, .int (nI x))], [.int ((nI (p + 14 + by4 f (p + 10) + 2 + 8 * (by2 f (p + 14 + by4 f (p + 10))))) + 2)], M)) rfl rfl rfl ?_
        rw [nI_add1 (p := p + 14 + by4 f (p + 10) + 2 + 8 * (by2 f (p + 14 + by4 f (p + 10)))) (k := 2) (x := 2) rfl (by omega)]
        show pl _ _ _ (_, [(7, .int (nI (p + 14 + by4 f (p + 10) + 2 + 8 * (by2 f (p + 14 + by4 f (p + 10)))))), (9, .int (nI (p + 14 + by4 f (p + 10) + 2))), (8, .int (nI (by2 f (p + 14 + by4 f (p + 10))))), (5, .long (nL (by4 f (p + 10)))), (0, .ref m0), (1, .int t), (2, .int (nI (p + 6))), (3, .int (nI e)), (4, .int (nI x))], [.int (nI (p + 14 + by4 f (p + 10) + 2 + 8 * (by2 f (p + 14 + by4 f (p + 10))) + 2))], M) _
        refine ps_st (S' := (86, [(7, .int (nI (p + 14 + by4 f (p + 10) + 2 + 8 * (by2 f (p + 14 + by4 f (p + 10)))))), (9, .int (nI (p + 14 + by4 f (p + 10) + 2))), (8, .int (nI (by2 f (p + 14 + by4 f (p + 10))))), (5, .long (nL (by4 f (p + 10)))), (0, .ref m0), (1, .int t), (2, .int (nI (p + 6))), (3, .int (nI e)), (4, .int (nI x))], [.int (nI e), .int (nI (p + 14 + by4 f (p + 10) + 2 + 8 * (by2 f (p + 14 + by4 f (p + 10))) + 2))], M)) rfl rfl rfl ?_
        refine ps_if2 (S1 := (92, [(7, .int (nI (p + 14 + by4 f (p + 10) + 2 + 8 * (by2 f (p + 14 + by4 f (p + 10)))))), (9, .int (nI (p + 14 + by4 f (p + 10) + 2))), (8, .int (nI (by2 f (p + 14 + by4 f (p + 10))))), (5, .long (nL (by4 f (p + 10)))), (0, .ref m0), (1, .int t), (2, .int (nI (p + 6))), (3, .int (nI e)), (4, .int (nI x))], [], M)) (S2 := (89, [(7, .int (nI (p + 14 + by4 f (p + 10) + 2 + 8 * (by2 f (p + 14 + by4 f (p + 10)))))), (9, .int (nI (p + 14 + by4 f (p + 10) + 2))), (8, .int (nI (by2 f (p + 14 + by4 f (p + 10))))), (5, .long (nL (by4 f (p + 10)))), (0, .ref m0), (1, .int t), (2, .int (nI (p + 6))), (3, .int (nI e)), (4, .int (nI x))], [], M)) rfl rfl rfl (fun c_86 => ?_) (fun c_86 => ?_)
        · have c_86 : (nI (p + 14 + by4 f (p + 10) + 2 + 8 * (by2 f (p + 14 + by4 f (p + 10))) + 2)) ≤ (nI e) := of_decide_eq_true c_86
          have n_86 : p + 14 + by4 f (p + 10) + 2 + 8 * (by2 f (p + 14 + by4 f (p + 10))) + 2 ≤ e := (le_nI (p := p + 14 + by4 f (p + 10) + 2 + 8 * (by2 f (p + 14 + by4 f (p + 10))) + 2) (n := e) (by omega) (by omega)).mp c_86
          refine ps_st (S' := (94, [(7, .int (nI (p + 14 + by4 f (p + 10) + 2 + 8 * (by2 f (p + 14 + by4 f (p + 10)))))), (9, .int (nI (p + 14 + by4 f (p + 10) + 2))), (8, .int (nI (by2 f (p + 14 + by4 f (p + 10))))), (5, .long (nL (by4 f (p + 10)))), (0, .ref m0), (1, .int t), (2, .int (nI (p + 6))), (3, .int (nI e)), (4, .int (nI x))], [.int (nI (p + 14 + by4 f (p + 10) + 2 + 8 * (by2 f (p + 14 + by4 f (p + 10)))))], M)) rfl rfl rfl ?_
          refine ps_st (S' := (96, [(10, .int (nI (p + 14 + by4 f (p + 10) + 2 + 8 * (by2 f (p + 14 + by4 f (p + 10)))))), (7, .int (nI (p + 14 + by4 f (p + 10) + 2 + 8 * (by2 f (p + 14 + by4 f (p + 10)))))), (9, .int (nI (p + 14 + by4 f (p + 10) + 2))), (8, .int (nI (by2 f (p + 14 + by4 f (p + 10))))), (5, .long (nL (by4 f (p + 10)))), (0, .ref m0), (1, .int t), (2, .int (nI (p + 6))), (3, .int (nI e)), (4, .int (nI x))], [], M)) rfl rfl rfl ?_
          refine ps_st (S' := (97, [(10, .int (nI (p + 14 + by4 f (p + 10) + 2 + 8 * (by2 f (p + 14 + by4 f (p + 10)))))), (7, .int (nI (p + 14 + by4 f (p + 10) + 2 + 8 * (by2 f (p + 14 + by4 f (p + 10)))))), (9, .int (nI (p + 14 + by4 f (p + 10) + 2))), (8, .int (nI (by2 f (p + 14 + by4 f (p + 10))))), (5, .long (nL (by4 f (p + 10)))), (0, .ref m0), (1, .int t), (2, .int (nI (p + 6))), (3, .int (nI e)), (4, .int (nI x))], [.ref m0], M)) rfl rfl rfl ?_
          refine ps_st (S' := (99, [(10, .int (nI (p + 14 + by4 f (p + 10) + 2 + 8 * (by2 f (p + 14 + by4 f (p + 10)))))), (7, .int (nI (p + 14 + by4 f (p + 10) + 2 + 8 * (by2 f (p + 14 + by4 f (p + 10)))))), (9, .int (nI (p + 14 + by4 f (p + 10) + 2))), (8, .int (nI (by2 f (p + 14 + by4 f (p + 10))))), (5, .long (nL (by4 f (p + 10)))), (0, .ref m0), (1, .int t), (2, .int (nI (p + 6))), (3, .int (nI e)), (4, .int (nI x))], [.int (nI (p + 14 + by4 f (p + 10) + 2 + 8 * (by2 f (p + 14 + by4 f (p + 10))))), .ref m0], M)) rfl rfl rfl ?_
          refine pl_call (a := [.ref m0, .int (nI (p + 14 + by4 f (p + 10) + 2 + 8 * (by2 f (p + 14 + by4 f (p + 10)))))]) (rest := []) rfl rfl rfl (rd_u2 (n := n) (f := f) (p := (p + 14 + by4 f (p + 10) + 2 + 8 * (by2 f (p + 14 + by4 f (p + 10))))) hR hF (by omega)) (fun v140 M141 q142 => ?_)
          obtain ⟨rfl, rfl⟩ := q142
          show pl _ _ _ (102, [(10, .int (nI (p + 14 + by4 f (p + 10) + 2 + 8 * (by2 f (p + 14 + by4 f (p + 10)))))), (7, .int (nI (p + 14 + by4 f (p + 10) + 2 + 8 * (by2 f (p + 14 + by4 f (p + 10)))))), (9, .int (nI (p + 14 + by4 f (p + 10) + 2))), (8, .int (nI (by2 f (p + 14 + by4 f (p + 10))))), (5, .long (nL (by4 f (p + 10)))), (0, .ref m0), (1, .int t), (2, .int (nI (p + 6))), (3, .int (nI e)), (4, .int (nI x))], [.int (nI (by2 f (p + 14 + by4 f (p + 10) + 2 + 8 * (by2 f (p + 14 + by4 f (p + 10))))))], M) _
          have hu_99 := by2_lt f (p + 14 + by4 f (p + 10) + 2 + 8 * (by2 f (p + 14 + by4 f (p + 10))))
          refine ps_st (S' := (104, [(11, .int (nI (by2 f (p + 14 + by4 f (p + 10) + 2 + 8 * (by2 f (p + 14 + by4 f (p + 10))))))), (10, .int (nI (p + 14 + by4 f (p + 10) + 2 + 8 * (by2 f (p + 14 + by4 f (p + 10)))))), (7, .int (nI (p + 14 + by4 f (p + 10) + 2 + 8 * (by2 f (p + 14 + by4 f (p + 10)))))), (9, .int (nI (p + 14 + by4 f (p + 10) + 2))), (8, .int (nI (by2 f (p + 14 + by4 f (p + 10))))), (5, .long (nL (by4 f (p + 10)))), (0, .ref m0), (1, .int t), (2, .int (nI (p + 6))), (3, .int (nI e)), (4, .int (nI x))], [], M)) rfl rfl rfl ?_
          refine ps_st (S' := (107, [(7, .int ((nI (p + 14 + by4 f (p + 10) + 2 + 8 * (by2 f (p + 14 + by4 f (p + 10))))) + 2)), (11, .int (nI (by2 f (p + 14 + by4 f (p + 10) + 2 + 8 * (by2 f (p + 14 + by4 f (p + 10))))))), (10, .int (nI (p + 14 + by4 f (p + 10) + 2 + 8 * (by2 f (p + 14 + by4 f (p + 10)))))), (9, .int (nI (p + 14 + by4 f (p + 10) + 2))), (8, .int (nI (by2 f (p + 14 + by4 f (p + 10))))), (5, .long (nL (by4 f (p + 10)))), (0, .ref m0), (1, .int t), (2, .int (nI (p + 6))), (3, .int (nI e)), (4, .int (nI x))], [], M)) rfl rfl rfl ?_
          rw [nI_add1 (p := p + 14 + by4 f (p + 10) + 2 + 8 * (by2 f (p + 14 + by4 f (p + 10)))) (k := 2) (x := 2) rfl (by omega)]
          show pl _ _ _ (_, [(7, .int (nI (p + 14 + by4 f (p + 10) + 2 + 8 * (by2 f (p + 14 + by4 f (p + 10))) + 2))), (11, .int (nI (by2 f (p + 14 + by4 f (p + 10) + 2 + 8 * (by2 f (p + 14 + by4 f (p + 10))))))), (10, .int (nI (p + 14 + by4 f (p + 10) + 2 + 8 * (by2 f (p + 14 + by4 f (p + 10)))))), (9, .int (nI (p + 14 + by4 f (p + 10) + 2))), (8, .int (nI (by2 f (p + 14 + by4 f (p + 10))))), (5, .long (nL (by4 f (p + 10)))), (0, .ref m0), (1, .int t), (2, .int (nI (p + 6))), (3, .int (nI e)), (4, .int (nI x))], [], M) _
          refine ps_st (S' := (108, [(7, .int (nI (p + 14 + by4 f (p + 10) + 2 + 8 * (by2 f (p + 14 + by4 f (p + 10))) + 2))), (11, .int (nI (by2 f (p + 14 + by4 f (p + 10) + 2 + 8 * (by2 f (p + 14 + by4 f (p + 10))))))), (10, .int (nI (p + 14 + by4 f (p + 10) + 2 + 8 * (by2 f (p + 14 + by4 f (p + 10)))))), (9, .int (nI (p + 14 + by4 f (p + 10) + 2))), (8, .int (nI (by2 f (p + 14 + by4 f (p + 10))))), (5, .long (nL (by4 f (p + 10)))), (0, .ref m0), (1, .int t), (2, .int (nI (p + 6))), (3, .int (nI e)), (4, .int (nI x))], [.int 0], M)) rfl rfl rfl ?_
          refine ps_st (S' := (110, [(0, .ref m0), (2, .int (nI (p + 6))), (3, .int (nI e)), (4, .int (nI x)), (5, .long (nL (by4 f (p + 10)))), (7, .int (nI (p + 14 + by4 f (p + 10) + 2 + 8 * (by2 f (p + 14 + by4 f (p + 10))) + 2))), (8, .int (nI (by2 f (p + 14 + by4 f (p + 10))))), (9, .int (nI (p + 14 + by4 f (p + 10) + 2))), (10, .int (nI (p + 14 + by4 f (p + 10) + 2 + 8 * (by2 f (p + 14 + by4 f (p + 10)))))), (11, .int (nI (by2 f (p + 14 + by4 f (p + 10) + 2 + 8 * (by2 f (p + 14 + by4 f (p + 10))))))), (12, .int 0)], [], M)) rfl rfl rfl ?_
          exact (LL kf).1 (0) (p + 14 + by4 f (p + 10) + 2 + 8 * by2 f (p + 14 + by4 f (p + 10)) + 2) M I R hR hEI hER hi51 hi52 hi53 hF hY hP hK (⟨hfl, hds⟩) (by omega) (by omega) (by omega) (rfl)
        · have c_86 : ¬ ((nI (p + 14 + by4 f (p + 10) + 2 + 8 * (by2 f (p + 14 + by4 f (p + 10))) + 2)) ≤ (nI e)) := of_decide_eq_false c_86
          have n_86 : ¬ (p + 14 + by4 f (p + 10) + 2 + 8 * (by2 f (p + 14 + by4 f (p + 10))) + 2 ≤ e) := fun h9 => c_86 ((le_nI (p := p + 14 + by4 f (p + 10) + 2 + 8 * (by2 f (p + 14 + by4 f (p + 10))) + 2) (n := e) (by omega) (by omega)).mpr h9)
          refine ps_st (S' := (91, [(7, .int (nI (p + 14 + by4 f (p + 10) + 2 + 8 * (by2 f (p + 14 + by4 f (p + 10)))))), (9, .int (nI (p + 14 + by4 f (p + 10) + 2))), (8, .int (nI (by2 f (p + 14 + by4 f (p + 10))))), (5, .long (nL (by4 f (p + 10)))), (0, .ref m0), (1, .int t), (2, .int (nI (p + 6))), (3, .int (nI e)), (4, .int (nI x))], [.int 30], M)) rfl rfl rfl ?_
          exact ps_ret rfl rfl (Or.inl ⟨I, R, by
              rw [cdE_of]
              rw [if_neg (by omega), if_neg (by omega), if_pos (by omega)]
              exact (fun h9 => (by cases h9)), rfl, hR, hEI, hER⟩)
      · have c_51 : ¬ ((nI (p + 14 + by4 f (p + 10) + 2)) ≤ (nI e)) := of_decide_eq_false c_51
        have n_51 : ¬ (p + 14 + by4 f (p + 10) + 2 ≤ e) := fun h9 => c_51 ((le_nI (p := p + 14 + by4 f (p + 10) + 2) (n := e) (by omega) (by omega)).mpr h9)
        refine ps_st (S' := (56, [(7, .int (nI (p + 14 + by4 f (p + 10)))), (5, .long (nL (by4 f (p + 10)))), (0, .ref m0), (1, .int t), (2, .int (nI (p + 6))), (3, .int (nI e)), (4, .int (nI x))], [.int 30], M)) rfl rfl rfl ?_
        exact ps_ret rfl rfl (Or.inl ⟨I, R, by
            rw [cdE_of]
            rw [if_neg (by omega), if_neg (by omega), if_pos (by omega)]
            exact (fun h9 => (by cases h9)), rfl, hR, hEI, hER⟩)
    · have n_30 : ¬ (by4 f (p + 10) ≤ (e - (p + 6)) - 8) := fun h9 => of_decide_eq_false c_30 ((cL_le (p := by4 f (p + 10)) (k := (e - (p + 6)) - 8) (x := (nL (by4 f (p + 10)))) (y := (nL ((e - (p + 6)) - 8))) rfl rfl (by omega) (by omega)).mpr h9)
      refine ps_st (S' := (35, [(5, .long (nL (by4 f (p + 10)))), (0, .ref m0), (1, .int t), (2, .int (nI (p + 6))), (3, .int (nI e)), (4, .int (nI x))], [.int 30], M)) rfl rfl rfl ?_
      exact ps_ret rfl rfl (Or.inl ⟨I, R, by
          rw [cdE_of]
          rw [if_neg (by omega), if_pos (by omega)]
          exact (fun h9 => (by cases h9)), rfl, hR, hEI, hER⟩)
  · have c_5 : ¬ (8 ≤ ((nI e) - (nI (p + 6)))) := of_decide_eq_false c_5
    have n_5 : ¬ (8 + (p + 6) ≤ e) := fun h8 => c_5 ((le_sub1 (e := e) (p := p + 6) (k := 8) (by omega) (by omega) (by omega)).mpr h8)
    refine ps_st (S' := (10, [(0, .ref m0), (1, .int t), (2, .int (nI (p + 6))), (3, .int (nI e)), (4, .int (nI x))], [.int 30], M)) rfl rfl rfl ?_
    exact ps_ret rfl rfl (Or.inl ⟨I, R, by
        rw [cdE_of]
        rw [if_pos (by omega)]
        exact (fun h9 => (by cases h9)), rfl, hR, hEI, hER⟩)
end
section
/-! attributes one by one, as the reference checks them (laid by wip/p4/e13.py) -/

theorem fe_c {f : Nat → Int32} {k p e : Nat} (hk : k = 3 ∨ k = 8 ∨ k = 10) (h : p + 2 ≤ e) : s_fe f k p e = some (p + 2 + 2 * by2 f p) := by
  unfold s_fe
  rw [if_neg (by omega), if_neg (by omega), if_pos hk]
theorem fe_5 {f : Nat → Int32} {p e : Nat} (h : p + 2 ≤ e) : s_fe f 5 p e = some (p + 2 + 8 * by2 f p) := by
  unfold s_fe
  rw [if_neg (by omega), if_neg (by decide), if_neg (by decide), if_pos rfl]
theorem fe_1 {f : Nat → Int32} {k p e : Nat} (hk : k = 1 ∨ k = 7) (h : p + 2 ≤ e) : s_fe f k p e = some (p + 2) := by
  unfold s_fe
  rw [if_neg (by omega), if_pos hk]
theorem fe_cd {f : Nat → Int32} {p e : Nat} : s_fe f 2 p e = s_cdE f e p := by
  by_cases h : e < p + 2
  · unfold s_fe s_cdE
    rw [if_pos h, if_pos (by omega)]
  · unfold s_fe
    rw [if_neg h, if_neg (by decide), if_neg (by decide), if_neg (by decide), if_neg (by decide), if_neg (by decide)]
theorem nI_m1 {k : Nat} (h : k < 65536) : ¬ nI k = -1 := fun h9 => by
  have h1 : nI 0 ≤ nI k := (le_nI (p := 0) (n := k) (by decide) (by omega)).mpr (Nat.zero_le _)
  rw [h9] at h1
  exact absurd h1 (by decide)
theorem ct_in {l : List Nat} (h : ¬ fldN l = 0) : 0 < l.length ∧ (l.getD 0 0 = 91 → 1 < l.length) ∧ (l.getD 0 0 = 76 → 1 < l.length) ∧ (¬ l.getD 0 0 = 91 → ¬ l.getD 0 0 = 76 → l.length = 1) := by
  have h1 : s_ty (fun i => l.getD i 0) l.length 0 = some l.length := by
    rw [fld_eq] at h
    by_cases h2 : s_ty (fun i => l.getD i 0) l.length 0 = some l.length
    · exact h2
    · rw [if_neg h2] at h
      exact absurd rfl h
  have h0 := (s_ty_le h1).1
  have hb := br_st (c := fun i => l.getD i 0) (n := l.length) (k := 0) h0
  have hb2 := s_br_le (c := fun i => l.getD i 0) (r := l.length - (0 + 1)) (i := 0 + 1)
  have hb3 : (l.getD 0 0 = 91 → 1 ≤ s_br (fun i => l.getD i 0) (l.length - 0) 0) ∧ (¬ l.getD 0 0 = 91 → s_br (fun i => l.getD i 0) (l.length - 0) 0 = 0) := by
    rw [hb]
    refine ⟨fun h9 => ?_, fun h9 => ?_⟩
    · rw [if_pos h9]
      exact hb2.1
    · rw [if_neg h9]
  clear hb hb2
  unfold s_ty at h1
  generalize s_br (fun i => l.getD i 0) (l.length - 0) 0 = b at h1 hb3
  split at h1
  · cases h1
  · split at h1
    · have h4 := Option.some.inj h1
      refine ⟨h0, fun h9 => ?_, fun h9 => ?_, fun h9 _ => ?_⟩
      · have := hb3.1 h9
        omega
      · rename_i h7
        have h8 := hb3.2 (by omega)
        rw [h8] at h7
        have h7' : l.getD 0 0 = 66 ∨ l.getD 0 0 = 67 ∨ l.getD 0 0 = 68 ∨ l.getD 0 0 = 70 ∨ l.getD 0 0 = 73 ∨ l.getD 0 0 = 74 ∨ l.getD 0 0 = 83 ∨ l.getD 0 0 = 90 := h7
        omega
      · have := hb3.2 h9
        omega
    · split at h1
      · split at h1
        · cases h1
        · rename_i x hx
          split at h1
          · have h4 := Option.some.inj h1
            have h5 := s_nm_le hx
            refine ⟨h0, fun h9 => by omega, fun h9 => by omega, fun h9 h8 => ?_⟩
            exfalso
            have h7 : (fun i => l.getD i 0) b = 76 := by assumption
            rw [hb3.2 h9] at h7
            exact h8 h7
          · cases h1
      · cases h1
theorem lt_28 : ltx 28 = ltx 9 := by decide +kernel
theorem ct_str {l : List Nat} (h : ¬ l.getD 0 0 = 76) : eqN l (ltx 9) = 0 := by
  unfold eqN
  refine if_neg (fun h9 => h ?_)
  rw [h9]
  decide +kernel
theorem ct_ne {l : List Nat} (h : ¬ fldN l = 0) (h1 : ¬ l.getD 0 0 = 76) (h2 : ¬ l.getD 0 0 = 91) : ctS l = some (if l.getD 0 0 = 70 then 4 else if l.getD 0 0 = 74 then 5 else if l.getD 0 0 = 68 then 6 else 3) := by
  have h3 := (ct_in h).2.2.2 h2 h1
  unfold ctS
  rw [if_neg (by rw [ct_str h1]; exact fun h9 => h9 rfl), if_neg (by omega)]
  split
  · rfl
  · split
    · rfl
    · split <;> rfl
theorem ct_91 {l : List Nat} (h : ¬ fldN l = 0) (h1 : l.getD 0 0 = 91) : ctS l = none := by
  have h3 := (ct_in h).2.1 h1
  unfold ctS
  rw [if_neg (by rw [ct_str (by omega)]; exact fun h9 => h9 rfl), if_pos (by omega)]
theorem ct_76 {l : List Nat} (h : ¬ fldN l = 0) (h1 : l.getD 0 0 = 76) : ctS l = if eqN l (ltx 9) = 0 then none else some 8 := by
  have h3 := (ct_in h).2.2.1 h1
  unfold ctS
  by_cases h4 : eqN l (ltx 9) = 0
  · rw [if_neg (by omega), if_pos (by omega), if_pos h4]
  · rw [if_pos h4, if_neg h4]
set_option maxHeartbeats 4000000 in
theorem rd_attr2 {g : xe_G} {m0 : Nat} {q : Nat → Nat} {z : Nat × Nat} {I : rI} {R : rR} {M : mi_H} {n : Nat} {f : Nat → Int32} {tx : List (List Nat)} {cN : Nat} {A : Nat → Nat} {N mj : Nat} {E : List (Nat × Nat)} {p0 e x s3 : Nat} {t : Int32} (hR : RS g m0 q z I R M) (hi51 : I 51 = some 0) (hi52 : I 52 = some (nI N)) (hi53 : I 53 = some (nI mj)) (hF : FK n f I R) (hY : SYT tx cN A I R) (hP : RPV f n E tx N I R) (hEP : EP f n E) (hN : N < 65536) (hmj : mj < 65536) (he : p0 ≤ e ∧ e ≤ n) (hs3 : s3 < 2048) (hx : x < 8300) : pt (mT g) 177 [.ref m0, .int 2, .int t, .int (nI p0), .int (nI e), .int (nI x), .int (nI s3)] M (fun v M' => (∃  (I' : rI) (R' : rR), (¬ s_fe f 3 p0 e = some e) ∧ v = some (.int 30) ∧ RS g m0 q z I' R' M' ∧ eqI [] I I' ∧ eqR [44] R R') ∨ (∃  (I' : rI) (R' : rR), (s_fe f 3 p0 e = some e) ∧ (clA f E (p0 + 2) (by2 f p0) 0 = 0) ∧ v = some (.int 32) ∧ RS g m0 q z I' R' M' ∧ eqI [] I I' ∧ eqR [44] R R') ∨ (∃  (I' : rI) (R' : rR), (s_fe f 3 p0 e = some e) ∧ (¬ clA f E (p0 + 2) (by2 f p0) 0 = 0) ∧ v = some (.int 0) ∧ RS g m0 q z I' R' M' ∧ eqI [] I I' ∧ eqR [44] R R')) := by
  refine pt_in (b := mb_177 g) rfl (fun kf => ?_)
  show pl (mT g) kf (mb_177 g).2 (0, [(0, .ref m0), (1, .int 2), (2, .int t), (3, .int (nI p0)), (4, .int (nI e)), (5, .int (nI x)), (6, .int (nI s3))], [], M) _
  have hEI : eqI [] I I := eqI.rf
  have hER : eqR [44] R R := eqR.rf
  have hn := hF.1
  have LL : ∀ (kf : Nat), (∀ (i : Nat) (M1 : mi_H) (I1 : rI) (R1 : rR), (RS g m0 q z I1 R1 M1) → (eqI [] I I1) → (eqR [44] R R1) → (I1 51 = some 0) → (I1 52 = some (nI N)) → (I1 53 = some (nI mj)) → (FK n f I1 R1) → (SYT tx cN A I1 R1) → (RPV f n E tx N I1 R1) → (s_fe f 3 p0 e = some e) → (i ≤ by2 f p0) → (p0 + 2 + 2 * by2 f p0 = e) → (clA f E (p0 + 2) (by2 f p0 - i) i = clA f E (p0 + 2) (by2 f p0) 0) →  pl (mT g) kf (mb_177 g).2 (268, [(0, .ref m0), (1, .int 2), (3, .int (nI p0)), (5, .int (nI x)), (6, .int (nI s3)), (9, .int (nI i))], [], M1) (fun v M' => (∃  (I' : rI) (R' : rR), (¬ s_fe f 3 p0 e = some e) ∧ v = some (.int 30) ∧ RS g m0 q z I' R' M' ∧ eqI [] I I' ∧ eqR [44] R R') ∨ (∃  (I' : rI) (R' : rR), (s_fe f 3 p0 e = some e) ∧ (clA f E (p0 + 2) (by2 f p0) 0 = 0) ∧ v = some (.int 32) ∧ RS g m0 q z I' R' M' ∧ eqI [] I I' ∧ eqR [44] R R') ∨ (∃  (I' : rI) (R' : rR), (s_fe f 3 p0 e = some e) ∧ (¬ clA f E (p0 + 2) (by2 f p0) 0 = 0) ∧ v = some (.int 0) ∧ RS g m0 q z I' R' M' ∧ eqI [] I I' ∧ eqR [44] R R'))) := by
    intro kf
    induction kf with
    | zero => exact (by intros; exact pl_0)
    | succ kf ih =>
      intro i M1 I1 R1 hR1 hEI1 hER1 hl51 hl52 hl53 hF1 hY1 hP1 hfe hi hle hs
      have hn := hF1.1
      have hu9 := by2_lt f p0
      have hs6 := sb_lt s3 6
      have hs7 := sb_lt s3 7
      refine ps_st1 (S' := (270, [(0, .ref m0), (1, .int 2), (3, .int (nI p0)), (5, .int (nI x)), (6, .int (nI s3)), (9, .int (nI i))], [.int (nI i)], M1)) rfl rfl rfl ?_
      refine ps_st (S' := (271, [(0, .ref m0), (1, .int 2), (3, .int (nI p0)), (5, .int (nI x)), (6, .int (nI s3)), (9, .int (nI i))], [.ref m0, .int (nI i)], M1)) rfl rfl rfl ?_
      refine ps_st (S' := (272, [(0, .ref m0), (1, .int 2), (3, .int (nI p0)), (5, .int (nI x)), (6, .int (nI s3)), (9, .int (nI i))], [.int (nI p0), .ref m0, .int (nI i)], M1)) rfl rfl rfl ?_
      refine pl_call (a := [.ref m0, .int (nI p0)]) (rest := [.int (nI i)]) rfl rfl rfl (rd_u2 (n := n) (f := f) (p := p0) hR1 hF1 (by omega)) (fun v1 M2 q3 => ?_)
      obtain ⟨rfl, rfl⟩ := q3
      show pl _ _ _ (275, [(0, .ref m0), (1, .int 2), (3, .int (nI p0)), (5, .int (nI x)), (6, .int (nI s3)), (9, .int (nI i))], [.int (nI (by2 f p0)), .int (nI i)], M1) _
      have hu_272 := by2_lt f p0
      refine ps_if2 (S1 := (329, [(0, .ref m0), (1, .int 2), (3, .int (nI p0)), (5, .int (nI x)), (6, .int (nI s3)), (9, .int (nI i))], [], M1)) (S2 := (278, [(0, .ref m0), (1, .int 2), (3, .int (nI p0)), (5, .int (nI x)), (6, .int (nI s3)), (9, .int (nI i))], [], M1)) rfl rfl rfl (fun c_275 => ?_) (fun c_275 => ?_)
      · have c_275 : (nI (by2 f p0)) ≤ (nI i) := of_decide_eq_true c_275
        have n_275 : by2 f p0 ≤ i := (le_nI (p := by2 f p0) (n := i) (Nat.lt_trans (by2_lt _ _) (by decide)) (by omega)).mp c_275
        refine ps_st (S' := (330, [(0, .ref m0), (1, .int 2), (3, .int (nI p0)), (5, .int (nI x)), (6, .int (nI s3)), (9, .int (nI i))], [.int 2], M1)) rfl rfl rfl ?_
        refine ps_st (S' := (332, [(0, .ref m0), (1, .int 2), (3, .int (nI p0)), (5, .int (nI x)), (6, .int (nI s3)), (9, .int (nI i))], [.int 7, .int 2], M1)) rfl rfl rfl ?_
        refine ps_if2 (S1 := (349, [(0, .ref m0), (1, .int 2), (3, .int (nI p0)), (5, .int (nI x))], [], M1)) (S2 := (335, [(0, .ref m0), (1, .int 2), (3, .int (nI p0)), (5, .int (nI x)), (6, .int (nI s3)), (9, .int (nI i))], [], M1)) rfl rfl rfl (fun c_332 => ?_) (fun c_332 => ?_)
        rotate_left
        · exact absurd (by decide) (of_decide_eq_false c_332)
        refine ps_st (S' := (350, [(0, .ref m0), (1, .int 2), (3, .int (nI p0)), (5, .int (nI x))], [.int 2], M1)) rfl rfl rfl ?_
        refine ps_st (S' := (351, [(0, .ref m0), (1, .int 2), (3, .int (nI p0)), (5, .int (nI x))], [.int 2, .int 2], M1)) rfl rfl rfl ?_
        refine ps_if2 (S1 := (366, [(0, .ref m0), (1, .int 2), (3, .int (nI p0))], [], M1)) (S2 := (354, [(0, .ref m0), (1, .int 2), (3, .int (nI p0)), (5, .int (nI x))], [], M1)) rfl rfl rfl (fun c_351 => ?_) (fun c_351 => ?_)
        · exact absurd (of_decide_eq_true c_351) (by decide)
        refine ps_st (S' := (355, [(0, .ref m0), (1, .int 2), (3, .int (nI p0)), (5, .int (nI x))], [.ref m0], M1)) rfl rfl rfl ?_
        refine pr_ref (j := 44) (S' := (358, [(0, .ref m0), (1, .int 2), (3, .int (nI p0)), (5, .int (nI x))], [.ref (q 44)], M1)) rfl hR1 rfl rfl ?_
        refine ps_st (S' := (360, [(0, .ref m0), (1, .int 2), (3, .int (nI p0)), (5, .int (nI x))], [.int (nI x), .ref (q 44)], M1)) rfl rfl rfl ?_
        refine ps_st (S' := (361, [(0, .ref m0), (1, .int 2), (3, .int (nI p0)), (5, .int (nI x))], [.ref m0, .int (nI x), .ref (q 44)], M1)) rfl rfl rfl ?_
        refine ps_st (S' := (362, [(0, .ref m0), (1, .int 2), (3, .int (nI p0)), (5, .int (nI x))], [.int (nI p0), .ref m0, .int (nI x), .ref (q 44)], M1)) rfl rfl rfl ?_
        refine pl_call (a := [.ref m0, .int (nI p0)]) (rest := [.int (nI x), .ref (q 44)]) rfl rfl rfl (rd_u2 (n := n) (f := f) (p := p0) hR1 hF1 (by omega)) (fun v4 M5 q6 => ?_)
        obtain ⟨rfl, rfl⟩ := q6
        show pl _ _ _ (365, [(0, .ref m0), (1, .int 2), (3, .int (nI p0)), (5, .int (nI x))], [.int (nI (by2 f p0)), .int (nI x), .ref (q 44)], M1) _
        have hu_362 := by2_lt f p0
        refine pr_st (a := 44) (j := x) rfl hR1 rfl (by omega) (fun M7 R8 i1_365 hR9 hS10 => ?_)
        have hF_11 := hF1.mono (fun _ _ => rfl) (rRx hS10 (by decide))
        have hY_12 := hY1.mono (fun _ _ => rfl) (rRx hS10 (by decide))
        have hP_13 := hP1.mono (fun _ _ => rfl) (rRx hS10 (by decide))
        have hER14 := hER1.st hS10 (by decide)
        show pl _ _ _ (366, [(0, .ref m0), (1, .int 2), (3, .int (nI p0))], [], M7) _
        refine ps_st (S' := (367, [(0, .ref m0), (1, .int 2), (3, .int (nI p0))], [.int 2], M7)) rfl rfl rfl ?_
        refine ps_st (S' := (369, [(0, .ref m0), (1, .int 2), (3, .int (nI p0))], [.int 7, .int 2], M7)) rfl rfl rfl ?_
        refine ps_if2 (S1 := (381, [(0, .ref m0), (1, .int 2), (3, .int (nI p0))], [], M7)) (S2 := (372, [(0, .ref m0), (1, .int 2), (3, .int (nI p0))], [], M7)) rfl rfl rfl (fun c_369 => ?_) (fun c_369 => ?_)
        rotate_left
        · exact absurd (by decide) (of_decide_eq_false c_369)
        refine ps_st (S' := (382, [(0, .ref m0), (1, .int 2), (3, .int (nI p0))], [.int 2], M7)) rfl rfl rfl ?_
        refine ps_st (S' := (384, [(0, .ref m0), (1, .int 2), (3, .int (nI p0))], [.int 9, .int 2], M7)) rfl rfl rfl ?_
        refine ps_if2 (S1 := (396, [], [], M7)) (S2 := (387, [(0, .ref m0), (1, .int 2), (3, .int (nI p0))], [], M7)) rfl rfl rfl (fun c_384 => ?_) (fun c_384 => ?_)
        rotate_left
        · exact absurd (by decide) (of_decide_eq_false c_384)
        refine ps_st (S' := (397, [], [.int 0], M7)) rfl rfl rfl ?_
        exact ps_ret rfl rfl (Or.inr (Or.inr ⟨I1, R8, hfe, by rw [← hs, show by2 f p0 - i = 0 by omega]; exact Nat.one_ne_zero, rfl, hR9, hEI1, hER14⟩))
      · have c_275 : ¬ ((nI (by2 f p0)) ≤ (nI i)) := of_decide_eq_false c_275
        have n_275 : ¬ (by2 f p0 ≤ i) := fun h9 => c_275 ((le_nI (p := by2 f p0) (n := i) (Nat.lt_trans (by2_lt _ _) (by decide)) (by omega)).mpr h9)
        refine ps_st (S' := (279, [(0, .ref m0), (1, .int 2), (3, .int (nI p0)), (5, .int (nI x)), (6, .int (nI s3)), (9, .int (nI i))], [.ref m0], M1)) rfl rfl rfl ?_
        refine ps_st (S' := (280, [(0, .ref m0), (1, .int 2), (3, .int (nI p0)), (5, .int (nI x)), (6, .int (nI s3)), (9, .int (nI i))], [.ref m0, .ref m0], M1)) rfl rfl rfl ?_
        refine ps_st (S' := (281, [(0, .ref m0), (1, .int 2), (3, .int (nI p0)), (5, .int (nI x)), (6, .int (nI s3)), (9, .int (nI i))], [.int (nI p0), .ref m0, .ref m0], M1)) rfl rfl rfl ?_
        refine ps_st (S' := (282, [(0, .ref m0), (1, .int 2), (3, .int (nI p0)), (5, .int (nI x)), (6, .int (nI s3)), (9, .int (nI i))], [.int 2, .int (nI p0), .ref m0, .ref m0], M1)) rfl rfl rfl ?_
        refine ps_st (S' := (283, [(0, .ref m0), (1, .int 2), (3, .int (nI p0)), (5, .int (nI x)), (6, .int (nI s3)), (9, .int (nI i))], [.int ((nI p0) + 2), .ref m0, .ref m0], M1)) rfl rfl rfl ?_
        rw [nI_add1 (p := p0) (k := 2) (x := 2) rfl (by omega)]
        show pl _ _ _ (_, [(0, .ref m0), (1, .int 2), (3, .int (nI p0)), (5, .int (nI x)), (6, .int (nI s3)), (9, .int (nI i))], [.int (nI (p0 + 2)), .ref m0, .ref m0], M1) _
        refine ps_st (S' := (284, [(0, .ref m0), (1, .int 2), (3, .int (nI p0)), (5, .int (nI x)), (6, .int (nI s3)), (9, .int (nI i))], [.int 2, .int (nI (p0 + 2)), .ref m0, .ref m0], M1)) rfl rfl rfl ?_
        refine ps_st (S' := (286, [(0, .ref m0), (1, .int 2), (3, .int (nI p0)), (5, .int (nI x)), (6, .int (nI s3)), (9, .int (nI i))], [.int (nI i), .int 2, .int (nI (p0 + 2)), .ref m0, .ref m0], M1)) rfl rfl rfl ?_
        refine ps_st (S' := (287, [(0, .ref m0), (1, .int 2), (3, .int (nI p0)), (5, .int (nI x)), (6, .int (nI s3)), (9, .int (nI i))], [.int (2 * (nI i)), .int (nI (p0 + 2)), .ref m0, .ref m0], M1)) rfl rfl rfl ?_
        rw [nI_mul1 (p := 2) (k := i) (x := 2) (y := (nI i)) rfl rfl (by omega)]
        show pl _ _ _ (_, [(0, .ref m0), (1, .int 2), (3, .int (nI p0)), (5, .int (nI x)), (6, .int (nI s3)), (9, .int (nI i))], [.int (nI (2 * i)), .int (nI (p0 + 2)), .ref m0, .ref m0], M1) _
        refine ps_st (S' := (288, [(0, .ref m0), (1, .int 2), (3, .int (nI p0)), (5, .int (nI x)), (6, .int (nI s3)), (9, .int (nI i))], [.int ((nI (p0 + 2)) + (nI (2 * i))), .ref m0, .ref m0], M1)) rfl rfl rfl ?_
        rw [nI_add1 (p := p0 + 2) (k := 2 * i) (x := (nI (2 * i))) rfl (by omega)]
        show pl _ _ _ (_, [(0, .ref m0), (1, .int 2), (3, .int (nI p0)), (5, .int (nI x)), (6, .int (nI s3)), (9, .int (nI i))], [.int (nI (p0 + 2 + 2 * i)), .ref m0, .ref m0], M1) _
        refine pl_call (a := [.ref m0, .int (nI (p0 + 2 + 2 * i))]) (rest := [.ref m0]) rfl rfl rfl (rd_u2 (n := n) (f := f) (p := (p0 + 2 + 2 * i)) hR1 hF1 (by omega)) (fun v15 M16 q17 => ?_)
        obtain ⟨rfl, rfl⟩ := q17
        show pl _ _ _ (291, [(0, .ref m0), (1, .int 2), (3, .int (nI p0)), (5, .int (nI x)), (6, .int (nI s3)), (9, .int (nI i))], [.int (nI (by2 f (p0 + 2 + 2 * i))), .ref m0], M1) _
        have hu_288 := by2_lt f (p0 + 2 + 2 * i)
        refine pl_call (a := [.ref m0, .int (nI (by2 f (p0 + 2 + 2 * i)))]) (rest := []) rfl rfl rfl (rd_tag (n := n) (f := f) (tx := tx) (cN := cN) (A := A) (N := N) (mj := mj) (E := E) (k := (by2 f (p0 + 2 + 2 * i))) hR1 hl51 hl52 hl53 hF1 hY1 hP1 (hEP) (hN) (hmj) (by2_lt _ _)) (fun v18 M19 q20 => ?_)
        obtain ⟨rfl, rfl⟩ := q20
        show pl _ _ _ (294, [(0, .ref m0), (1, .int 2), (3, .int (nI p0)), (5, .int (nI x)), (6, .int (nI s3)), (9, .int (nI i))], [.int (nI (tg f E (by2 f (p0 + 2 + 2 * i))))], M1) _
        have htg_291 := tg_lt f E (by2 f (p0 + 2 + 2 * i))
        refine ps_st (S' := (296, [(0, .ref m0), (1, .int 2), (3, .int (nI p0)), (5, .int (nI x)), (6, .int (nI s3)), (9, .int (nI i))], [.int 7, .int (nI (tg f E (by2 f (p0 + 2 + 2 * i))))], M1)) rfl rfl rfl ?_
        refine ps_if2 (S1 := (323, [(0, .ref m0), (1, .int 2), (3, .int (nI p0)), (5, .int (nI x)), (6, .int (nI s3)), (9, .int (nI i))], [], M1)) (S2 := (299, [(0, .ref m0), (1, .int 2), (3, .int (nI p0)), (5, .int (nI x)), (6, .int (nI s3)), (9, .int (nI i))], [], M1)) rfl rfl rfl (fun c_296 => ?_) (fun c_296 => ?_)
        · have c_296 : (nI (tg f E (by2 f (p0 + 2 + 2 * i)))) = 7 := of_decide_eq_true c_296
          have n_296 : tg f E (by2 f (p0 + 2 + 2 * i)) = 7 := (eq_nI (p := tg f E (by2 f (p0 + 2 + 2 * i))) (n := 7) (Nat.lt_trans (tg_lt _ _ _) (by decide)) (by decide)).mp c_296
          refine ps_st (S' := (326, [(9, .int ((nI i) + 1)), (0, .ref m0), (1, .int 2), (3, .int (nI p0)), (5, .int (nI x)), (6, .int (nI s3))], [], M1)) rfl rfl rfl ?_
          rw [nI_add1 (p := i) (k := 1) (x := 1) rfl (by omega)]
          show pl _ _ _ (_, [(9, .int (nI (i + 1))), (0, .ref m0), (1, .int 2), (3, .int (nI p0)), (5, .int (nI x)), (6, .int (nI s3))], [], M1) _
          refine ps_st (S' := (268, [(0, .ref m0), (1, .int 2), (3, .int (nI p0)), (5, .int (nI x)), (6, .int (nI s3)), (9, .int (nI (i + 1)))], [], M1)) rfl rfl rfl ?_
          exact ih (i + 1) M1 I1 R1 hR1 hEI1 hER1 hl51 hl52 hl53 hF1 hY1 hP1 (hfe) (by omega) (hle) (by
              rw [← hs, clA_st (i := i) (by omega), if_pos (by omega)])
        · have c_296 : ¬ ((nI (tg f E (by2 f (p0 + 2 + 2 * i)))) = 7) := of_decide_eq_false c_296
          have n_296 : ¬ (tg f E (by2 f (p0 + 2 + 2 * i)) = 7) := fun h9 => c_296 ((eq_nI (p := tg f E (by2 f (p0 + 2 + 2 * i))) (n := 7) (Nat.lt_trans (tg_lt _ _ _) (by decide)) (by decide)).mpr h9)
          refine ps_st (S' := (300, [(0, .ref m0), (1, .int 2), (3, .int (nI p0)), (5, .int (nI x)), (6, .int (nI s3)), (9, .int (nI i))], [.int 2], M1)) rfl rfl rfl ?_
          refine ps_st (S' := (301, [(0, .ref m0), (1, .int 2), (3, .int (nI p0)), (5, .int (nI x)), (6, .int (nI s3)), (9, .int (nI i))], [.int 2, .int 2], M1)) rfl rfl rfl ?_
          refine ps_if2 (S1 := (309, [(0, .ref m0), (1, .int 2), (3, .int (nI p0)), (5, .int (nI x)), (6, .int (nI s3)), (9, .int (nI i))], [], M1)) (S2 := (304, [(0, .ref m0), (1, .int 2), (3, .int (nI p0)), (5, .int (nI x)), (6, .int (nI s3)), (9, .int (nI i))], [], M1)) rfl rfl rfl (fun c_301 => ?_) (fun c_301 => ?_)
          · exact absurd (of_decide_eq_true c_301) (by decide)
          refine ps_st (S' := (306, [(0, .ref m0), (1, .int 2), (3, .int (nI p0)), (5, .int (nI x)), (6, .int (nI s3)), (9, .int (nI i))], [.int 32], M1)) rfl rfl rfl ?_
          refine ps_st (S' := (322, [], [.int 32], M1)) rfl rfl rfl ?_
          exact ps_ret rfl rfl (Or.inr (Or.inl ⟨I1, R1, hfe, by rw [← hs, clA_st (i := i) (by omega), if_neg (by omega)], rfl, hR1, hEI1, hER1⟩))
  refine ps_st (S' := (1, [(0, .ref m0), (1, .int 2), (2, .int t), (3, .int (nI p0)), (4, .int (nI e)), (5, .int (nI x)), (6, .int (nI s3))], [.int 2], M)) rfl rfl rfl ?_
  refine ps_st (S' := (219, [(0, .ref m0), (1, .int 2), (2, .int t), (3, .int (nI p0)), (4, .int (nI e)), (5, .int (nI x)), (6, .int (nI s3))], [], M)) rfl rfl rfl ?_
  refine ps_st (S' := (221, [(0, .ref m0), (1, .int 2), (2, .int t), (3, .int (nI p0)), (4, .int (nI e)), (5, .int (nI x)), (6, .int (nI s3))], [.int (nI e)], M)) rfl rfl rfl ?_
  refine ps_st (S' := (222, [(0, .ref m0), (1, .int 2), (2, .int t), (3, .int (nI p0)), (4, .int (nI e)), (5, .int (nI x)), (6, .int (nI s3))], [.int (nI p0), .int (nI e)], M)) rfl rfl rfl ?_
  refine ps_st (S' := (223, [(0, .ref m0), (1, .int 2), (2, .int t), (3, .int (nI p0)), (4, .int (nI e)), (5, .int (nI x)), (6, .int (nI s3))], [.int ((nI e) - (nI p0))], M)) rfl rfl rfl ?_
  rw [nI_sub1 (p := e) (k := p0) (x := (nI p0)) rfl (by omega) (by omega)]
  show pl _ _ _ (_, [(0, .ref m0), (1, .int 2), (2, .int t), (3, .int (nI p0)), (4, .int (nI e)), (5, .int (nI x)), (6, .int (nI s3))], [.int (nI (e - p0))], M) _
  refine ps_st (S' := (224, [(0, .ref m0), (1, .int 2), (2, .int t), (3, .int (nI p0)), (4, .int (nI e)), (5, .int (nI x)), (6, .int (nI s3))], [.int 2, .int (nI (e - p0))], M)) rfl rfl rfl ?_
  refine ps_if2 (S1 := (243, [], [], M)) (S2 := (227, [(0, .ref m0), (1, .int 2), (2, .int t), (3, .int (nI p0)), (4, .int (nI e)), (5, .int (nI x)), (6, .int (nI s3))], [], M)) rfl rfl rfl (fun c_224 => ?_) (fun c_224 => ?_)
  · have c_224 : (nI (e - p0)) < 2 := of_decide_eq_true c_224
    have n_224 : e - p0 < 2 := (lt_nI (p := e - p0) (n := 2) (by omega) (by decide)).mp c_224
    refine ps_st (S' := (245, [], [.int 30], M)) rfl rfl rfl ?_
    exact ps_ret rfl rfl (Or.inl ⟨I, R, fe_2 (by omega), rfl, hR, hEI, hER⟩)
  · have c_224 : ¬ ((nI (e - p0)) < 2) := of_decide_eq_false c_224
    have n_224 : ¬ (e - p0 < 2) := fun h9 => c_224 ((lt_nI (p := e - p0) (n := 2) (by omega) (by decide)).mpr h9)
    refine ps_st (S' := (229, [(0, .ref m0), (1, .int 2), (2, .int t), (3, .int (nI p0)), (4, .int (nI e)), (5, .int (nI x)), (6, .int (nI s3))], [.int (nI e)], M)) rfl rfl rfl ?_
    refine ps_st (S' := (230, [(0, .ref m0), (1, .int 2), (2, .int t), (3, .int (nI p0)), (4, .int (nI e)), (5, .int (nI x)), (6, .int (nI s3))], [.int (nI p0), .int (nI e)], M)) rfl rfl rfl ?_
    refine ps_st (S' := (231, [(0, .ref m0), (1, .int 2), (2, .int t), (3, .int (nI p0)), (4, .int (nI e)), (5, .int (nI x)), (6, .int (nI s3))], [.int ((nI e) - (nI p0))], M)) rfl rfl rfl ?_
    rw [nI_sub1 (p := e) (k := p0) (x := (nI p0)) rfl (by omega) (by omega)]
    show pl _ _ _ (_, [(0, .ref m0), (1, .int 2), (2, .int t), (3, .int (nI p0)), (4, .int (nI e)), (5, .int (nI x)), (6, .int (nI s3))], [.int (nI (e - p0))], M) _
    refine ps_st (S' := (232, [(0, .ref m0), (1, .int 2), (2, .int t), (3, .int (nI p0)), (4, .int (nI e)), (5, .int (nI x)), (6, .int (nI s3))], [.int 2, .int (nI (e - p0))], M)) rfl rfl rfl ?_
    refine ps_st (S' := (233, [(0, .ref m0), (1, .int 2), (2, .int t), (3, .int (nI p0)), (4, .int (nI e)), (5, .int (nI x)), (6, .int (nI s3))], [.int 2, .int 2, .int (nI (e - p0))], M)) rfl rfl rfl ?_
    refine ps_st (S' := (234, [(0, .ref m0), (1, .int 2), (2, .int t), (3, .int (nI p0)), (4, .int (nI e)), (5, .int (nI x)), (6, .int (nI s3))], [.ref m0, .int 2, .int 2, .int (nI (e - p0))], M)) rfl rfl rfl ?_
    refine ps_st (S' := (235, [(0, .ref m0), (1, .int 2), (2, .int t), (3, .int (nI p0)), (4, .int (nI e)), (5, .int (nI x)), (6, .int (nI s3))], [.int (nI p0), .ref m0, .int 2, .int 2, .int (nI (e - p0))], M)) rfl rfl rfl ?_
    refine pl_call (a := [.ref m0, .int (nI p0)]) (rest := [.int 2, .int 2, .int (nI (e - p0))]) rfl rfl rfl (rd_u2 (n := n) (f := f) (p := p0) hR hF (by omega)) (fun v21 M22 q23 => ?_)
    obtain ⟨rfl, rfl⟩ := q23
    show pl _ _ _ (238, [(0, .ref m0), (1, .int 2), (2, .int t), (3, .int (nI p0)), (4, .int (nI e)), (5, .int (nI x)), (6, .int (nI s3))], [.int (nI (by2 f p0)), .int 2, .int 2, .int (nI (e - p0))], M) _
    have hu_235 := by2_lt f p0
    refine ps_st (S' := (239, [(0, .ref m0), (1, .int 2), (2, .int t), (3, .int (nI p0)), (4, .int (nI e)), (5, .int (nI x)), (6, .int (nI s3))], [.int (2 * (nI (by2 f p0))), .int 2, .int (nI (e - p0))], M)) rfl rfl rfl ?_
    rw [nI_mul1 (p := 2) (k := by2 f p0) (x := 2) (y := (nI (by2 f p0))) rfl rfl (by omega)]
    show pl _ _ _ (_, [(0, .ref m0), (1, .int 2), (2, .int t), (3, .int (nI p0)), (4, .int (nI e)), (5, .int (nI x)), (6, .int (nI s3))], [.int (nI (2 * (by2 f p0))), .int 2, .int (nI (e - p0))], M) _
    refine ps_st (S' := (240, [(0, .ref m0), (1, .int 2), (2, .int t), (3, .int (nI p0)), (4, .int (nI e)), (5, .int (nI x)), (6, .int (nI s3))], [.int (2 + (nI (2 * (by2 f p0)))), .int (nI (e - p0))], M)) rfl rfl rfl ?_
    rw [nI_add2 (p := 2) (k := 2 * (by2 f p0)) (x := 2) (y := (nI (2 * (by2 f p0)))) rfl rfl (by omega)]
    show pl _ _ _ (_, [(0, .ref m0), (1, .int 2), (2, .int t), (3, .int (nI p0)), (4, .int (nI e)), (5, .int (nI x)), (6, .int (nI s3))], [.int (nI (2 + 2 * (by2 f p0))), .int (nI (e - p0))], M) _
    refine ps_if2 (S1 := (246, [(0, .ref m0), (1, .int 2), (2, .int t), (3, .int (nI p0)), (4, .int (nI e)), (5, .int (nI x)), (6, .int (nI s3))], [], M)) (S2 := (243, [], [], M)) rfl rfl rfl (fun c_240 => ?_) (fun c_240 => ?_)
    · have c_240 : (nI (e - p0)) = (nI (2 + 2 * (by2 f p0))) := of_decide_eq_true c_240
      have n_240 : e - p0 = 2 + 2 * (by2 f p0) := (eq_nI (p := e - p0) (n := 2 + 2 * (by2 f p0)) (by omega) (by omega)).mp c_240
      refine ps_st (S' := (247, [(0, .ref m0), (1, .int 2), (2, .int t), (3, .int (nI p0)), (4, .int (nI e)), (5, .int (nI x)), (6, .int (nI s3))], [.int 2], M)) rfl rfl rfl ?_
      refine ps_st (S' := (249, [(0, .ref m0), (1, .int 2), (2, .int t), (3, .int (nI p0)), (4, .int (nI e)), (5, .int (nI x)), (6, .int (nI s3))], [.int 9, .int 2], M)) rfl rfl rfl ?_
      refine ps_if2 (S1 := (265, [(0, .ref m0), (1, .int 2), (3, .int (nI p0)), (5, .int (nI x)), (6, .int (nI s3))], [], M)) (S2 := (252, [(0, .ref m0), (1, .int 2), (2, .int t), (3, .int (nI p0)), (4, .int (nI e)), (5, .int (nI x)), (6, .int (nI s3))], [], M)) rfl rfl rfl (fun c_249 => ?_) (fun c_249 => ?_)
      rotate_left
      · exact absurd (by decide) (of_decide_eq_false c_249)
      refine ps_st (S' := (266, [(0, .ref m0), (1, .int 2), (3, .int (nI p0)), (5, .int (nI x)), (6, .int (nI s3))], [.int 0], M)) rfl rfl rfl ?_
      refine ps_st (S' := (268, [(0, .ref m0), (1, .int 2), (3, .int (nI p0)), (5, .int (nI x)), (6, .int (nI s3)), (9, .int 0)], [], M)) rfl rfl rfl ?_
      exact (LL kf) (0) M I R hR hEI hER hi51 hi52 hi53 hF hY hP ((fe_c (by decide) (by omega)).trans (congrArg some (by omega))) (by omega) (by omega) (rfl)
    · have c_240 : ¬ ((nI (e - p0)) = (nI (2 + 2 * (by2 f p0)))) := of_decide_eq_false c_240
      have n_240 : ¬ (e - p0 = 2 + 2 * (by2 f p0)) := fun h9 => c_240 ((eq_nI (p := e - p0) (n := 2 + 2 * (by2 f p0)) (by omega) (by omega)).mpr h9)
      refine ps_st (S' := (245, [], [.int 30], M)) rfl rfl rfl ?_
      exact ps_ret rfl rfl (Or.inl ⟨I, R, (fun h9 => (by have h8 := Option.some.inj ((fe_c (by decide) (by omega)).symm.trans h9); omega)), rfl, hR, hEI, hER⟩)
set_option maxHeartbeats 4000000 in
theorem rd_attr7 {g : xe_G} {m0 : Nat} {q : Nat → Nat} {z : Nat × Nat} {I : rI} {R : rR} {M : mi_H} {n : Nat} {f : Nat → Int32} {tx : List (List Nat)} {cN : Nat} {A : Nat → Nat} {N mj : Nat} {E : List (Nat × Nat)} {p0 e x s3 : Nat} {t : Int32} (hR : RS g m0 q z I R M) (hi51 : I 51 = some 0) (hi52 : I 52 = some (nI N)) (hi53 : I 53 = some (nI mj)) (hF : FK n f I R) (hY : SYT tx cN A I R) (hP : RPV f n E tx N I R) (hEP : EP f n E) (hN : N < 65536) (hmj : mj < 65536) (he : p0 ≤ e ∧ e ≤ n) (hs3 : s3 < 2048) : pt (mT g) 177 [.ref m0, .int 7, .int t, .int (nI p0), .int (nI e), .int (nI x), .int (nI s3)] M (fun v M' => (∃  (I' : rI) (R' : rR), (¬ s_fe f 8 p0 e = some e) ∧ v = some (.int 30) ∧ RS g m0 q z I' R' M' ∧ eqI [68] I I' ∧ eqR [] R R') ∨ (∃  (I' : rI) (R' : rR), (s_fe f 8 p0 e = some e) ∧ (clA f E (p0 + 2) (by2 f p0) 0 = 0 ∨ ¬ sb s3 6 = 0) ∧ v = some (.int 35) ∧ RS g m0 q z I' R' M' ∧ eqI [68] I I' ∧ eqR [] R R') ∨ (∃  (I' : rI) (R' : rR), (s_fe f 8 p0 e = some e) ∧ (¬ clA f E (p0 + 2) (by2 f p0) 0 = 0 ∧ sb s3 6 = 0) ∧ v = some (.int 0) ∧ RS g m0 q z I' R' M' ∧ eqI [68] I I' ∧ eqR [] R R' ∧ I' 68 = some (nI (by2 f p0)))) := by
  refine pt_in (b := mb_177 g) rfl (fun kf => ?_)
  show pl (mT g) kf (mb_177 g).2 (0, [(0, .ref m0), (1, .int 7), (2, .int t), (3, .int (nI p0)), (4, .int (nI e)), (5, .int (nI x)), (6, .int (nI s3))], [], M) _
  have hEI : eqI [68] I I := eqI.rf
  have hER : eqR [] R R := eqR.rf
  have hn := hF.1
  have LL : ∀ (kf : Nat), (∀ (i : Nat) (M1 : mi_H) (I1 : rI) (R1 : rR), (RS g m0 q z I1 R1 M1) → (eqI [68] I I1) → (eqR [] R R1) → (I1 51 = some 0) → (I1 52 = some (nI N)) → (I1 53 = some (nI mj)) → (FK n f I1 R1) → (SYT tx cN A I1 R1) → (RPV f n E tx N I1 R1) → (s_fe f 8 p0 e = some e) → (i ≤ by2 f p0) → (p0 + 2 + 2 * by2 f p0 = e) → (clA f E (p0 + 2) (by2 f p0 - i) i = clA f E (p0 + 2) (by2 f p0) 0) →  pl (mT g) kf (mb_177 g).2 (268, [(0, .ref m0), (1, .int 7), (3, .int (nI p0)), (5, .int (nI x)), (6, .int (nI s3)), (9, .int (nI i))], [], M1) (fun v M' => (∃  (I' : rI) (R' : rR), (¬ s_fe f 8 p0 e = some e) ∧ v = some (.int 30) ∧ RS g m0 q z I' R' M' ∧ eqI [68] I I' ∧ eqR [] R R') ∨ (∃  (I' : rI) (R' : rR), (s_fe f 8 p0 e = some e) ∧ (clA f E (p0 + 2) (by2 f p0) 0 = 0 ∨ ¬ sb s3 6 = 0) ∧ v = some (.int 35) ∧ RS g m0 q z I' R' M' ∧ eqI [68] I I' ∧ eqR [] R R') ∨ (∃  (I' : rI) (R' : rR), (s_fe f 8 p0 e = some e) ∧ (¬ clA f E (p0 + 2) (by2 f p0) 0 = 0 ∧ sb s3 6 = 0) ∧ v = some (.int 0) ∧ RS g m0 q z I' R' M' ∧ eqI [68] I I' ∧ eqR [] R R' ∧ I' 68 = some (nI (by2 f p0))))) := by
    intro kf
    induction kf with
    | zero => exact (by intros; exact pl_0)
    | succ kf ih =>
      intro i M1 I1 R1 hR1 hEI1 hER1 hl51 hl52 hl53 hF1 hY1 hP1 hfe hi hle hs
      have hn := hF1.1
      have hu9 := by2_lt f p0
      have hs6 := sb_lt s3 6
      have hs7 := sb_lt s3 7
      refine ps_st1 (S' := (270, [(0, .ref m0), (1, .int 7), (3, .int (nI p0)), (5, .int (nI x)), (6, .int (nI s3)), (9, .int (nI i))], [.int (nI i)], M1)) rfl rfl rfl ?_
      refine ps_st (S' := (271, [(0, .ref m0), (1, .int 7), (3, .int (nI p0)), (5, .int (nI x)), (6, .int (nI s3)), (9, .int (nI i))], [.ref m0, .int (nI i)], M1)) rfl rfl rfl ?_
      refine ps_st (S' := (272, [(0, .ref m0), (1, .int 7), (3, .int (nI p0)), (5, .int (nI x)), (6, .int (nI s3)), (9, .int (nI i))], [.int (nI p0), .ref m0, .int (nI i)], M1)) rfl rfl rfl ?_
      refine pl_call (a := [.ref m0, .int (nI p0)]) (rest := [.int (nI i)]) rfl rfl rfl (rd_u2 (n := n) (f := f) (p := p0) hR1 hF1 (by omega)) (fun v1 M2 q3 => ?_)
      obtain ⟨rfl, rfl⟩ := q3
      show pl _ _ _ (275, [(0, .ref m0), (1, .int 7), (3, .int (nI p0)), (5, .int (nI x)), (6, .int (nI s3)), (9, .int (nI i))], [.int (nI (by2 f p0)), .int (nI i)], M1) _
      have hu_272 := by2_lt f p0
      refine ps_if2 (S1 := (329, [(0, .ref m0), (1, .int 7), (3, .int (nI p0)), (5, .int (nI x)), (6, .int (nI s3)), (9, .int (nI i))], [], M1)) (S2 := (278, [(0, .ref m0), (1, .int 7), (3, .int (nI p0)), (5, .int (nI x)), (6, .int (nI s3)), (9, .int (nI i))], [], M1)) rfl rfl rfl (fun c_275 => ?_) (fun c_275 => ?_)
      · have c_275 : (nI (by2 f p0)) ≤ (nI i) := of_decide_eq_true c_275
        have n_275 : by2 f p0 ≤ i := (le_nI (p := by2 f p0) (n := i) (Nat.lt_trans (by2_lt _ _) (by decide)) (by omega)).mp c_275
        refine ps_st (S' := (330, [(0, .ref m0), (1, .int 7), (3, .int (nI p0)), (5, .int (nI x)), (6, .int (nI s3)), (9, .int (nI i))], [.int 7], M1)) rfl rfl rfl ?_
        refine ps_st (S' := (332, [(0, .ref m0), (1, .int 7), (3, .int (nI p0)), (5, .int (nI x)), (6, .int (nI s3)), (9, .int (nI i))], [.int 7, .int 7], M1)) rfl rfl rfl ?_
        refine ps_if2 (S1 := (349, [(0, .ref m0), (1, .int 7), (3, .int (nI p0)), (5, .int (nI x))], [], M1)) (S2 := (335, [(0, .ref m0), (1, .int 7), (3, .int (nI p0)), (5, .int (nI x)), (6, .int (nI s3)), (9, .int (nI i))], [], M1)) rfl rfl rfl (fun c_332 => ?_) (fun c_332 => ?_)
        · exact absurd (of_decide_eq_true c_332) (by decide)
        refine ps_st (S' := (337, [(0, .ref m0), (1, .int 7), (3, .int (nI p0)), (5, .int (nI x)), (6, .int (nI s3)), (9, .int (nI i))], [.int (nI s3)], M1)) rfl rfl rfl ?_
        refine ps_st (S' := (339, [(0, .ref m0), (1, .int 7), (3, .int (nI p0)), (5, .int (nI x)), (6, .int (nI s3)), (9, .int (nI i))], [.int 6, .int (nI s3)], M1)) rfl rfl rfl ?_
        refine ps_st (S' := (340, [(0, .ref m0), (1, .int 7), (3, .int (nI p0)), (5, .int (nI x)), (6, .int (nI s3)), (9, .int (nI i))], [.int ((nI s3) >>> (6 &&& 31))], M1)) rfl rfl rfl ?_
        refine ps_st (S' := (341, [(0, .ref m0), (1, .int 7), (3, .int (nI p0)), (5, .int (nI x)), (6, .int (nI s3)), (9, .int (nI i))], [.int 1, .int ((nI s3) >>> (6 &&& 31))], M1)) rfl rfl rfl ?_
        refine ps_st (S' := (342, [(0, .ref m0), (1, .int 7), (3, .int (nI p0)), (5, .int (nI x)), (6, .int (nI s3)), (9, .int (nI i))], [.int (((nI s3) >>> (6 &&& 31)) &&& 1)], M1)) rfl rfl rfl ?_
        rw [show (nI s3 >>> (6 &&& 31)) &&& 1 = nI (sb s3 6) from shr_k s3 (by omega) 6 (by decide)]
        show pl _ _ _ (_, [(0, .ref m0), (1, .int 7), (3, .int (nI p0)), (5, .int (nI x)), (6, .int (nI s3)), (9, .int (nI i))], [.int (nI (sb s3 6))], M1) _
        refine ps_st (S' := (343, [(0, .ref m0), (1, .int 7), (3, .int (nI p0)), (5, .int (nI x)), (6, .int (nI s3)), (9, .int (nI i))], [.int 1, .int (nI (sb s3 6))], M1)) rfl rfl rfl ?_
        refine ps_if2 (S1 := (349, [(0, .ref m0), (1, .int 7), (3, .int (nI p0)), (5, .int (nI x))], [], M1)) (S2 := (346, [(0, .ref m0), (1, .int 7), (3, .int (nI p0)), (5, .int (nI x)), (6, .int (nI s3)), (9, .int (nI i))], [], M1)) rfl rfl rfl (fun c_343 => ?_) (fun c_343 => ?_)
        · have c_343 : ¬ (nI (sb s3 6)) = 1 := of_decide_eq_true c_343
          have n_343 : ¬ (sb s3 6 = 1) := fun h9 => c_343 ((eq_nI (p := sb s3 6) (n := 1) (Nat.lt_trans (sb_lt _ _) (by decide)) (by decide)).mpr h9)
          refine ps_st (S' := (350, [(0, .ref m0), (1, .int 7), (3, .int (nI p0)), (5, .int (nI x))], [.int 7], M1)) rfl rfl rfl ?_
          refine ps_st (S' := (351, [(0, .ref m0), (1, .int 7), (3, .int (nI p0)), (5, .int (nI x))], [.int 2, .int 7], M1)) rfl rfl rfl ?_
          refine ps_if2 (S1 := (366, [(0, .ref m0), (1, .int 7), (3, .int (nI p0))], [], M1)) (S2 := (354, [(0, .ref m0), (1, .int 7), (3, .int (nI p0)), (5, .int (nI x))], [], M1)) rfl rfl rfl (fun c_351 => ?_) (fun c_351 => ?_)
          rotate_left
          · exact absurd (by decide) (of_decide_eq_false c_351)
          refine ps_st (S' := (367, [(0, .ref m0), (1, .int 7), (3, .int (nI p0))], [.int 7], M1)) rfl rfl rfl ?_
          refine ps_st (S' := (369, [(0, .ref m0), (1, .int 7), (3, .int (nI p0))], [.int 7, .int 7], M1)) rfl rfl rfl ?_
          refine ps_if2 (S1 := (381, [(0, .ref m0), (1, .int 7), (3, .int (nI p0))], [], M1)) (S2 := (372, [(0, .ref m0), (1, .int 7), (3, .int (nI p0))], [], M1)) rfl rfl rfl (fun c_369 => ?_) (fun c_369 => ?_)
          · exact absurd (of_decide_eq_true c_369) (by decide)
          refine ps_st (S' := (373, [(0, .ref m0), (1, .int 7), (3, .int (nI p0))], [.ref m0], M1)) rfl rfl rfl ?_
          refine ps_st (S' := (374, [(0, .ref m0), (1, .int 7), (3, .int (nI p0))], [.ref m0, .ref m0], M1)) rfl rfl rfl ?_
          refine ps_st (S' := (375, [(0, .ref m0), (1, .int 7), (3, .int (nI p0))], [.int (nI p0), .ref m0, .ref m0], M1)) rfl rfl rfl ?_
          refine pl_call (a := [.ref m0, .int (nI p0)]) (rest := [.ref m0]) rfl rfl rfl (rd_u2 (n := n) (f := f) (p := p0) hR1 hF1 (by omega)) (fun v4 M5 q6 => ?_)
          obtain ⟨rfl, rfl⟩ := q6
          show pl _ _ _ (378, [(0, .ref m0), (1, .int 7), (3, .int (nI p0))], [.int (nI (by2 f p0)), .ref m0], M1) _
          have hu_375 := by2_lt f p0
          refine pr_put (j := 68) rfl hR1 rfl (fun M7 I8 hR9 hi10 hI11 => ?_)
          have hi12 := (hI11 51 (by decide)).trans hl51
          have hi13 := (hI11 52 (by decide)).trans hl52
          have hi14 := (hI11 53 (by decide)).trans hl53
          have hF_15 := hF1.mono (pIx hI11 (by decide)) (fun _ _ => rfl)
          have hY_16 := hY1.mono (pIx hI11 (by decide)) (fun _ _ => rfl)
          have hP_17 := hP1.mono (pIx hI11 (by decide)) (fun _ _ => rfl)
          have hEI18 := hEI1.put hI11 (by decide)
          show pl _ _ _ (381, [(0, .ref m0), (1, .int 7), (3, .int (nI p0))], [], M7) _
          refine ps_st (S' := (382, [(0, .ref m0), (1, .int 7), (3, .int (nI p0))], [.int 7], M7)) rfl rfl rfl ?_
          refine ps_st (S' := (384, [(0, .ref m0), (1, .int 7), (3, .int (nI p0))], [.int 9, .int 7], M7)) rfl rfl rfl ?_
          refine ps_if2 (S1 := (396, [], [], M7)) (S2 := (387, [(0, .ref m0), (1, .int 7), (3, .int (nI p0))], [], M7)) rfl rfl rfl (fun c_384 => ?_) (fun c_384 => ?_)
          rotate_left
          · exact absurd (by decide) (of_decide_eq_false c_384)
          refine ps_st (S' := (397, [], [.int 0], M7)) rfl rfl rfl ?_
          exact ps_ret rfl rfl (Or.inr (Or.inr ⟨I8, R1, hfe, ⟨by rw [← hs, show by2 f p0 - i = 0 by omega]; exact Nat.one_ne_zero, by omega⟩, rfl, hR9, hEI18, hER1, hi10⟩))
        · have c_343 : ¬ (¬ (nI (sb s3 6)) = 1) := of_decide_eq_false c_343
          have n_343 : sb s3 6 = 1 := (eq_nI (p := sb s3 6) (n := 1) (Nat.lt_trans (sb_lt _ _) (by decide)) (by decide)).mp (Decidable.not_not.mp c_343)
          refine ps_st (S' := (348, [(0, .ref m0), (1, .int 7), (3, .int (nI p0)), (5, .int (nI x)), (6, .int (nI s3)), (9, .int (nI i))], [.int 35], M1)) rfl rfl rfl ?_
          exact ps_ret rfl rfl (Or.inr (Or.inl ⟨I1, R1, hfe, Or.inr (by omega), rfl, hR1, hEI1, hER1⟩))
      · have c_275 : ¬ ((nI (by2 f p0)) ≤ (nI i)) := of_decide_eq_false c_275
        have n_275 : ¬ (by2 f p0 ≤ i) := fun h9 => c_275 ((le_nI (p := by2 f p0) (n := i) (Nat.lt_trans (by2_lt _ _) (by decide)) (by omega)).mpr h9)
        refine ps_st (S' := (279, [(0, .ref m0), (1, .int 7), (3, .int (nI p0)), (5, .int (nI x)), (6, .int (nI s3)), (9, .int (nI i))], [.ref m0], M1)) rfl rfl rfl ?_
        refine ps_st (S' := (280, [(0, .ref m0), (1, .int 7), (3, .int (nI p0)), (5, .int (nI x)), (6, .int (nI s3)), (9, .int (nI i))], [.ref m0, .ref m0], M1)) rfl rfl rfl ?_
        refine ps_st (S' := (281, [(0, .ref m0), (1, .int 7), (3, .int (nI p0)), (5, .int (nI x)), (6, .int (nI s3)), (9, .int (nI i))], [.int (nI p0), .ref m0, .ref m0], M1)) rfl rfl rfl ?_
        refine ps_st (S' := (282, [(0, .ref m0), (1, .int 7), (3, .int (nI p0)), (5, .int (nI x)), (6, .int (nI s3)), (9, .int (nI i))], [.int 2, .int (nI p0), .ref m0, .ref m0], M1)) rfl rfl rfl ?_
        refine ps_st (S' := (283, [(0, .ref m0), (1, .int 7), (3, .int (nI p0)), (5, .int (nI x)), (6, .int (nI s3)), (9, .int (nI i))], [.int ((nI p0) + 2), .ref m0, .ref m0], M1)) rfl rfl rfl ?_
        rw [nI_add1 (p := p0) (k := 2) (x := 2) rfl (by omega)]
        show pl _ _ _ (_, [(0, .ref m0), (1, .int 7), (3, .int (nI p0)), (5, .int (nI x)), (6, .int (nI s3)), (9, .int (nI i))], [.int (nI (p0 + 2)), .ref m0, .ref m0], M1) _
        refine ps_st (S' := (284, [(0, .ref m0), (1, .int 7), (3, .int (nI p0)), (5, .int (nI x)), (6, .int (nI s3)), (9, .int (nI i))], [.int 2, .int (nI (p0 + 2)), .ref m0, .ref m0], M1)) rfl rfl rfl ?_
        refine ps_st (S' := (286, [(0, .ref m0), (1, .int 7), (3, .int (nI p0)), (5, .int (nI x)), (6, .int (nI s3)), (9, .int (nI i))], [.int (nI i), .int 2, .int (nI (p0 + 2)), .ref m0, .ref m0], M1)) rfl rfl rfl ?_
        refine ps_st (S' := (287, [(0, .ref m0), (1, .int 7), (3, .int (nI p0)), (5, .int (nI x)), (6, .int (nI s3)), (9, .int (nI i))], [.int (2 * (nI i)), .int (nI (p0 + 2)), .ref m0, .ref m0], M1)) rfl rfl rfl ?_
        rw [nI_mul1 (p := 2) (k := i) (x := 2) (y := (nI i)) rfl rfl (by omega)]
        show pl _ _ _ (_, [(0, .ref m0), (1, .int 7), (3, .int (nI p0)), (5, .int (nI x)), (6, .int (nI s3)), (9, .int (nI i))], [.int (nI (2 * i)), .int (nI (p0 + 2)), .ref m0, .ref m0], M1) _
        refine ps_st (S' := (288, [(0, .ref m0), (1, .int 7), (3, .int (nI p0)), (5, .int (nI x)), (6, .int (nI s3)), (9, .int (nI i))], [.int ((nI (p0 + 2)) + (nI (2 * i))), .ref m0, .ref m0], M1)) rfl rfl rfl ?_
        rw [nI_add1 (p := p0 + 2) (k := 2 * i) (x := (nI (2 * i))) rfl (by omega)]
        show pl _ _ _ (_, [(0, .ref m0), (1, .int 7), (3, .int (nI p0)), (5, .int (nI x)), (6, .int (nI s3)), (9, .int (nI i))], [.int (nI (p0 + 2 + 2 * i)), .ref m0, .ref m0], M1) _
        refine pl_call (a := [.ref m0, .int (nI (p0 + 2 + 2 * i))]) (rest := [.ref m0]) rfl rfl rfl (rd_u2 (n := n) (f := f) (p := (p0 + 2 + 2 * i)) hR1 hF1 (by omega)) (fun v19 M20 q21 => ?_)
        obtain ⟨rfl, rfl⟩ := q21
        show pl _ _ _ (291, [(0, .ref m0), (1, .int 7), (3, .int (nI p0)), (5, .int (nI x)), (6, .int (nI s3)), (9, .int (nI i))], [.int (nI (by2 f (p0 + 2 + 2 * i))), .ref m0], M1) _
        have hu_288 := by2_lt f (p0 + 2 + 2 * i)
        refine pl_call (a := [.ref m0, .int (nI (by2 f (p0 + 2 + 2 * i)))]) (rest := []) rfl rfl rfl (rd_tag (n := n) (f := f) (tx := tx) (cN := cN) (A := A) (N := N) (mj := mj) (E := E) (k := (by2 f (p0 + 2 + 2 * i))) hR1 hl51 hl52 hl53 hF1 hY1 hP1 (hEP) (hN) (hmj) (by2_lt _ _)) (fun v22 M23 q24 => ?_)
        obtain ⟨rfl, rfl⟩ := q24
        show pl _ _ _ (294, [(0, .ref m0), (1, .int 7), (3, .int (nI p0)), (5, .int (nI x)), (6, .int (nI s3)), (9, .int (nI i))], [.int (nI (tg f E (by2 f (p0 + 2 + 2 * i))))], M1) _
        have htg_291 := tg_lt f E (by2 f (p0 + 2 + 2 * i))
        refine ps_st (S' := (296, [(0, .ref m0), (1, .int 7), (3, .int (nI p0)), (5, .int (nI x)), (6, .int (nI s3)), (9, .int (nI i))], [.int 7, .int (nI (tg f E (by2 f (p0 + 2 + 2 * i))))], M1)) rfl rfl rfl ?_
        refine ps_if2 (S1 := (323, [(0, .ref m0), (1, .int 7), (3, .int (nI p0)), (5, .int (nI x)), (6, .int (nI s3)), (9, .int (nI i))], [], M1)) (S2 := (299, [(0, .ref m0), (1, .int 7), (3, .int (nI p0)), (5, .int (nI x)), (6, .int (nI s3)), (9, .int (nI i))], [], M1)) rfl rfl rfl (fun c_296 => ?_) (fun c_296 => ?_)
        · have c_296 : (nI (tg f E (by2 f (p0 + 2 + 2 * i)))) = 7 := of_decide_eq_true c_296
          have n_296 : tg f E (by2 f (p0 + 2 + 2 * i)) = 7 := (eq_nI (p := tg f E (by2 f (p0 + 2 + 2 * i))) (n := 7) (Nat.lt_trans (tg_lt _ _ _) (by decide)) (by decide)).mp c_296
          refine ps_st (S' := (326, [(9, .int ((nI i) + 1)), (0, .ref m0), (1, .int 7), (3, .int (nI p0)), (5, .int (nI x)), (6, .int (nI s3))], [], M1)) rfl rfl rfl ?_
          rw [nI_add1 (p := i) (k := 1) (x := 1) rfl (by omega)]
          show pl _ _ _ (_, [(9, .int (nI (i + 1))), (0, .ref m0), (1, .int 7), (3, .int (nI p0)), (5, .int (nI x)), (6, .int (nI s3))], [], M1) _
          refine ps_st (S' := (268, [(0, .ref m0), (1, .int 7), (3, .int (nI p0)), (5, .int (nI x)), (6, .int (nI s3)), (9, .int (nI (i + 1)))], [], M1)) rfl rfl rfl ?_
          exact ih (i + 1) M1 I1 R1 hR1 hEI1 hER1 hl51 hl52 hl53 hF1 hY1 hP1 (hfe) (by omega) (hle) (by
              rw [← hs, clA_st (i := i) (by omega), if_pos (by omega)])
        · have c_296 : ¬ ((nI (tg f E (by2 f (p0 + 2 + 2 * i)))) = 7) := of_decide_eq_false c_296
          have n_296 : ¬ (tg f E (by2 f (p0 + 2 + 2 * i)) = 7) := fun h9 => c_296 ((eq_nI (p := tg f E (by2 f (p0 + 2 + 2 * i))) (n := 7) (Nat.lt_trans (tg_lt _ _ _) (by decide)) (by decide)).mpr h9)
          refine ps_st (S' := (300, [(0, .ref m0), (1, .int 7), (3, .int (nI p0)), (5, .int (nI x)), (6, .int (nI s3)), (9, .int (nI i))], [.int 7], M1)) rfl rfl rfl ?_
          refine ps_st (S' := (301, [(0, .ref m0), (1, .int 7), (3, .int (nI p0)), (5, .int (nI x)), (6, .int (nI s3)), (9, .int (nI i))], [.int 2, .int 7], M1)) rfl rfl rfl ?_
          refine ps_if2 (S1 := (309, [(0, .ref m0), (1, .int 7), (3, .int (nI p0)), (5, .int (nI x)), (6, .int (nI s3)), (9, .int (nI i))], [], M1)) (S2 := (304, [(0, .ref m0), (1, .int 7), (3, .int (nI p0)), (5, .int (nI x)), (6, .int (nI s3)), (9, .int (nI i))], [], M1)) rfl rfl rfl (fun c_301 => ?_) (fun c_301 => ?_)
          rotate_left
          · exact absurd (by decide) (of_decide_eq_false c_301)
          refine ps_st (S' := (310, [(0, .ref m0), (1, .int 7), (3, .int (nI p0)), (5, .int (nI x)), (6, .int (nI s3)), (9, .int (nI i))], [.int 7], M1)) rfl rfl rfl ?_
          refine ps_st (S' := (312, [(0, .ref m0), (1, .int 7), (3, .int (nI p0)), (5, .int (nI x)), (6, .int (nI s3)), (9, .int (nI i))], [.int 7, .int 7], M1)) rfl rfl rfl ?_
          refine ps_if2 (S1 := (320, [(0, .ref m0), (1, .int 7), (3, .int (nI p0)), (5, .int (nI x)), (6, .int (nI s3)), (9, .int (nI i))], [], M1)) (S2 := (315, [(0, .ref m0), (1, .int 7), (3, .int (nI p0)), (5, .int (nI x)), (6, .int (nI s3)), (9, .int (nI i))], [], M1)) rfl rfl rfl (fun c_312 => ?_) (fun c_312 => ?_)
          · exact absurd (of_decide_eq_true c_312) (by decide)
          refine ps_st (S' := (317, [(0, .ref m0), (1, .int 7), (3, .int (nI p0)), (5, .int (nI x)), (6, .int (nI s3)), (9, .int (nI i))], [.int 35], M1)) rfl rfl rfl ?_
          refine ps_st (S' := (322, [], [.int 35], M1)) rfl rfl rfl ?_
          exact ps_ret rfl rfl (Or.inr (Or.inl ⟨I1, R1, hfe, Or.inl (by rw [← hs, clA_st (i := i) (by omega), if_neg (by omega)]), rfl, hR1, hEI1, hER1⟩))
  refine ps_st (S' := (1, [(0, .ref m0), (1, .int 7), (2, .int t), (3, .int (nI p0)), (4, .int (nI e)), (5, .int (nI x)), (6, .int (nI s3))], [.int 7], M)) rfl rfl rfl ?_
  refine ps_st (S' := (219, [(0, .ref m0), (1, .int 7), (2, .int t), (3, .int (nI p0)), (4, .int (nI e)), (5, .int (nI x)), (6, .int (nI s3))], [], M)) rfl rfl rfl ?_
  refine ps_st (S' := (221, [(0, .ref m0), (1, .int 7), (2, .int t), (3, .int (nI p0)), (4, .int (nI e)), (5, .int (nI x)), (6, .int (nI s3))], [.int (nI e)], M)) rfl rfl rfl ?_
  refine ps_st (S' := (222, [(0, .ref m0), (1, .int 7), (2, .int t), (3, .int (nI p0)), (4, .int (nI e)), (5, .int (nI x)), (6, .int (nI s3))], [.int (nI p0), .int (nI e)], M)) rfl rfl rfl ?_
  refine ps_st (S' := (223, [(0, .ref m0), (1, .int 7), (2, .int t), (3, .int (nI p0)), (4, .int (nI e)), (5, .int (nI x)), (6, .int (nI s3))], [.int ((nI e) - (nI p0))], M)) rfl rfl rfl ?_
  rw [nI_sub1 (p := e) (k := p0) (x := (nI p0)) rfl (by omega) (by omega)]
  show pl _ _ _ (_, [(0, .ref m0), (1, .int 7), (2, .int t), (3, .int (nI p0)), (4, .int (nI e)), (5, .int (nI x)), (6, .int (nI s3))], [.int (nI (e - p0))], M) _
  refine ps_st (S' := (224, [(0, .ref m0), (1, .int 7), (2, .int t), (3, .int (nI p0)), (4, .int (nI e)), (5, .int (nI x)), (6, .int (nI s3))], [.int 2, .int (nI (e - p0))], M)) rfl rfl rfl ?_
  refine ps_if2 (S1 := (243, [], [], M)) (S2 := (227, [(0, .ref m0), (1, .int 7), (2, .int t), (3, .int (nI p0)), (4, .int (nI e)), (5, .int (nI x)), (6, .int (nI s3))], [], M)) rfl rfl rfl (fun c_224 => ?_) (fun c_224 => ?_)
  · have c_224 : (nI (e - p0)) < 2 := of_decide_eq_true c_224
    have n_224 : e - p0 < 2 := (lt_nI (p := e - p0) (n := 2) (by omega) (by decide)).mp c_224
    refine ps_st (S' := (245, [], [.int 30], M)) rfl rfl rfl ?_
    exact ps_ret rfl rfl (Or.inl ⟨I, R, fe_2 (by omega), rfl, hR, hEI, hER⟩)
  · have c_224 : ¬ ((nI (e - p0)) < 2) := of_decide_eq_false c_224
    have n_224 : ¬ (e - p0 < 2) := fun h9 => c_224 ((lt_nI (p := e - p0) (n := 2) (by omega) (by decide)).mpr h9)
    refine ps_st (S' := (229, [(0, .ref m0), (1, .int 7), (2, .int t), (3, .int (nI p0)), (4, .int (nI e)), (5, .int (nI x)), (6, .int (nI s3))], [.int (nI e)], M)) rfl rfl rfl ?_
    refine ps_st (S' := (230, [(0, .ref m0), (1, .int 7), (2, .int t), (3, .int (nI p0)), (4, .int (nI e)), (5, .int (nI x)), (6, .int (nI s3))], [.int (nI p0), .int (nI e)], M)) rfl rfl rfl ?_
    refine ps_st (S' := (231, [(0, .ref m0), (1, .int 7), (2, .int t), (3, .int (nI p0)), (4, .int (nI e)), (5, .int (nI x)), (6, .int (nI s3))], [.int ((nI e) - (nI p0))], M)) rfl rfl rfl ?_
    rw [nI_sub1 (p := e) (k := p0) (x := (nI p0)) rfl (by omega) (by omega)]
    show pl _ _ _ (_, [(0, .ref m0), (1, .int 7), (2, .int t), (3, .int (nI p0)), (4, .int (nI e)), (5, .int (nI x)), (6, .int (nI s3))], [.int (nI (e - p0))], M) _
    refine ps_st (S' := (232, [(0, .ref m0), (1, .int 7), (2, .int t), (3, .int (nI p0)), (4, .int (nI e)), (5, .int (nI x)), (6, .int (nI s3))], [.int 2, .int (nI (e - p0))], M)) rfl rfl rfl ?_
    refine ps_st (S' := (233, [(0, .ref m0), (1, .int 7), (2, .int t), (3, .int (nI p0)), (4, .int (nI e)), (5, .int (nI x)), (6, .int (nI s3))], [.int 2, .int 2, .int (nI (e - p0))], M)) rfl rfl rfl ?_
    refine ps_st (S' := (234, [(0, .ref m0), (1, .int 7), (2, .int t), (3, .int (nI p0)), (4, .int (nI e)), (5, .int (nI x)), (6, .int (nI s3))], [.ref m0, .int 2, .int 2, .int (nI (e - p0))], M)) rfl rfl rfl ?_
    refine ps_st (S' := (235, [(0, .ref m0), (1, .int 7), (2, .int t), (3, .int (nI p0)), (4, .int (nI e)), (5, .int (nI x)), (6, .int (nI s3))], [.int (nI p0), .ref m0, .int 2, .int 2, .int (nI (e - p0))], M)) rfl rfl rfl ?_
    refine pl_call (a := [.ref m0, .int (nI p0)]) (rest := [.int 2, .int 2, .int (nI (e - p0))]) rfl rfl rfl (rd_u2 (n := n) (f := f) (p := p0) hR hF (by omega)) (fun v25 M26 q27 => ?_)
    obtain ⟨rfl, rfl⟩ := q27
    show pl _ _ _ (238, [(0, .ref m0), (1, .int 7), (2, .int t), (3, .int (nI p0)), (4, .int (nI e)), (5, .int (nI x)), (6, .int (nI s3))], [.int (nI (by2 f p0)), .int 2, .int 2, .int (nI (e - p0))], M) _
    have hu_235 := by2_lt f p0
    refine ps_st (S' := (239, [(0, .ref m0), (1, .int 7), (2, .int t), (3, .int (nI p0)), (4, .int (nI e)), (5, .int (nI x)), (6, .int (nI s3))], [.int (2 * (nI (by2 f p0))), .int 2, .int (nI (e - p0))], M)) rfl rfl rfl ?_
    rw [nI_mul1 (p := 2) (k := by2 f p0) (x := 2) (y := (nI (by2 f p0))) rfl rfl (by omega)]
    show pl _ _ _ (_, [(0, .ref m0), (1, .int 7), (2, .int t), (3, .int (nI p0)), (4, .int (nI e)), (5, .int (nI x)), (6, .int (nI s3))], [.int (nI (2 * (by2 f p0))), .int 2, .int (nI (e - p0))], M) _
    refine ps_st (S' := (240, [(0, .ref m0), (1, .int 7), (2, .int t), (3, .int (nI p0)), (4, .int (nI e)), (5, .int (nI x)), (6, .int (nI s3))], [.int (2 + (nI (2 * (by2 f p0)))), .int (nI (e - p0))], M)) rfl rfl rfl ?_
    rw [nI_add2 (p := 2) (k := 2 * (by2 f p0)) (x := 2) (y := (nI (2 * (by2 f p0)))) rfl rfl (by omega)]
    show pl _ _ _ (_, [(0, .ref m0), (1, .int 7), (2, .int t), (3, .int (nI p0)), (4, .int (nI e)), (5, .int (nI x)), (6, .int (nI s3))], [.int (nI (2 + 2 * (by2 f p0))), .int (nI (e - p0))], M) _
    refine ps_if2 (S1 := (246, [(0, .ref m0), (1, .int 7), (2, .int t), (3, .int (nI p0)), (4, .int (nI e)), (5, .int (nI x)), (6, .int (nI s3))], [], M)) (S2 := (243, [], [], M)) rfl rfl rfl (fun c_240 => ?_) (fun c_240 => ?_)
    · have c_240 : (nI (e - p0)) = (nI (2 + 2 * (by2 f p0))) := of_decide_eq_true c_240
      have n_240 : e - p0 = 2 + 2 * (by2 f p0) := (eq_nI (p := e - p0) (n := 2 + 2 * (by2 f p0)) (by omega) (by omega)).mp c_240
      refine ps_st (S' := (247, [(0, .ref m0), (1, .int 7), (2, .int t), (3, .int (nI p0)), (4, .int (nI e)), (5, .int (nI x)), (6, .int (nI s3))], [.int 7], M)) rfl rfl rfl ?_
      refine ps_st (S' := (249, [(0, .ref m0), (1, .int 7), (2, .int t), (3, .int (nI p0)), (4, .int (nI e)), (5, .int (nI x)), (6, .int (nI s3))], [.int 9, .int 7], M)) rfl rfl rfl ?_
      refine ps_if2 (S1 := (265, [(0, .ref m0), (1, .int 7), (3, .int (nI p0)), (5, .int (nI x)), (6, .int (nI s3))], [], M)) (S2 := (252, [(0, .ref m0), (1, .int 7), (2, .int t), (3, .int (nI p0)), (4, .int (nI e)), (5, .int (nI x)), (6, .int (nI s3))], [], M)) rfl rfl rfl (fun c_249 => ?_) (fun c_249 => ?_)
      rotate_left
      · exact absurd (by decide) (of_decide_eq_false c_249)
      refine ps_st (S' := (266, [(0, .ref m0), (1, .int 7), (3, .int (nI p0)), (5, .int (nI x)), (6, .int (nI s3))], [.int 0], M)) rfl rfl rfl ?_
      refine ps_st (S' := (268, [(0, .ref m0), (1, .int 7), (3, .int (nI p0)), (5, .int (nI x)), (6, .int (nI s3)), (9, .int 0)], [], M)) rfl rfl rfl ?_
      exact (LL kf) (0) M I R hR hEI hER hi51 hi52 hi53 hF hY hP ((fe_c (by decide) (by omega)).trans (congrArg some (by omega))) (by omega) (by omega) (rfl)
    · have c_240 : ¬ ((nI (e - p0)) = (nI (2 + 2 * (by2 f p0)))) := of_decide_eq_false c_240
      have n_240 : ¬ (e - p0 = 2 + 2 * (by2 f p0)) := fun h9 => c_240 ((eq_nI (p := e - p0) (n := 2 + 2 * (by2 f p0)) (by omega) (by omega)).mpr h9)
      refine ps_st (S' := (245, [], [.int 30], M)) rfl rfl rfl ?_
      exact ps_ret rfl rfl (Or.inl ⟨I, R, (fun h9 => (by have h8 := Option.some.inj ((fe_c (by decide) (by omega)).symm.trans h9); omega)), rfl, hR, hEI, hER⟩)
set_option maxHeartbeats 4000000 in
theorem rd_attr9 {g : xe_G} {m0 : Nat} {q : Nat → Nat} {z : Nat × Nat} {I : rI} {R : rR} {M : mi_H} {n : Nat} {f : Nat → Int32} {tx : List (List Nat)} {cN : Nat} {A : Nat → Nat} {N mj : Nat} {E : List (Nat × Nat)} {p0 e x s3 : Nat} {t : Int32} {fl : Nat} (hR : RS g m0 q z I R M) (hi51 : I 51 = some 0) (hi52 : I 52 = some (nI N)) (hi53 : I 53 = some (nI mj)) (hi58 : I 58 = some (nI fl)) (hF : FK n f I R) (hY : SYT tx cN A I R) (hP : RPV f n E tx N I R) (hEP : EP f n E) (hN : N < 65536) (hmj : mj < 65536) (he : p0 ≤ e ∧ e ≤ n) (hs3 : s3 < 2048) (hf6 : fl < 65536) : pt (mT g) 177 [.ref m0, .int 9, .int t, .int (nI p0), .int (nI e), .int (nI x), .int (nI s3)] M (fun v M' => (∃  (I' : rI) (R' : rR), (¬ s_fe f 10 p0 e = some e) ∧ v = some (.int 30) ∧ RS g m0 q z I' R' M' ∧ eqI [69] I I' ∧ eqR [] R R') ∨ (∃  (I' : rI) (R' : rR), (s_fe f 10 p0 e = some e) ∧ (clA f E (p0 + 2) (by2 f p0) 0 = 0 ∨ ¬ aN fl 16 = 0) ∧ v = some (.int 36) ∧ RS g m0 q z I' R' M' ∧ eqI [69] I I' ∧ eqR [] R R') ∨ (∃  (I' : rI) (R' : rR), (s_fe f 10 p0 e = some e) ∧ (¬ clA f E (p0 + 2) (by2 f p0) 0 = 0 ∧ aN fl 16 = 0) ∧ v = some (.int 0) ∧ RS g m0 q z I' R' M' ∧ eqI [69] I I' ∧ eqR [] R R' ∧ I' 69 = some (nI (by2 f p0)))) := by
  refine pt_in (b := mb_177 g) rfl (fun kf => ?_)
  show pl (mT g) kf (mb_177 g).2 (0, [(0, .ref m0), (1, .int 9), (2, .int t), (3, .int (nI p0)), (4, .int (nI e)), (5, .int (nI x)), (6, .int (nI s3))], [], M) _
  have hEI : eqI [69] I I := eqI.rf
  have hER : eqR [] R R := eqR.rf
  have hn := hF.1
  have LL : ∀ (kf : Nat), (∀ (i : Nat) (M1 : mi_H) (I1 : rI) (R1 : rR), (RS g m0 q z I1 R1 M1) → (eqI [69] I I1) → (eqR [] R R1) → (I1 51 = some 0) → (I1 52 = some (nI N)) → (I1 53 = some (nI mj)) → (I1 58 = some (nI fl)) → (FK n f I1 R1) → (SYT tx cN A I1 R1) → (RPV f n E tx N I1 R1) → (s_fe f 10 p0 e = some e) → (i ≤ by2 f p0) → (p0 + 2 + 2 * by2 f p0 = e) → (clA f E (p0 + 2) (by2 f p0 - i) i = clA f E (p0 + 2) (by2 f p0) 0) → (aN fl 16 = 0) →  pl (mT g) kf (mb_177 g).2 (268, [(0, .ref m0), (1, .int 9), (3, .int (nI p0)), (5, .int (nI x)), (6, .int (nI s3)), (9, .int (nI i))], [], M1) (fun v M' => (∃  (I' : rI) (R' : rR), (¬ s_fe f 10 p0 e = some e) ∧ v = some (.int 30) ∧ RS g m0 q z I' R' M' ∧ eqI [69] I I' ∧ eqR [] R R') ∨ (∃  (I' : rI) (R' : rR), (s_fe f 10 p0 e = some e) ∧ (clA f E (p0 + 2) (by2 f p0) 0 = 0 ∨ ¬ aN fl 16 = 0) ∧ v = some (.int 36) ∧ RS g m0 q z I' R' M' ∧ eqI [69] I I' ∧ eqR [] R R') ∨ (∃  (I' : rI) (R' : rR), (s_fe f 10 p0 e = some e) ∧ (¬ clA f E (p0 + 2) (by2 f p0) 0 = 0 ∧ aN fl 16 = 0) ∧ v = some (.int 0) ∧ RS g m0 q z I' R' M' ∧ eqI [69] I I' ∧ eqR [] R R' ∧ I' 69 = some (nI (by2 f p0))))) := by
    intro kf
    induction kf with
    | zero => exact (by intros; exact pl_0)
    | succ kf ih =>
      intro i M1 I1 R1 hR1 hEI1 hER1 hl51 hl52 hl53 hl58 hF1 hY1 hP1 hfe hi hle hs h16
      have hn := hF1.1
      have hu9 := by2_lt f p0
      have hs6 := sb_lt s3 6
      have hs7 := sb_lt s3 7
      refine ps_st1 (S' := (270, [(0, .ref m0), (1, .int 9), (3, .int (nI p0)), (5, .int (nI x)), (6, .int (nI s3)), (9, .int (nI i))], [.int (nI i)], M1)) rfl rfl rfl ?_
      refine ps_st (S' := (271, [(0, .ref m0), (1, .int 9), (3, .int (nI p0)), (5, .int (nI x)), (6, .int (nI s3)), (9, .int (nI i))], [.ref m0, .int (nI i)], M1)) rfl rfl rfl ?_
      refine ps_st (S' := (272, [(0, .ref m0), (1, .int 9), (3, .int (nI p0)), (5, .int (nI x)), (6, .int (nI s3)), (9, .int (nI i))], [.int (nI p0), .ref m0, .int (nI i)], M1)) rfl rfl rfl ?_
      refine pl_call (a := [.ref m0, .int (nI p0)]) (rest := [.int (nI i)]) rfl rfl rfl (rd_u2 (n := n) (f := f) (p := p0) hR1 hF1 (by omega)) (fun v1 M2 q3 => ?_)
      obtain ⟨rfl, rfl⟩ := q3
      show pl _ _ _ (275, [(0, .ref m0), (1, .int 9), (3, .int (nI p0)), (5, .int (nI x)), (6, .int (nI s3)), (9, .int (nI i))], [.int (nI (by2 f p0)), .int (nI i)], M1) _
      have hu_272 := by2_lt f p0
      refine ps_if2 (S1 := (329, [(0, .ref m0), (1, .int 9), (3, .int (nI p0)), (5, .int (nI x)), (6, .int (nI s3)), (9, .int (nI i))], [], M1)) (S2 := (278, [(0, .ref m0), (1, .int 9), (3, .int (nI p0)), (5, .int (nI x)), (6, .int (nI s3)), (9, .int (nI i))], [], M1)) rfl rfl rfl (fun c_275 => ?_) (fun c_275 => ?_)
      · have c_275 : (nI (by2 f p0)) ≤ (nI i) := of_decide_eq_true c_275
        have n_275 : by2 f p0 ≤ i := (le_nI (p := by2 f p0) (n := i) (Nat.lt_trans (by2_lt _ _) (by decide)) (by omega)).mp c_275
        refine ps_st (S' := (330, [(0, .ref m0), (1, .int 9), (3, .int (nI p0)), (5, .int (nI x)), (6, .int (nI s3)), (9, .int (nI i))], [.int 9], M1)) rfl rfl rfl ?_
        refine ps_st (S' := (332, [(0, .ref m0), (1, .int 9), (3, .int (nI p0)), (5, .int (nI x)), (6, .int (nI s3)), (9, .int (nI i))], [.int 7, .int 9], M1)) rfl rfl rfl ?_
        refine ps_if2 (S1 := (349, [(0, .ref m0), (1, .int 9), (3, .int (nI p0)), (5, .int (nI x))], [], M1)) (S2 := (335, [(0, .ref m0), (1, .int 9), (3, .int (nI p0)), (5, .int (nI x)), (6, .int (nI s3)), (9, .int (nI i))], [], M1)) rfl rfl rfl (fun c_332 => ?_) (fun c_332 => ?_)
        rotate_left
        · exact absurd (by decide) (of_decide_eq_false c_332)
        refine ps_st (S' := (350, [(0, .ref m0), (1, .int 9), (3, .int (nI p0)), (5, .int (nI x))], [.int 9], M1)) rfl rfl rfl ?_
        refine ps_st (S' := (351, [(0, .ref m0), (1, .int 9), (3, .int (nI p0)), (5, .int (nI x))], [.int 2, .int 9], M1)) rfl rfl rfl ?_
        refine ps_if2 (S1 := (366, [(0, .ref m0), (1, .int 9), (3, .int (nI p0))], [], M1)) (S2 := (354, [(0, .ref m0), (1, .int 9), (3, .int (nI p0)), (5, .int (nI x))], [], M1)) rfl rfl rfl (fun c_351 => ?_) (fun c_351 => ?_)
        rotate_left
        · exact absurd (by decide) (of_decide_eq_false c_351)
        refine ps_st (S' := (367, [(0, .ref m0), (1, .int 9), (3, .int (nI p0))], [.int 9], M1)) rfl rfl rfl ?_
        refine ps_st (S' := (369, [(0, .ref m0), (1, .int 9), (3, .int (nI p0))], [.int 7, .int 9], M1)) rfl rfl rfl ?_
        refine ps_if2 (S1 := (381, [(0, .ref m0), (1, .int 9), (3, .int (nI p0))], [], M1)) (S2 := (372, [(0, .ref m0), (1, .int 9), (3, .int (nI p0))], [], M1)) rfl rfl rfl (fun c_369 => ?_) (fun c_369 => ?_)
        rotate_left
        · exact absurd (by decide) (of_decide_eq_false c_369)
        refine ps_st (S' := (382, [(0, .ref m0), (1, .int 9), (3, .int (nI p0))], [.int 9], M1)) rfl rfl rfl ?_
        refine ps_st (S' := (384, [(0, .ref m0), (1, .int 9), (3, .int (nI p0))], [.int 9, .int 9], M1)) rfl rfl rfl ?_
        refine ps_if2 (S1 := (396, [], [], M1)) (S2 := (387, [(0, .ref m0), (1, .int 9), (3, .int (nI p0))], [], M1)) rfl rfl rfl (fun c_384 => ?_) (fun c_384 => ?_)
        · exact absurd (of_decide_eq_true c_384) (by decide)
        refine ps_st (S' := (388, [(0, .ref m0), (1, .int 9), (3, .int (nI p0))], [.ref m0], M1)) rfl rfl rfl ?_
        refine ps_st (S' := (389, [(0, .ref m0), (1, .int 9), (3, .int (nI p0))], [.ref m0, .ref m0], M1)) rfl rfl rfl ?_
        refine ps_st (S' := (390, [(0, .ref m0), (1, .int 9), (3, .int (nI p0))], [.int (nI p0), .ref m0, .ref m0], M1)) rfl rfl rfl ?_
        refine pl_call (a := [.ref m0, .int (nI p0)]) (rest := [.ref m0]) rfl rfl rfl (rd_u2 (n := n) (f := f) (p := p0) hR1 hF1 (by omega)) (fun v4 M5 q6 => ?_)
        obtain ⟨rfl, rfl⟩ := q6
        show pl _ _ _ (393, [(0, .ref m0), (1, .int 9), (3, .int (nI p0))], [.int (nI (by2 f p0)), .ref m0], M1) _
        have hu_390 := by2_lt f p0
        refine pr_put (j := 69) rfl hR1 rfl (fun M7 I8 hR9 hi10 hI11 => ?_)
        have hi12 := (hI11 51 (by decide)).trans hl51
        have hi13 := (hI11 52 (by decide)).trans hl52
        have hi14 := (hI11 53 (by decide)).trans hl53
        have hi15 := (hI11 58 (by decide)).trans hl58
        have hF_16 := hF1.mono (pIx hI11 (by decide)) (fun _ _ => rfl)
        have hY_17 := hY1.mono (pIx hI11 (by decide)) (fun _ _ => rfl)
        have hP_18 := hP1.mono (pIx hI11 (by decide)) (fun _ _ => rfl)
        have hEI19 := hEI1.put hI11 (by decide)
        show pl _ _ _ (396, [], [], M7) _
        refine ps_st (S' := (397, [], [.int 0], M7)) rfl rfl rfl ?_
        exact ps_ret rfl rfl (Or.inr (Or.inr ⟨I8, R1, hfe, ⟨by rw [← hs, show by2 f p0 - i = 0 by omega]; exact Nat.one_ne_zero, h16⟩, rfl, hR9, hEI19, hER1, hi10⟩))
      · have c_275 : ¬ ((nI (by2 f p0)) ≤ (nI i)) := of_decide_eq_false c_275
        have n_275 : ¬ (by2 f p0 ≤ i) := fun h9 => c_275 ((le_nI (p := by2 f p0) (n := i) (Nat.lt_trans (by2_lt _ _) (by decide)) (by omega)).mpr h9)
        refine ps_st (S' := (279, [(0, .ref m0), (1, .int 9), (3, .int (nI p0)), (5, .int (nI x)), (6, .int (nI s3)), (9, .int (nI i))], [.ref m0], M1)) rfl rfl rfl ?_
        refine ps_st (S' := (280, [(0, .ref m0), (1, .int 9), (3, .int (nI p0)), (5, .int (nI x)), (6, .int (nI s3)), (9, .int (nI i))], [.ref m0, .ref m0], M1)) rfl rfl rfl ?_
        refine ps_st (S' := (281, [(0, .ref m0), (1, .int 9), (3, .int (nI p0)), (5, .int (nI x)), (6, .int (nI s3)), (9, .int (nI i))], [.int (nI p0), .ref m0, .ref m0], M1)) rfl rfl rfl ?_
        refine ps_st (S' := (282, [(0, .ref m0), (1, .int 9), (3, .int (nI p0)), (5, .int (nI x)), (6, .int (nI s3)), (9, .int (nI i))], [.int 2, .int (nI p0), .ref m0, .ref m0], M1)) rfl rfl rfl ?_
        refine ps_st (S' := (283, [(0, .ref m0), (1, .int 9), (3, .int (nI p0)), (5, .int (nI x)), (6, .int (nI s3)), (9, .int (nI i))], [.int ((nI p0) + 2), .ref m0, .ref m0], M1)) rfl rfl rfl ?_
        rw [nI_add1 (p := p0) (k := 2) (x := 2) rfl (by omega)]
        show pl _ _ _ (_, [(0, .ref m0), (1, .int 9), (3, .int (nI p0)), (5, .int (nI x)), (6, .int (nI s3)), (9, .int (nI i))], [.int (nI (p0 + 2)), .ref m0, .ref m0], M1) _
        refine ps_st (S' := (284, [(0, .ref m0), (1, .int 9), (3, .int (nI p0)), (5, .int (nI x)), (6, .int (nI s3)), (9, .int (nI i))], [.int 2, .int (nI (p0 + 2)), .ref m0, .ref m0], M1)) rfl rfl rfl ?_
        refine ps_st (S' := (286, [(0, .ref m0), (1, .int 9), (3, .int (nI p0)), (5, .int (nI x)), (6, .int (nI s3)), (9, .int (nI i))], [.int (nI i), .int 2, .int (nI (p0 + 2)), .ref m0, .ref m0], M1)) rfl rfl rfl ?_
        refine ps_st (S' := (287, [(0, .ref m0), (1, .int 9), (3, .int (nI p0)), (5, .int (nI x)), (6, .int (nI s3)), (9, .int (nI i))], [.int (2 * (nI i)), .int (nI (p0 + 2)), .ref m0, .ref m0], M1)) rfl rfl rfl ?_
        rw [nI_mul1 (p := 2) (k := i) (x := 2) (y := (nI i)) rfl rfl (by omega)]
        show pl _ _ _ (_, [(0, .ref m0), (1, .int 9), (3, .int (nI p0)), (5, .int (nI x)), (6, .int (nI s3)), (9, .int (nI i))], [.int (nI (2 * i)), .int (nI (p0 + 2)), .ref m0, .ref m0], M1) _
        refine ps_st (S' := (288, [(0, .ref m0), (1, .int 9), (3, .int (nI p0)), (5, .int (nI x)), (6, .int (nI s3)), (9, .int (nI i))], [.int ((nI (p0 + 2)) + (nI (2 * i))), .ref m0, .ref m0], M1)) rfl rfl rfl ?_
        rw [nI_add1 (p := p0 + 2) (k := 2 * i) (x := (nI (2 * i))) rfl (by omega)]
        show pl _ _ _ (_, [(0, .ref m0), (1, .int 9), (3, .int (nI p0)), (5, .int (nI x)), (6, .int (nI s3)), (9, .int (nI i))], [.int (nI (p0 + 2 + 2 * i)), .ref m0, .ref m0], M1) _
        refine pl_call (a := [.ref m0, .int (nI (p0 + 2 + 2 * i))]) (rest := [.ref m0]) rfl rfl rfl (rd_u2 (n := n) (f := f) (p := (p0 + 2 + 2 * i)) hR1 hF1 (by omega)) (fun v20 M21 q22 => ?_)
        obtain ⟨rfl, rfl⟩ := q22
        show pl _ _ _ (291, [(0, .ref m0), (1, .int 9), (3, .int (nI p0)), (5, .int (nI x)), (6, .int (nI s3)), (9, .int (nI i))], [.int (nI (by2 f (p0 + 2 + 2 * i))), .ref m0], M1) _
        have hu_288 := by2_lt f (p0 + 2 + 2 * i)
        refine pl_call (a := [.ref m0, .int (nI (by2 f (p0 + 2 + 2 * i)))]) (rest := []) rfl rfl rfl (rd_tag (n := n) (f := f) (tx := tx) (cN := cN) (A := A) (N := N) (mj := mj) (E := E) (k := (by2 f (p0 + 2 + 2 * i))) hR1 hl51 hl52 hl53 hF1 hY1 hP1 (hEP) (hN) (hmj) (by2_lt _ _)) (fun v23 M24 q25 => ?_)
        obtain ⟨rfl, rfl⟩ := q25
        show pl _ _ _ (294, [(0, .ref m0), (1, .int 9), (3, .int (nI p0)), (5, .int (nI x)), (6, .int (nI s3)), (9, .int (nI i))], [.int (nI (tg f E (by2 f (p0 + 2 + 2 * i))))], M1) _
        have htg_291 := tg_lt f E (by2 f (p0 + 2 + 2 * i))
        refine ps_st (S' := (296, [(0, .ref m0), (1, .int 9), (3, .int (nI p0)), (5, .int (nI x)), (6, .int (nI s3)), (9, .int (nI i))], [.int 7, .int (nI (tg f E (by2 f (p0 + 2 + 2 * i))))], M1)) rfl rfl rfl ?_
        refine ps_if2 (S1 := (323, [(0, .ref m0), (1, .int 9), (3, .int (nI p0)), (5, .int (nI x)), (6, .int (nI s3)), (9, .int (nI i))], [], M1)) (S2 := (299, [(0, .ref m0), (1, .int 9), (3, .int (nI p0)), (5, .int (nI x)), (6, .int (nI s3)), (9, .int (nI i))], [], M1)) rfl rfl rfl (fun c_296 => ?_) (fun c_296 => ?_)
        · have c_296 : (nI (tg f E (by2 f (p0 + 2 + 2 * i)))) = 7 := of_decide_eq_true c_296
          have n_296 : tg f E (by2 f (p0 + 2 + 2 * i)) = 7 := (eq_nI (p := tg f E (by2 f (p0 + 2 + 2 * i))) (n := 7) (Nat.lt_trans (tg_lt _ _ _) (by decide)) (by decide)).mp c_296
          refine ps_st (S' := (326, [(9, .int ((nI i) + 1)), (0, .ref m0), (1, .int 9), (3, .int (nI p0)), (5, .int (nI x)), (6, .int (nI s3))], [], M1)) rfl rfl rfl ?_
          rw [nI_add1 (p := i) (k := 1) (x := 1) rfl (by omega)]
          show pl _ _ _ (_, [(9, .int (nI (i + 1))), (0, .ref m0), (1, .int 9), (3, .int (nI p0)), (5, .int (nI x)), (6, .int (nI s3))], [], M1) _
          refine ps_st (S' := (268, [(0, .ref m0), (1, .int 9), (3, .int (nI p0)), (5, .int (nI x)), (6, .int (nI s3)), (9, .int (nI (i + 1)))], [], M1)) rfl rfl rfl ?_
          exact ih (i + 1) M1 I1 R1 hR1 hEI1 hER1 hl51 hl52 hl53 hl58 hF1 hY1 hP1 (hfe) (by omega) (hle) (by
              rw [← hs, clA_st (i := i) (by omega), if_pos (by omega)]) (h16)
        · have c_296 : ¬ ((nI (tg f E (by2 f (p0 + 2 + 2 * i)))) = 7) := of_decide_eq_false c_296
          have n_296 : ¬ (tg f E (by2 f (p0 + 2 + 2 * i)) = 7) := fun h9 => c_296 ((eq_nI (p := tg f E (by2 f (p0 + 2 + 2 * i))) (n := 7) (Nat.lt_trans (tg_lt _ _ _) (by decide)) (by decide)).mpr h9)
          refine ps_st (S' := (300, [(0, .ref m0), (1, .int 9), (3, .int (nI p0)), (5, .int (nI x)), (6, .int (nI s3)), (9, .int (nI i))], [.int 9], M1)) rfl rfl rfl ?_
          refine ps_st (S' := (301, [(0, .ref m0), (1, .int 9), (3, .int (nI p0)), (5, .int (nI x)), (6, .int (nI s3)), (9, .int (nI i))], [.int 2, .int 9], M1)) rfl rfl rfl ?_
          refine ps_if2 (S1 := (309, [(0, .ref m0), (1, .int 9), (3, .int (nI p0)), (5, .int (nI x)), (6, .int (nI s3)), (9, .int (nI i))], [], M1)) (S2 := (304, [(0, .ref m0), (1, .int 9), (3, .int (nI p0)), (5, .int (nI x)), (6, .int (nI s3)), (9, .int (nI i))], [], M1)) rfl rfl rfl (fun c_301 => ?_) (fun c_301 => ?_)
          rotate_left
          · exact absurd (by decide) (of_decide_eq_false c_301)
          refine ps_st (S' := (310, [(0, .ref m0), (1, .int 9), (3, .int (nI p0)), (5, .int (nI x)), (6, .int (nI s3)), (9, .int (nI i))], [.int 9], M1)) rfl rfl rfl ?_
          refine ps_st (S' := (312, [(0, .ref m0), (1, .int 9), (3, .int (nI p0)), (5, .int (nI x)), (6, .int (nI s3)), (9, .int (nI i))], [.int 7, .int 9], M1)) rfl rfl rfl ?_
          refine ps_if2 (S1 := (320, [(0, .ref m0), (1, .int 9), (3, .int (nI p0)), (5, .int (nI x)), (6, .int (nI s3)), (9, .int (nI i))], [], M1)) (S2 := (315, [(0, .ref m0), (1, .int 9), (3, .int (nI p0)), (5, .int (nI x)), (6, .int (nI s3)), (9, .int (nI i))], [], M1)) rfl rfl rfl (fun c_312 => ?_) (fun c_312 => ?_)
          rotate_left
          · exact absurd (by decide) (of_decide_eq_false c_312)
          refine ps_st (S' := (322, [], [.int 36], M1)) rfl rfl rfl ?_
          exact ps_ret rfl rfl (Or.inr (Or.inl ⟨I1, R1, hfe, Or.inl (by rw [← hs, clA_st (i := i) (by omega), if_neg (by omega)]), rfl, hR1, hEI1, hER1⟩))
  refine ps_st (S' := (1, [(0, .ref m0), (1, .int 9), (2, .int t), (3, .int (nI p0)), (4, .int (nI e)), (5, .int (nI x)), (6, .int (nI s3))], [.int 9], M)) rfl rfl rfl ?_
  refine ps_st (S' := (219, [(0, .ref m0), (1, .int 9), (2, .int t), (3, .int (nI p0)), (4, .int (nI e)), (5, .int (nI x)), (6, .int (nI s3))], [], M)) rfl rfl rfl ?_
  refine ps_st (S' := (221, [(0, .ref m0), (1, .int 9), (2, .int t), (3, .int (nI p0)), (4, .int (nI e)), (5, .int (nI x)), (6, .int (nI s3))], [.int (nI e)], M)) rfl rfl rfl ?_
  refine ps_st (S' := (222, [(0, .ref m0), (1, .int 9), (2, .int t), (3, .int (nI p0)), (4, .int (nI e)), (5, .int (nI x)), (6, .int (nI s3))], [.int (nI p0), .int (nI e)], M)) rfl rfl rfl ?_
  refine ps_st (S' := (223, [(0, .ref m0), (1, .int 9), (2, .int t), (3, .int (nI p0)), (4, .int (nI e)), (5, .int (nI x)), (6, .int (nI s3))], [.int ((nI e) - (nI p0))], M)) rfl rfl rfl ?_
  rw [nI_sub1 (p := e) (k := p0) (x := (nI p0)) rfl (by omega) (by omega)]
  show pl _ _ _ (_, [(0, .ref m0), (1, .int 9), (2, .int t), (3, .int (nI p0)), (4, .int (nI e)), (5, .int (nI x)), (6, .int (nI s3))], [.int (nI (e - p0))], M) _
  refine ps_st (S' := (224, [(0, .ref m0), (1, .int 9), (2, .int t), (3, .int (nI p0)), (4, .int (nI e)), (5, .int (nI x)), (6, .int (nI s3))], [.int 2, .int (nI (e - p0))], M)) rfl rfl rfl ?_
  refine ps_if2 (S1 := (243, [], [], M)) (S2 := (227, [(0, .ref m0), (1, .int 9), (2, .int t), (3, .int (nI p0)), (4, .int (nI e)), (5, .int (nI x)), (6, .int (nI s3))], [], M)) rfl rfl rfl (fun c_224 => ?_) (fun c_224 => ?_)
  · have c_224 : (nI (e - p0)) < 2 := of_decide_eq_true c_224
    have n_224 : e - p0 < 2 := (lt_nI (p := e - p0) (n := 2) (by omega) (by decide)).mp c_224
    refine ps_st (S' := (245, [], [.int 30], M)) rfl rfl rfl ?_
    exact ps_ret rfl rfl (Or.inl ⟨I, R, fe_2 (by omega), rfl, hR, hEI, hER⟩)
  · have c_224 : ¬ ((nI (e - p0)) < 2) := of_decide_eq_false c_224
    have n_224 : ¬ (e - p0 < 2) := fun h9 => c_224 ((lt_nI (p := e - p0) (n := 2) (by omega) (by decide)).mpr h9)
    refine ps_st (S' := (229, [(0, .ref m0), (1, .int 9), (2, .int t), (3, .int (nI p0)), (4, .int (nI e)), (5, .int (nI x)), (6, .int (nI s3))], [.int (nI e)], M)) rfl rfl rfl ?_
    refine ps_st (S' := (230, [(0, .ref m0), (1, .int 9), (2, .int t), (3, .int (nI p0)), (4, .int (nI e)), (5, .int (nI x)), (6, .int (nI s3))], [.int (nI p0), .int (nI e)], M)) rfl rfl rfl ?_
    refine ps_st (S' := (231, [(0, .ref m0), (1, .int 9), (2, .int t), (3, .int (nI p0)), (4, .int (nI e)), (5, .int (nI x)), (6, .int (nI s3))], [.int ((nI e) - (nI p0))], M)) rfl rfl rfl ?_
    rw [nI_sub1 (p := e) (k := p0) (x := (nI p0)) rfl (by omega) (by omega)]
    show pl _ _ _ (_, [(0, .ref m0), (1, .int 9), (2, .int t), (3, .int (nI p0)), (4, .int (nI e)), (5, .int (nI x)), (6, .int (nI s3))], [.int (nI (e - p0))], M) _
    refine ps_st (S' := (232, [(0, .ref m0), (1, .int 9), (2, .int t), (3, .int (nI p0)), (4, .int (nI e)), (5, .int (nI x)), (6, .int (nI s3))], [.int 2, .int (nI (e - p0))], M)) rfl rfl rfl ?_
    refine ps_st (S' := (233, [(0, .ref m0), (1, .int 9), (2, .int t), (3, .int (nI p0)), (4, .int (nI e)), (5, .int (nI x)), (6, .int (nI s3))], [.int 2, .int 2, .int (nI (e - p0))], M)) rfl rfl rfl ?_
    refine ps_st (S' := (234, [(0, .ref m0), (1, .int 9), (2, .int t), (3, .int (nI p0)), (4, .int (nI e)), (5, .int (nI x)), (6, .int (nI s3))], [.ref m0, .int 2, .int 2, .int (nI (e - p0))], M)) rfl rfl rfl ?_
    refine ps_st (S' := (235, [(0, .ref m0), (1, .int 9), (2, .int t), (3, .int (nI p0)), (4, .int (nI e)), (5, .int (nI x)), (6, .int (nI s3))], [.int (nI p0), .ref m0, .int 2, .int 2, .int (nI (e - p0))], M)) rfl rfl rfl ?_
    refine pl_call (a := [.ref m0, .int (nI p0)]) (rest := [.int 2, .int 2, .int (nI (e - p0))]) rfl rfl rfl (rd_u2 (n := n) (f := f) (p := p0) hR hF (by omega)) (fun v26 M27 q28 => ?_)
    obtain ⟨rfl, rfl⟩ := q28
    show pl _ _ _ (238, [(0, .ref m0), (1, .int 9), (2, .int t), (3, .int (nI p0)), (4, .int (nI e)), (5, .int (nI x)), (6, .int (nI s3))], [.int (nI (by2 f p0)), .int 2, .int 2, .int (nI (e - p0))], M) _
    have hu_235 := by2_lt f p0
    refine ps_st (S' := (239, [(0, .ref m0), (1, .int 9), (2, .int t), (3, .int (nI p0)), (4, .int (nI e)), (5, .int (nI x)), (6, .int (nI s3))], [.int (2 * (nI (by2 f p0))), .int 2, .int (nI (e - p0))], M)) rfl rfl rfl ?_
    rw [nI_mul1 (p := 2) (k := by2 f p0) (x := 2) (y := (nI (by2 f p0))) rfl rfl (by omega)]
    show pl _ _ _ (_, [(0, .ref m0), (1, .int 9), (2, .int t), (3, .int (nI p0)), (4, .int (nI e)), (5, .int (nI x)), (6, .int (nI s3))], [.int (nI (2 * (by2 f p0))), .int 2, .int (nI (e - p0))], M) _
    refine ps_st (S' := (240, [(0, .ref m0), (1, .int 9), (2, .int t), (3, .int (nI p0)), (4, .int (nI e)), (5, .int (nI x)), (6, .int (nI s3))], [.int (2 + (nI (2 * (by2 f p0)))), .int (nI (e - p0))], M)) rfl rfl rfl ?_
    rw [nI_add2 (p := 2) (k := 2 * (by2 f p0)) (x := 2) (y := (nI (2 * (by2 f p0)))) rfl rfl (by omega)]
    show pl _ _ _ (_, [(0, .ref m0), (1, .int 9), (2, .int t), (3, .int (nI p0)), (4, .int (nI e)), (5, .int (nI x)), (6, .int (nI s3))], [.int (nI (2 + 2 * (by2 f p0))), .int (nI (e - p0))], M) _
    refine ps_if2 (S1 := (246, [(0, .ref m0), (1, .int 9), (2, .int t), (3, .int (nI p0)), (4, .int (nI e)), (5, .int (nI x)), (6, .int (nI s3))], [], M)) (S2 := (243, [], [], M)) rfl rfl rfl (fun c_240 => ?_) (fun c_240 => ?_)
    · have c_240 : (nI (e - p0)) = (nI (2 + 2 * (by2 f p0))) := of_decide_eq_true c_240
      have n_240 : e - p0 = 2 + 2 * (by2 f p0) := (eq_nI (p := e - p0) (n := 2 + 2 * (by2 f p0)) (by omega) (by omega)).mp c_240
      refine ps_st (S' := (247, [(0, .ref m0), (1, .int 9), (2, .int t), (3, .int (nI p0)), (4, .int (nI e)), (5, .int (nI x)), (6, .int (nI s3))], [.int 9], M)) rfl rfl rfl ?_
      refine ps_st (S' := (249, [(0, .ref m0), (1, .int 9), (2, .int t), (3, .int (nI p0)), (4, .int (nI e)), (5, .int (nI x)), (6, .int (nI s3))], [.int 9, .int 9], M)) rfl rfl rfl ?_
      refine ps_if2 (S1 := (265, [(0, .ref m0), (1, .int 9), (3, .int (nI p0)), (5, .int (nI x)), (6, .int (nI s3))], [], M)) (S2 := (252, [(0, .ref m0), (1, .int 9), (2, .int t), (3, .int (nI p0)), (4, .int (nI e)), (5, .int (nI x)), (6, .int (nI s3))], [], M)) rfl rfl rfl (fun c_249 => ?_) (fun c_249 => ?_)
      · exact absurd (of_decide_eq_true c_249) (by decide)
      refine ps_st (S' := (253, [(0, .ref m0), (1, .int 9), (2, .int t), (3, .int (nI p0)), (4, .int (nI e)), (5, .int (nI x)), (6, .int (nI s3))], [.ref m0], M)) rfl rfl rfl ?_
      refine pr_int (j := 58) (S' := (256, [(0, .ref m0), (1, .int 9), (2, .int t), (3, .int (nI p0)), (4, .int (nI e)), (5, .int (nI x)), (6, .int (nI s3))], [.int (nI fl)], M)) rfl hR rfl hi58 rfl ?_
      refine ps_st (S' := (258, [(0, .ref m0), (1, .int 9), (2, .int t), (3, .int (nI p0)), (4, .int (nI e)), (5, .int (nI x)), (6, .int (nI s3))], [.int 16, .int (nI fl)], M)) rfl rfl rfl ?_
      refine ps_st (S' := (259, [(0, .ref m0), (1, .int 9), (2, .int t), (3, .int (nI p0)), (4, .int (nI e)), (5, .int (nI x)), (6, .int (nI s3))], [.int ((nI fl) &&& 16)], M)) rfl rfl rfl ?_
      rw [nI_an (p := fl) (k := 16) (x := 16) rfl]
      show pl _ _ _ (_, [(0, .ref m0), (1, .int 9), (2, .int t), (3, .int (nI p0)), (4, .int (nI e)), (5, .int (nI x)), (6, .int (nI s3))], [.int (nI (aN fl 16))], M) _
      refine ps_if (S1 := (265, [(0, .ref m0), (1, .int 9), (3, .int (nI p0)), (5, .int (nI x)), (6, .int (nI s3))], [], M)) (S2 := (262, [(0, .ref m0), (1, .int 9), (2, .int t), (3, .int (nI p0)), (4, .int (nI e)), (5, .int (nI x)), (6, .int (nI s3))], [], M)) rfl rfl rfl (fun c_259 => ?_) (fun c_259 => ?_)
      · have c_259 : (nI (aN fl 16)) = 0 := of_decide_eq_true c_259
        have n_259 : aN fl 16 = 0 := (eq_nI (p := aN fl 16) (n := 0) (Nat.lt_of_le_of_lt (an_le _ _) (by decide)) (by decide)).mp c_259
        refine ps_st (S' := (266, [(0, .ref m0), (1, .int 9), (3, .int (nI p0)), (5, .int (nI x)), (6, .int (nI s3))], [.int 0], M)) rfl rfl rfl ?_
        refine ps_st (S' := (268, [(0, .ref m0), (1, .int 9), (3, .int (nI p0)), (5, .int (nI x)), (6, .int (nI s3)), (9, .int 0)], [], M)) rfl rfl rfl ?_
        exact (LL kf) (0) M I R hR hEI hER hi51 hi52 hi53 hi58 hF hY hP ((fe_c (by decide) (by omega)).trans (congrArg some (by omega))) (by omega) (by omega) (rfl) (by omega)
      · have c_259 : ¬ ((nI (aN fl 16)) = 0) := of_decide_eq_false c_259
        have n_259 : ¬ (aN fl 16 = 0) := fun h9 => c_259 ((eq_nI (p := aN fl 16) (n := 0) (Nat.lt_of_le_of_lt (an_le _ _) (by decide)) (by decide)).mpr h9)
        refine ps_st (S' := (264, [(0, .ref m0), (1, .int 9), (2, .int t), (3, .int (nI p0)), (4, .int (nI e)), (5, .int (nI x)), (6, .int (nI s3))], [.int 36], M)) rfl rfl rfl ?_
        exact ps_ret rfl rfl (Or.inr (Or.inl ⟨I, R, (fe_c (by decide) (by omega)).trans (congrArg some (by omega)), Or.inr (by omega), rfl, hR, hEI, hER⟩))
    · have c_240 : ¬ ((nI (e - p0)) = (nI (2 + 2 * (by2 f p0)))) := of_decide_eq_false c_240
      have n_240 : ¬ (e - p0 = 2 + 2 * (by2 f p0)) := fun h9 => c_240 ((eq_nI (p := e - p0) (n := 2 + 2 * (by2 f p0)) (by omega) (by omega)).mpr h9)
      refine ps_st (S' := (245, [], [.int 30], M)) rfl rfl rfl ?_
      exact ps_ret rfl rfl (Or.inl ⟨I, R, (fun h9 => (by have h8 := Option.some.inj ((fe_c (by decide) (by omega)).symm.trans h9); omega)), rfl, hR, hEI, hER⟩)
set_option maxHeartbeats 4000000 in
theorem rd_attr4 {g : xe_G} {m0 : Nat} {q : Nat → Nat} {z : Nat × Nat} {I : rI} {R : rR} {M : mi_H} {n : Nat} {f : Nat → Int32} {tx : List (List Nat)} {cN : Nat} {A : Nat → Nat} {N mj : Nat} {E : List (Nat × Nat)} {p0 e x s3 : Nat} {t : Int32} (hR : RS g m0 q z I R M) (hi51 : I 51 = some 0) (hi52 : I 52 = some (nI N)) (hi53 : I 53 = some (nI mj)) (hF : FK n f I R) (hY : SYT tx cN A I R) (hP : RPV f n E tx N I R) (hEP : EP f n E) (hN : N < 65536) (hmj : mj < 65536) (he : p0 ≤ e ∧ e ≤ n) (hs3 : s3 < 2048) : pt (mT g) 177 [.ref m0, .int 4, .int t, .int (nI p0), .int (nI e), .int (nI x), .int (nI s3)] M (fun v M' => (∃  (I' : rI) (R' : rR), (¬ s_fe f 5 p0 e = some e) ∧ v = some (.int 30) ∧ RS g m0 q z I' R' M' ∧ eqI [65] I I' ∧ eqR [] R R') ∨ (∃  (I' : rI) (R' : rR), (s_fe f 5 p0 e = some e) ∧ (inA f E (p0 + 2) (by2 f p0) 0 = 0) ∧ v = some (.int 33) ∧ RS g m0 q z I' R' M' ∧ eqI [65] I I' ∧ eqR [] R R') ∨ (∃  (I' : rI) (R' : rR), (s_fe f 5 p0 e = some e) ∧ (¬ inA f E (p0 + 2) (by2 f p0) 0 = 0) ∧ v = some (.int 0) ∧ RS g m0 q z I' R' M' ∧ eqI [65] I I' ∧ eqR [] R R' ∧ I' 65 = some (nI (by2 f p0)))) := by
  refine pt_in (b := mb_177 g) rfl (fun kf => ?_)
  show pl (mT g) kf (mb_177 g).2 (0, [(0, .ref m0), (1, .int 4), (2, .int t), (3, .int (nI p0)), (4, .int (nI e)), (5, .int (nI x)), (6, .int (nI s3))], [], M) _
  have hEI : eqI [65] I I := eqI.rf
  have hER : eqR [] R R := eqR.rf
  have hn := hF.1
  have LL : ∀ (kf : Nat), (∀ (i : Nat) (M1 : mi_H) (I1 : rI) (R1 : rR), (RS g m0 q z I1 R1 M1) → (eqI [65] I I1) → (eqR [] R R1) → (I1 51 = some 0) → (I1 52 = some (nI N)) → (I1 53 = some (nI mj)) → (FK n f I1 R1) → (SYT tx cN A I1 R1) → (RPV f n E tx N I1 R1) → (s_fe f 5 p0 e = some e) → (i ≤ by2 f p0) → (p0 + 2 + 8 * by2 f p0 = e) → (inA f E (p0 + 2) (by2 f p0 - i) i = inA f E (p0 + 2) (by2 f p0) 0) →  pl (mT g) kf (mb_177 g).2 (431, [(0, .ref m0), (3, .int (nI p0)), (9, .int (nI i))], [], M1) (fun v M' => (∃  (I' : rI) (R' : rR), (¬ s_fe f 5 p0 e = some e) ∧ v = some (.int 30) ∧ RS g m0 q z I' R' M' ∧ eqI [65] I I' ∧ eqR [] R R') ∨ (∃  (I' : rI) (R' : rR), (s_fe f 5 p0 e = some e) ∧ (inA f E (p0 + 2) (by2 f p0) 0 = 0) ∧ v = some (.int 33) ∧ RS g m0 q z I' R' M' ∧ eqI [65] I I' ∧ eqR [] R R') ∨ (∃  (I' : rI) (R' : rR), (s_fe f 5 p0 e = some e) ∧ (¬ inA f E (p0 + 2) (by2 f p0) 0 = 0) ∧ v = some (.int 0) ∧ RS g m0 q z I' R' M' ∧ eqI [65] I I' ∧ eqR [] R R' ∧ I' 65 = some (nI (by2 f p0))))) := by
    intro kf
    induction kf with
    | zero => exact (by intros; exact pl_0)
    | succ kf ih =>
      intro i M1 I1 R1 hR1 hEI1 hER1 hl51 hl52 hl53 hF1 hY1 hP1 hfe hi hle hs
      have hn := hF1.1
      have hu9 := by2_lt f p0
      have hs6 := sb_lt s3 6
      have hs7 := sb_lt s3 7
      refine ps_st1 (S' := (433, [(0, .ref m0), (3, .int (nI p0)), (9, .int (nI i))], [.int (nI i)], M1)) rfl rfl rfl ?_
      refine ps_st (S' := (434, [(0, .ref m0), (3, .int (nI p0)), (9, .int (nI i))], [.ref m0, .int (nI i)], M1)) rfl rfl rfl ?_
      refine ps_st (S' := (435, [(0, .ref m0), (3, .int (nI p0)), (9, .int (nI i))], [.int (nI p0), .ref m0, .int (nI i)], M1)) rfl rfl rfl ?_
      refine pl_call (a := [.ref m0, .int (nI p0)]) (rest := [.int (nI i)]) rfl rfl rfl (rd_u2 (n := n) (f := f) (p := p0) hR1 hF1 (by omega)) (fun v1 M2 q3 => ?_)
      obtain ⟨rfl, rfl⟩ := q3
      show pl _ _ _ (438, [(0, .ref m0), (3, .int (nI p0)), (9, .int (nI i))], [.int (nI (by2 f p0)), .int (nI i)], M1) _
      have hu_435 := by2_lt f p0
      refine ps_if2 (S1 := (531, [(0, .ref m0), (3, .int (nI p0)), (9, .int (nI i))], [], M1)) (S2 := (441, [(0, .ref m0), (3, .int (nI p0)), (9, .int (nI i))], [], M1)) rfl rfl rfl (fun c_438 => ?_) (fun c_438 => ?_)
      · have c_438 : (nI (by2 f p0)) ≤ (nI i) := of_decide_eq_true c_438
        have n_438 : by2 f p0 ≤ i := (le_nI (p := by2 f p0) (n := i) (Nat.lt_trans (by2_lt _ _) (by decide)) (by omega)).mp c_438
        refine ps_st (S' := (532, [(0, .ref m0), (3, .int (nI p0)), (9, .int (nI i))], [.ref m0], M1)) rfl rfl rfl ?_
        refine ps_st (S' := (533, [(0, .ref m0), (3, .int (nI p0)), (9, .int (nI i))], [.ref m0, .ref m0], M1)) rfl rfl rfl ?_
        refine ps_st (S' := (534, [(0, .ref m0), (3, .int (nI p0)), (9, .int (nI i))], [.int (nI p0), .ref m0, .ref m0], M1)) rfl rfl rfl ?_
        refine pl_call (a := [.ref m0, .int (nI p0)]) (rest := [.ref m0]) rfl rfl rfl (rd_u2 (n := n) (f := f) (p := p0) hR1 hF1 (by omega)) (fun v4 M5 q6 => ?_)
        obtain ⟨rfl, rfl⟩ := q6
        show pl _ _ _ (537, [(0, .ref m0), (3, .int (nI p0)), (9, .int (nI i))], [.int (nI (by2 f p0)), .ref m0], M1) _
        have hu_534 := by2_lt f p0
        refine pr_put (j := 65) rfl hR1 rfl (fun M7 I8 hR9 hi10 hI11 => ?_)
        have hi12 := (hI11 51 (by decide)).trans hl51
        have hi13 := (hI11 52 (by decide)).trans hl52
        have hi14 := (hI11 53 (by decide)).trans hl53
        have hF_15 := hF1.mono (pIx hI11 (by decide)) (fun _ _ => rfl)
        have hY_16 := hY1.mono (pIx hI11 (by decide)) (fun _ _ => rfl)
        have hP_17 := hP1.mono (pIx hI11 (by decide)) (fun _ _ => rfl)
        have hEI18 := hEI1.put hI11 (by decide)
        show pl _ _ _ (540, [(0, .ref m0), (3, .int (nI p0)), (9, .int (nI i))], [], M7) _
        refine ps_st (S' := (541, [(0, .ref m0), (3, .int (nI p0)), (9, .int (nI i))], [.int 0], M7)) rfl rfl rfl ?_
        exact ps_ret rfl rfl (Or.inr (Or.inr ⟨I8, R1, hfe, by rw [← hs, show by2 f p0 - i = 0 by omega]; exact Nat.one_ne_zero, rfl, hR9, hEI18, hER1, hi10⟩))
      · have c_438 : ¬ ((nI (by2 f p0)) ≤ (nI i)) := of_decide_eq_false c_438
        have n_438 : ¬ (by2 f p0 ≤ i) := fun h9 => c_438 ((le_nI (p := by2 f p0) (n := i) (Nat.lt_trans (by2_lt _ _) (by decide)) (by omega)).mpr h9)
        refine ps_st (S' := (442, [(0, .ref m0), (3, .int (nI p0)), (9, .int (nI i))], [.int (nI p0)], M1)) rfl rfl rfl ?_
        refine ps_st (S' := (443, [(0, .ref m0), (3, .int (nI p0)), (9, .int (nI i))], [.int 2, .int (nI p0)], M1)) rfl rfl rfl ?_
        refine ps_st (S' := (444, [(0, .ref m0), (3, .int (nI p0)), (9, .int (nI i))], [.int ((nI p0) + 2)], M1)) rfl rfl rfl ?_
        rw [nI_add1 (p := p0) (k := 2) (x := 2) rfl (by omega)]
        show pl _ _ _ (_, [(0, .ref m0), (3, .int (nI p0)), (9, .int (nI i))], [.int (nI (p0 + 2))], M1) _
        refine ps_st (S' := (446, [(0, .ref m0), (3, .int (nI p0)), (9, .int (nI i))], [.int 8, .int (nI (p0 + 2))], M1)) rfl rfl rfl ?_
        refine ps_st (S' := (448, [(0, .ref m0), (3, .int (nI p0)), (9, .int (nI i))], [.int (nI i), .int 8, .int (nI (p0 + 2))], M1)) rfl rfl rfl ?_
        refine ps_st (S' := (449, [(0, .ref m0), (3, .int (nI p0)), (9, .int (nI i))], [.int (8 * (nI i)), .int (nI (p0 + 2))], M1)) rfl rfl rfl ?_
        rw [nI_mul1 (p := 8) (k := i) (x := 8) (y := (nI i)) rfl rfl (by omega)]
        show pl _ _ _ (_, [(0, .ref m0), (3, .int (nI p0)), (9, .int (nI i))], [.int (nI (8 * i)), .int (nI (p0 + 2))], M1) _
        refine ps_st (S' := (450, [(0, .ref m0), (3, .int (nI p0)), (9, .int (nI i))], [.int ((nI (p0 + 2)) + (nI (8 * i)))], M1)) rfl rfl rfl ?_
        rw [nI_add1 (p := p0 + 2) (k := 8 * i) (x := (nI (8 * i))) rfl (by omega)]
        show pl _ _ _ (_, [(0, .ref m0), (3, .int (nI p0)), (9, .int (nI i))], [.int (nI (p0 + 2 + 8 * i))], M1) _
        refine ps_st (S' := (452, [(10, .int (nI (p0 + 2 + 8 * i))), (0, .ref m0), (3, .int (nI p0)), (9, .int (nI i))], [], M1)) rfl rfl rfl ?_
        refine ps_st (S' := (453, [(10, .int (nI (p0 + 2 + 8 * i))), (0, .ref m0), (3, .int (nI p0)), (9, .int (nI i))], [.ref m0], M1)) rfl rfl rfl ?_
        refine ps_st (S' := (454, [(10, .int (nI (p0 + 2 + 8 * i))), (0, .ref m0), (3, .int (nI p0)), (9, .int (nI i))], [.ref m0, .ref m0], M1)) rfl rfl rfl ?_
        refine ps_st (S' := (456, [(10, .int (nI (p0 + 2 + 8 * i))), (0, .ref m0), (3, .int (nI p0)), (9, .int (nI i))], [.int (nI (p0 + 2 + 8 * i)), .ref m0, .ref m0], M1)) rfl rfl rfl ?_
        refine pl_call (a := [.ref m0, .int (nI (p0 + 2 + 8 * i))]) (rest := [.ref m0]) rfl rfl rfl (rd_u2 (n := n) (f := f) (p := (p0 + 2 + 8 * i)) hR1 hF1 (by omega)) (fun v19 M20 q21 => ?_)
        obtain ⟨rfl, rfl⟩ := q21
        show pl _ _ _ (459, [(10, .int (nI (p0 + 2 + 8 * i))), (0, .ref m0), (3, .int (nI p0)), (9, .int (nI i))], [.int (nI (by2 f (p0 + 2 + 8 * i))), .ref m0], M1) _
        have hu_456 := by2_lt f (p0 + 2 + 8 * i)
        refine pl_call (a := [.ref m0, .int (nI (by2 f (p0 + 2 + 8 * i)))]) (rest := []) rfl rfl rfl (rd_tag (n := n) (f := f) (tx := tx) (cN := cN) (A := A) (N := N) (mj := mj) (E := E) (k := (by2 f (p0 + 2 + 8 * i))) hR1 hl51 hl52 hl53 hF1 hY1 hP1 (hEP) (hN) (hmj) (by2_lt _ _)) (fun v22 M23 q24 => ?_)
        obtain ⟨rfl, rfl⟩ := q24
        show pl _ _ _ (462, [(10, .int (nI (p0 + 2 + 8 * i))), (0, .ref m0), (3, .int (nI p0)), (9, .int (nI i))], [.int (nI (tg f E (by2 f (p0 + 2 + 8 * i))))], M1) _
        have htg_459 := tg_lt f E (by2 f (p0 + 2 + 8 * i))
        refine ps_st (S' := (464, [(10, .int (nI (p0 + 2 + 8 * i))), (0, .ref m0), (3, .int (nI p0)), (9, .int (nI i))], [.int 7, .int (nI (tg f E (by2 f (p0 + 2 + 8 * i))))], M1)) rfl rfl rfl ?_
        refine ps_if2 (S1 := (522, [], [], M1)) (S2 := (467, [(10, .int (nI (p0 + 2 + 8 * i))), (0, .ref m0), (3, .int (nI p0)), (9, .int (nI i))], [], M1)) rfl rfl rfl (fun c_464 => ?_) (fun c_464 => ?_)
        · have c_464 : ¬ (nI (tg f E (by2 f (p0 + 2 + 8 * i)))) = 7 := of_decide_eq_true c_464
          have n_464 : ¬ (tg f E (by2 f (p0 + 2 + 8 * i)) = 7) := fun h9 => c_464 ((eq_nI (p := tg f E (by2 f (p0 + 2 + 8 * i))) (n := 7) (Nat.lt_trans (tg_lt _ _ _) (by decide)) (by decide)).mpr h9)
          refine ps_st (S' := (524, [], [.int 33], M1)) rfl rfl rfl ?_
          exact ps_ret rfl rfl (Or.inr (Or.inl ⟨I1, R1, hfe, by rw [← hs, inA_st (i := i) (by omega), if_pos (by unfold inR; rw [if_neg (by omega)])], rfl, hR1, hEI1, hER1⟩))
        · have c_464 : ¬ (¬ (nI (tg f E (by2 f (p0 + 2 + 8 * i)))) = 7) := of_decide_eq_false c_464
          have n_464 : tg f E (by2 f (p0 + 2 + 8 * i)) = 7 := (eq_nI (p := tg f E (by2 f (p0 + 2 + 8 * i))) (n := 7) (Nat.lt_trans (tg_lt _ _ _) (by decide)) (by decide)).mp (Decidable.not_not.mp c_464)
          refine ps_st (S' := (468, [(10, .int (nI (p0 + 2 + 8 * i))), (0, .ref m0), (3, .int (nI p0)), (9, .int (nI i))], [.ref m0], M1)) rfl rfl rfl ?_
          refine ps_st (S' := (470, [(10, .int (nI (p0 + 2 + 8 * i))), (0, .ref m0), (3, .int (nI p0)), (9, .int (nI i))], [.int (nI (p0 + 2 + 8 * i)), .ref m0], M1)) rfl rfl rfl ?_
          refine ps_st (S' := (471, [(10, .int (nI (p0 + 2 + 8 * i))), (0, .ref m0), (3, .int (nI p0)), (9, .int (nI i))], [.int 2, .int (nI (p0 + 2 + 8 * i)), .ref m0], M1)) rfl rfl rfl ?_
          refine ps_st (S' := (472, [(10, .int (nI (p0 + 2 + 8 * i))), (0, .ref m0), (3, .int (nI p0)), (9, .int (nI i))], [.int ((nI (p0 + 2 + 8 * i)) + 2), .ref m0], M1)) rfl rfl rfl ?_
          rw [nI_add1 (p := p0 + 2 + 8 * i) (k := 2) (x := 2) rfl (by omega)]
          show pl _ _ _ (_, [(10, .int (nI (p0 + 2 + 8 * i))), (0, .ref m0), (3, .int (nI p0)), (9, .int (nI i))], [.int (nI (p0 + 2 + 8 * i + 2)), .ref m0], M1) _
          refine pl_call (a := [.ref m0, .int (nI (p0 + 2 + 8 * i + 2))]) (rest := []) rfl rfl rfl (rd_u2 (n := n) (f := f) (p := (p0 + 2 + 8 * i + 2)) hR1 hF1 (by omega)) (fun v25 M26 q27 => ?_)
          obtain ⟨rfl, rfl⟩ := q27
          show pl _ _ _ (475, [(10, .int (nI (p0 + 2 + 8 * i))), (0, .ref m0), (3, .int (nI p0)), (9, .int (nI i))], [.int (nI (by2 f (p0 + 2 + 8 * i + 2)))], M1) _
          have hu_472 := by2_lt f (p0 + 2 + 8 * i + 2)
          refine ps_if (S1 := (495, [(0, .ref m0), (3, .int (nI p0)), (9, .int (nI i)), (10, .int (nI (p0 + 2 + 8 * i)))], [], M1)) (S2 := (478, [(10, .int (nI (p0 + 2 + 8 * i))), (0, .ref m0), (3, .int (nI p0)), (9, .int (nI i))], [], M1)) rfl rfl rfl (fun c_475 => ?_) (fun c_475 => ?_)
          · have c_475 : (nI (by2 f (p0 + 2 + 8 * i + 2))) = 0 := of_decide_eq_true c_475
            have n_475 : by2 f (p0 + 2 + 8 * i + 2) = 0 := (eq_nI (p := by2 f (p0 + 2 + 8 * i + 2)) (n := 0) (Nat.lt_trans (by2_lt _ _) (by decide)) (by decide)).mp c_475
            refine ps_st (S' := (496, [(0, .ref m0), (3, .int (nI p0)), (9, .int (nI i)), (10, .int (nI (p0 + 2 + 8 * i)))], [.ref m0], M1)) rfl rfl rfl ?_
            refine ps_st (S' := (498, [(0, .ref m0), (3, .int (nI p0)), (9, .int (nI i)), (10, .int (nI (p0 + 2 + 8 * i)))], [.int (nI (p0 + 2 + 8 * i)), .ref m0], M1)) rfl rfl rfl ?_
            refine ps_st (S' := (499, [(0, .ref m0), (3, .int (nI p0)), (9, .int (nI i)), (10, .int (nI (p0 + 2 + 8 * i)))], [.int 4, .int (nI (p0 + 2 + 8 * i)), .ref m0], M1)) rfl rfl rfl ?_
            refine ps_st (S' := (500, [(0, .ref m0), (3, .int (nI p0)), (9, .int (nI i)), (10, .int (nI (p0 + 2 + 8 * i)))], [.int ((nI (p0 + 2 + 8 * i)) + 4), .ref m0], M1)) rfl rfl rfl ?_
            rw [nI_add1 (p := p0 + 2 + 8 * i) (k := 4) (x := 4) rfl (by omega)]
            show pl _ _ _ (_, [(0, .ref m0), (3, .int (nI p0)), (9, .int (nI i)), (10, .int (nI (p0 + 2 + 8 * i)))], [.int (nI (p0 + 2 + 8 * i + 4)), .ref m0], M1) _
            refine pl_call (a := [.ref m0, .int (nI (p0 + 2 + 8 * i + 4))]) (rest := []) rfl rfl rfl (rd_u2 (n := n) (f := f) (p := (p0 + 2 + 8 * i + 4)) hR1 hF1 (by omega)) (fun v28 M29 q30 => ?_)
            obtain ⟨rfl, rfl⟩ := q30
            show pl _ _ _ (503, [(0, .ref m0), (3, .int (nI p0)), (9, .int (nI i)), (10, .int (nI (p0 + 2 + 8 * i)))], [.int (nI (by2 f (p0 + 2 + 8 * i + 4)))], M1) _
            have hu_500 := by2_lt f (p0 + 2 + 8 * i + 4)
            refine ps_if (S1 := (525, [(0, .ref m0), (3, .int (nI p0)), (9, .int (nI i))], [], M1)) (S2 := (506, [(0, .ref m0), (3, .int (nI p0)), (9, .int (nI i)), (10, .int (nI (p0 + 2 + 8 * i)))], [], M1)) rfl rfl rfl (fun c_503 => ?_) (fun c_503 => ?_)
            · have c_503 : (nI (by2 f (p0 + 2 + 8 * i + 4))) = 0 := of_decide_eq_true c_503
              have n_503 : by2 f (p0 + 2 + 8 * i + 4) = 0 := (eq_nI (p := by2 f (p0 + 2 + 8 * i + 4)) (n := 0) (Nat.lt_trans (by2_lt _ _) (by decide)) (by decide)).mp c_503
              refine ps_st (S' := (528, [(9, .int ((nI i) + 1)), (0, .ref m0), (3, .int (nI p0))], [], M1)) rfl rfl rfl ?_
              rw [nI_add1 (p := i) (k := 1) (x := 1) rfl (by omega)]
              show pl _ _ _ (_, [(9, .int (nI (i + 1))), (0, .ref m0), (3, .int (nI p0))], [], M1) _
              refine ps_st (S' := (431, [(0, .ref m0), (3, .int (nI p0)), (9, .int (nI (i + 1)))], [], M1)) rfl rfl rfl ?_
              exact ih (i + 1) M1 I1 R1 hR1 hEI1 hER1 hl51 hl52 hl53 hF1 hY1 hP1 (hfe) (by omega) (hle) (by
                  rw [← hs, inA_st (i := i) (by omega), if_neg (by unfold inR; rw [if_pos (by omega)]; decide)])
            · have c_503 : ¬ ((nI (by2 f (p0 + 2 + 8 * i + 4))) = 0) := of_decide_eq_false c_503
              have n_503 : ¬ (by2 f (p0 + 2 + 8 * i + 4) = 0) := fun h9 => c_503 ((eq_nI (p := by2 f (p0 + 2 + 8 * i + 4)) (n := 0) (Nat.lt_trans (by2_lt _ _) (by decide)) (by decide)).mpr h9)
              refine ps_st (S' := (507, [(0, .ref m0), (3, .int (nI p0)), (9, .int (nI i)), (10, .int (nI (p0 + 2 + 8 * i)))], [.ref m0], M1)) rfl rfl rfl ?_
              refine ps_st (S' := (508, [(0, .ref m0), (3, .int (nI p0)), (9, .int (nI i)), (10, .int (nI (p0 + 2 + 8 * i)))], [.ref m0, .ref m0], M1)) rfl rfl rfl ?_
              refine ps_st (S' := (510, [(0, .ref m0), (3, .int (nI p0)), (9, .int (nI i)), (10, .int (nI (p0 + 2 + 8 * i)))], [.int (nI (p0 + 2 + 8 * i)), .ref m0, .ref m0], M1)) rfl rfl rfl ?_
              refine ps_st (S' := (511, [(0, .ref m0), (3, .int (nI p0)), (9, .int (nI i)), (10, .int (nI (p0 + 2 + 8 * i)))], [.int 4, .int (nI (p0 + 2 + 8 * i)), .ref m0, .ref m0], M1)) rfl rfl rfl ?_
              refine ps_st (S' := (512, [(0, .ref m0), (3, .int (nI p0)), (9, .int (nI i)), (10, .int (nI (p0 + 2 + 8 * i)))], [.int ((nI (p0 + 2 + 8 * i)) + 4), .ref m0, .ref m0], M1)) rfl rfl rfl ?_
              rw [nI_add1 (p := p0 + 2 + 8 * i) (k := 4) (x := 4) rfl (by omega)]
              show pl _ _ _ (_, [(0, .ref m0), (3, .int (nI p0)), (9, .int (nI i)), (10, .int (nI (p0 + 2 + 8 * i)))], [.int (nI (p0 + 2 + 8 * i + 4)), .ref m0, .ref m0], M1) _
              refine pl_call (a := [.ref m0, .int (nI (p0 + 2 + 8 * i + 4))]) (rest := [.ref m0]) rfl rfl rfl (rd_u2 (n := n) (f := f) (p := (p0 + 2 + 8 * i + 4)) hR1 hF1 (by omega)) (fun v31 M32 q33 => ?_)
              obtain ⟨rfl, rfl⟩ := q33
              show pl _ _ _ (515, [(0, .ref m0), (3, .int (nI p0)), (9, .int (nI i)), (10, .int (nI (p0 + 2 + 8 * i)))], [.int (nI (by2 f (p0 + 2 + 8 * i + 4))), .ref m0], M1) _
              have hu_512 := by2_lt f (p0 + 2 + 8 * i + 4)
              refine pl_call (a := [.ref m0, .int (nI (by2 f (p0 + 2 + 8 * i + 4)))]) (rest := []) rfl rfl rfl (rd_tag (n := n) (f := f) (tx := tx) (cN := cN) (A := A) (N := N) (mj := mj) (E := E) (k := (by2 f (p0 + 2 + 8 * i + 4))) hR1 hl51 hl52 hl53 hF1 hY1 hP1 (hEP) (hN) (hmj) (by2_lt _ _)) (fun v34 M35 q36 => ?_)
              obtain ⟨rfl, rfl⟩ := q36
              show pl _ _ _ (518, [(0, .ref m0), (3, .int (nI p0)), (9, .int (nI i)), (10, .int (nI (p0 + 2 + 8 * i)))], [.int (nI (tg f E (by2 f (p0 + 2 + 8 * i + 4))))], M1) _
              have htg_515 := tg_lt f E (by2 f (p0 + 2 + 8 * i + 4))
              refine ps_st (S' := (519, [(0, .ref m0), (3, .int (nI p0)), (9, .int (nI i)), (10, .int (nI (p0 + 2 + 8 * i)))], [.int 1, .int (nI (tg f E (by2 f (p0 + 2 + 8 * i + 4))))], M1)) rfl rfl rfl ?_
              refine ps_if2 (S1 := (525, [(0, .ref m0), (3, .int (nI p0)), (9, .int (nI i))], [], M1)) (S2 := (522, [], [], M1)) rfl rfl rfl (fun c_519 => ?_) (fun c_519 => ?_)
              · have c_519 : (nI (tg f E (by2 f (p0 + 2 + 8 * i + 4)))) = 1 := of_decide_eq_true c_519
                have n_519 : tg f E (by2 f (p0 + 2 + 8 * i + 4)) = 1 := (eq_nI (p := tg f E (by2 f (p0 + 2 + 8 * i + 4))) (n := 1) (Nat.lt_trans (tg_lt _ _ _) (by decide)) (by decide)).mp c_519
                refine ps_st (S' := (528, [(9, .int ((nI i) + 1)), (0, .ref m0), (3, .int (nI p0))], [], M1)) rfl rfl rfl ?_
                rw [nI_add1 (p := i) (k := 1) (x := 1) rfl (by omega)]
                show pl _ _ _ (_, [(9, .int (nI (i + 1))), (0, .ref m0), (3, .int (nI p0))], [], M1) _
                refine ps_st (S' := (431, [(0, .ref m0), (3, .int (nI p0)), (9, .int (nI (i + 1)))], [], M1)) rfl rfl rfl ?_
                exact ih (i + 1) M1 I1 R1 hR1 hEI1 hER1 hl51 hl52 hl53 hF1 hY1 hP1 (hfe) (by omega) (hle) (by
                    rw [← hs, inA_st (i := i) (by omega), if_neg (by unfold inR; rw [if_pos (by omega)]; decide)])
              · have c_519 : ¬ ((nI (tg f E (by2 f (p0 + 2 + 8 * i + 4)))) = 1) := of_decide_eq_false c_519
                have n_519 : ¬ (tg f E (by2 f (p0 + 2 + 8 * i + 4)) = 1) := fun h9 => c_519 ((eq_nI (p := tg f E (by2 f (p0 + 2 + 8 * i + 4))) (n := 1) (Nat.lt_trans (tg_lt _ _ _) (by decide)) (by decide)).mpr h9)
                refine ps_st (S' := (524, [], [.int 33], M1)) rfl rfl rfl ?_
                exact ps_ret rfl rfl (Or.inr (Or.inl ⟨I1, R1, hfe, by rw [← hs, inA_st (i := i) (by omega), if_pos (by unfold inR; rw [if_neg (by omega)])], rfl, hR1, hEI1, hER1⟩))
          · have c_475 : ¬ ((nI (by2 f (p0 + 2 + 8 * i + 2))) = 0) := of_decide_eq_false c_475
            have n_475 : ¬ (by2 f (p0 + 2 + 8 * i + 2) = 0) := fun h9 => c_475 ((eq_nI (p := by2 f (p0 + 2 + 8 * i + 2)) (n := 0) (Nat.lt_trans (by2_lt _ _) (by decide)) (by decide)).mpr h9)
            refine ps_st (S' := (479, [(10, .int (nI (p0 + 2 + 8 * i))), (0, .ref m0), (3, .int (nI p0)), (9, .int (nI i))], [.ref m0], M1)) rfl rfl rfl ?_
            refine ps_st (S' := (480, [(10, .int (nI (p0 + 2 + 8 * i))), (0, .ref m0), (3, .int (nI p0)), (9, .int (nI i))], [.ref m0, .ref m0], M1)) rfl rfl rfl ?_
            refine ps_st (S' := (482, [(10, .int (nI (p0 + 2 + 8 * i))), (0, .ref m0), (3, .int (nI p0)), (9, .int (nI i))], [.int (nI (p0 + 2 + 8 * i)), .ref m0, .ref m0], M1)) rfl rfl rfl ?_
            refine ps_st (S' := (483, [(10, .int (nI (p0 + 2 + 8 * i))), (0, .ref m0), (3, .int (nI p0)), (9, .int (nI i))], [.int 2, .int (nI (p0 + 2 + 8 * i)), .ref m0, .ref m0], M1)) rfl rfl rfl ?_
            refine ps_st (S' := (484, [(10, .int (nI (p0 + 2 + 8 * i))), (0, .ref m0), (3, .int (nI p0)), (9, .int (nI i))], [.int ((nI (p0 + 2 + 8 * i)) + 2), .ref m0, .ref m0], M1)) rfl rfl rfl ?_
            rw [nI_add1 (p := p0 + 2 + 8 * i) (k := 2) (x := 2) rfl (by omega)]
            show pl _ _ _ (_, [(10, .int (nI (p0 + 2 + 8 * i))), (0, .ref m0), (3, .int (nI p0)), (9, .int (nI i))], [.int (nI (p0 + 2 + 8 * i + 2)), .ref m0, .ref m0], M1) _
            refine pl_call (a := [.ref m0, .int (nI (p0 + 2 + 8 * i + 2))]) (rest := [.ref m0]) rfl rfl rfl (rd_u2 (n := n) (f := f) (p := (p0 + 2 + 8 * i + 2)) hR1 hF1 (by omega)) (fun v37 M38 q39 => ?_)
            obtain ⟨rfl, rfl⟩ := q39
            show pl _ _ _ (487, [(10, .int (nI (p0 + 2 + 8 * i))), (0, .ref m0), (3, .int (nI p0)), (9, .int (nI i))], [.int (nI (by2 f (p0 + 2 + 8 * i + 2))), .ref m0], M1) _
            have hu_484 := by2_lt f (p0 + 2 + 8 * i + 2)
            refine pl_call (a := [.ref m0, .int (nI (by2 f (p0 + 2 + 8 * i + 2)))]) (rest := []) rfl rfl rfl (rd_tag (n := n) (f := f) (tx := tx) (cN := cN) (A := A) (N := N) (mj := mj) (E := E) (k := (by2 f (p0 + 2 + 8 * i + 2))) hR1 hl51 hl52 hl53 hF1 hY1 hP1 (hEP) (hN) (hmj) (by2_lt _ _)) (fun v40 M41 q42 => ?_)
            obtain ⟨rfl, rfl⟩ := q42
            show pl _ _ _ (490, [(10, .int (nI (p0 + 2 + 8 * i))), (0, .ref m0), (3, .int (nI p0)), (9, .int (nI i))], [.int (nI (tg f E (by2 f (p0 + 2 + 8 * i + 2))))], M1) _
            have htg_487 := tg_lt f E (by2 f (p0 + 2 + 8 * i + 2))
            refine ps_st (S' := (492, [(10, .int (nI (p0 + 2 + 8 * i))), (0, .ref m0), (3, .int (nI p0)), (9, .int (nI i))], [.int 7, .int (nI (tg f E (by2 f (p0 + 2 + 8 * i + 2))))], M1)) rfl rfl rfl ?_
            refine ps_if2 (S1 := (522, [], [], M1)) (S2 := (495, [(0, .ref m0), (3, .int (nI p0)), (9, .int (nI i)), (10, .int (nI (p0 + 2 + 8 * i)))], [], M1)) rfl rfl rfl (fun c_492 => ?_) (fun c_492 => ?_)
            · have c_492 : ¬ (nI (tg f E (by2 f (p0 + 2 + 8 * i + 2)))) = 7 := of_decide_eq_true c_492
              have n_492 : ¬ (tg f E (by2 f (p0 + 2 + 8 * i + 2)) = 7) := fun h9 => c_492 ((eq_nI (p := tg f E (by2 f (p0 + 2 + 8 * i + 2))) (n := 7) (Nat.lt_trans (tg_lt _ _ _) (by decide)) (by decide)).mpr h9)
              refine ps_st (S' := (524, [], [.int 33], M1)) rfl rfl rfl ?_
              exact ps_ret rfl rfl (Or.inr (Or.inl ⟨I1, R1, hfe, by rw [← hs, inA_st (i := i) (by omega), if_pos (by unfold inR; rw [if_neg (by omega)])], rfl, hR1, hEI1, hER1⟩))
            · have c_492 : ¬ (¬ (nI (tg f E (by2 f (p0 + 2 + 8 * i + 2)))) = 7) := of_decide_eq_false c_492
              have n_492 : tg f E (by2 f (p0 + 2 + 8 * i + 2)) = 7 := (eq_nI (p := tg f E (by2 f (p0 + 2 + 8 * i + 2))) (n := 7) (Nat.lt_trans (tg_lt _ _ _) (by decide)) (by decide)).mp (Decidable.not_not.mp c_492)
              refine ps_st (S' := (496, [(0, .ref m0), (3, .int (nI p0)), (9, .int (nI i)), (10, .int (nI (p0 + 2 + 8 * i)))], [.ref m0], M1)) rfl rfl rfl ?_
              refine ps_st (S' := (498, [(0, .ref m0), (3, .int (nI p0)), (9, .int (nI i)), (10, .int (nI (p0 + 2 + 8 * i)))], [.int (nI (p0 + 2 + 8 * i)), .ref m0], M1)) rfl rfl rfl ?_
              refine ps_st (S' := (499, [(0, .ref m0), (3, .int (nI p0)), (9, .int (nI i)), (10, .int (nI (p0 + 2 + 8 * i)))], [.int 4, .int (nI (p0 + 2 + 8 * i)), .ref m0], M1)) rfl rfl rfl ?_
              refine ps_st (S' := (500, [(0, .ref m0), (3, .int (nI p0)), (9, .int (nI i)), (10, .int (nI (p0 + 2 + 8 * i)))], [.int ((nI (p0 + 2 + 8 * i)) + 4), .ref m0], M1)) rfl rfl rfl ?_
              rw [nI_add1 (p := p0 + 2 + 8 * i) (k := 4) (x := 4) rfl (by omega)]
              show pl _ _ _ (_, [(0, .ref m0), (3, .int (nI p0)), (9, .int (nI i)), (10, .int (nI (p0 + 2 + 8 * i)))], [.int (nI (p0 + 2 + 8 * i + 4)), .ref m0], M1) _
              refine pl_call (a := [.ref m0, .int (nI (p0 + 2 + 8 * i + 4))]) (rest := []) rfl rfl rfl (rd_u2 (n := n) (f := f) (p := (p0 + 2 + 8 * i + 4)) hR1 hF1 (by omega)) (fun v43 M44 q45 => ?_)
              obtain ⟨rfl, rfl⟩ := q45
              show pl _ _ _ (503, [(0, .ref m0), (3, .int (nI p0)), (9, .int (nI i)), (10, .int (nI (p0 + 2 + 8 * i)))], [.int (nI (by2 f (p0 + 2 + 8 * i + 4)))], M1) _
              have hu_500 := by2_lt f (p0 + 2 + 8 * i + 4)
              refine ps_if (S1 := (525, [(0, .ref m0), (3, .int (nI p0)), (9, .int (nI i))], [], M1)) (S2 := (506, [(0, .ref m0), (3, .int (nI p0)), (9, .int (nI i)), (10, .int (nI (p0 + 2 + 8 * i)))], [], M1)) rfl rfl rfl (fun c_503 => ?_) (fun c_503 => ?_)
              · have c_503 : (nI (by2 f (p0 + 2 + 8 * i + 4))) = 0 := of_decide_eq_true c_503
                have n_503 : by2 f (p0 + 2 + 8 * i + 4) = 0 := (eq_nI (p := by2 f (p0 + 2 + 8 * i + 4)) (n := 0) (Nat.lt_trans (by2_lt _ _) (by decide)) (by decide)).mp c_503
                refine ps_st (S' := (528, [(9, .int ((nI i) + 1)), (0, .ref m0), (3, .int (nI p0))], [], M1)) rfl rfl rfl ?_
                rw [nI_add1 (p := i) (k := 1) (x := 1) rfl (by omega)]
                show pl _ _ _ (_, [(9, .int (nI (i + 1))), (0, .ref m0), (3, .int (nI p0))], [], M1) _
                refine ps_st (S' := (431, [(0, .ref m0), (3, .int (nI p0)), (9, .int (nI (i + 1)))], [], M1)) rfl rfl rfl ?_
                exact ih (i + 1) M1 I1 R1 hR1 hEI1 hER1 hl51 hl52 hl53 hF1 hY1 hP1 (hfe) (by omega) (hle) (by
                    rw [← hs, inA_st (i := i) (by omega), if_neg (by unfold inR; rw [if_pos (by omega)]; decide)])
              · have c_503 : ¬ ((nI (by2 f (p0 + 2 + 8 * i + 4))) = 0) := of_decide_eq_false c_503
                have n_503 : ¬ (by2 f (p0 + 2 + 8 * i + 4) = 0) := fun h9 => c_503 ((eq_nI (p := by2 f (p0 + 2 + 8 * i + 4)) (n := 0) (Nat.lt_trans (by2_lt _ _) (by decide)) (by decide)).mpr h9)
                refine ps_st (S' := (507, [(0, .ref m0), (3, .int (nI p0)), (9, .int (nI i)), (10, .int (nI (p0 + 2 + 8 * i)))], [.ref m0], M1)) rfl rfl rfl ?_
                refine ps_st (S' := (508, [(0, .ref m0), (3, .int (nI p0)), (9, .int (nI i)), (10, .int (nI (p0 + 2 + 8 * i)))], [.ref m0, .ref m0], M1)) rfl rfl rfl ?_
                refine ps_st (S' := (510, [(0, .ref m0), (3, .int (nI p0)), (9, .int (nI i)), (10, .int (nI (p0 + 2 + 8 * i)))], [.int (nI (p0 + 2 + 8 * i)), .ref m0, .ref m0], M1)) rfl rfl rfl ?_
                refine ps_st (S' := (511, [(0, .ref m0), (3, .int (nI p0)), (9, .int (nI i)), (10, .int (nI (p0 + 2 + 8 * i)))], [.int 4, .int (nI (p0 + 2 + 8 * i)), .ref m0, .ref m0], M1)) rfl rfl rfl ?_
                refine ps_st (S' := (512, [(0, .ref m0), (3, .int (nI p0)), (9, .int (nI i)), (10, .int (nI (p0 + 2 + 8 * i)))], [.int ((nI (p0 + 2 + 8 * i)) + 4), .ref m0, .ref m0], M1)) rfl rfl rfl ?_
                rw [nI_add1 (p := p0 + 2 + 8 * i) (k := 4) (x := 4) rfl (by omega)]
                show pl _ _ _ (_, [(0, .ref m0), (3, .int (nI p0)), (9, .int (nI i)), (10, .int (nI (p0 + 2 + 8 * i)))], [.int (nI (p0 + 2 + 8 * i + 4)), .ref m0, .ref m0], M1) _
                refine pl_call (a := [.ref m0, .int (nI (p0 + 2 + 8 * i + 4))]) (rest := [.ref m0]) rfl rfl rfl (rd_u2 (n := n) (f := f) (p := (p0 + 2 + 8 * i + 4)) hR1 hF1 (by omega)) (fun v46 M47 q48 => ?_)
                obtain ⟨rfl, rfl⟩ := q48
                show pl _ _ _ (515, [(0, .ref m0), (3, .int (nI p0)), (9, .int (nI i)), (10, .int (nI (p0 + 2 + 8 * i)))], [.int (nI (by2 f (p0 + 2 + 8 * i + 4))), .ref m0], M1) _
                have hu_512 := by2_lt f (p0 + 2 + 8 * i + 4)
                refine pl_call (a := [.ref m0, .int (nI (by2 f (p0 + 2 + 8 * i + 4)))]) (rest := []) rfl rfl rfl (rd_tag (n := n) (f := f) (tx := tx) (cN := cN) (A := A) (N := N) (mj := mj) (E := E) (k := (by2 f (p0 + 2 + 8 * i + 4))) hR1 hl51 hl52 hl53 hF1 hY1 hP1 (hEP) (hN) (hmj) (by2_lt _ _)) (fun v49 M50 q51 => ?_)
                obtain ⟨rfl, rfl⟩ := q51
                show pl _ _ _ (518, [(0, .ref m0), (3, .int (nI p0)), (9, .int (nI i)), (10, .int (nI (p0 + 2 + 8 * i)))], [.int (nI (tg f E (by2 f (p0 + 2 + 8 * i + 4))))], M1) _
                have htg_515 := tg_lt f E (by2 f (p0 + 2 + 8 * i + 4))
                refine ps_st (S' := (519, [(0, .ref m0), (3, .int (nI p0)), (9, .int (nI i)), (10, .int (nI (p0 + 2 + 8 * i)))], [.int 1, .int (nI (tg f E (by2 f (p0 + 2 + 8 * i + 4))))], M1)) rfl rfl rfl ?_
                refine ps_if2 (S1 := (525, [(0, .ref m0), (3, .int (nI p0)), (9, .int (nI i))], [], M1)) (S2 := (522, [], [], M1)) rfl rfl rfl (fun c_519 => ?_) (fun c_519 => ?_)
                · have c_519 : (nI (tg f E (by2 f (p0 + 2 + 8 * i + 4)))) = 1 := of_decide_eq_true c_519
                  have n_519 : tg f E (by2 f (p0 + 2 + 8 * i + 4)) = 1 := (eq_nI (p := tg f E (by2 f (p0 + 2 + 8 * i + 4))) (n := 1) (Nat.lt_trans (tg_lt _ _ _) (by decide)) (by decide)).mp c_519
                  refine ps_st (S' := (528, [(9, .int ((nI i) + 1)), (0, .ref m0), (3, .int (nI p0))], [], M1)) rfl rfl rfl ?_
                  rw [nI_add1 (p := i) (k := 1) (x := 1) rfl (by omega)]
                  show pl _ _ _ (_, [(9, .int (nI (i + 1))), (0, .ref m0), (3, .int (nI p0))], [], M1) _
                  refine ps_st (S' := (431, [(0, .ref m0), (3, .int (nI p0)), (9, .int (nI (i + 1)))], [], M1)) rfl rfl rfl ?_
                  exact ih (i + 1) M1 I1 R1 hR1 hEI1 hER1 hl51 hl52 hl53 hF1 hY1 hP1 (hfe) (by omega) (hle) (by
                      rw [← hs, inA_st (i := i) (by omega), if_neg (by unfold inR; rw [if_pos (by omega)]; decide)])
                · have c_519 : ¬ ((nI (tg f E (by2 f (p0 + 2 + 8 * i + 4)))) = 1) := of_decide_eq_false c_519
                  have n_519 : ¬ (tg f E (by2 f (p0 + 2 + 8 * i + 4)) = 1) := fun h9 => c_519 ((eq_nI (p := tg f E (by2 f (p0 + 2 + 8 * i + 4))) (n := 1) (Nat.lt_trans (tg_lt _ _ _) (by decide)) (by decide)).mpr h9)
                  refine ps_st (S' := (524, [], [.int 33], M1)) rfl rfl rfl ?_
                  exact ps_ret rfl rfl (Or.inr (Or.inl ⟨I1, R1, hfe, by rw [← hs, inA_st (i := i) (by omega), if_pos (by unfold inR; rw [if_neg (by omega)])], rfl, hR1, hEI1, hER1⟩))
  refine ps_st (S' := (1, [(0, .ref m0), (1, .int 4), (2, .int t), (3, .int (nI p0)), (4, .int (nI e)), (5, .int (nI x)), (6, .int (nI s3))], [.int 4], M)) rfl rfl rfl ?_
  refine ps_st (S' := (400, [(0, .ref m0), (1, .int 4), (2, .int t), (3, .int (nI p0)), (4, .int (nI e)), (5, .int (nI x)), (6, .int (nI s3))], [], M)) rfl rfl rfl ?_
  refine ps_st (S' := (402, [(0, .ref m0), (1, .int 4), (2, .int t), (3, .int (nI p0)), (4, .int (nI e)), (5, .int (nI x)), (6, .int (nI s3))], [.int (nI e)], M)) rfl rfl rfl ?_
  refine ps_st (S' := (403, [(0, .ref m0), (1, .int 4), (2, .int t), (3, .int (nI p0)), (4, .int (nI e)), (5, .int (nI x)), (6, .int (nI s3))], [.int (nI p0), .int (nI e)], M)) rfl rfl rfl ?_
  refine ps_st (S' := (404, [(0, .ref m0), (1, .int 4), (2, .int t), (3, .int (nI p0)), (4, .int (nI e)), (5, .int (nI x)), (6, .int (nI s3))], [.int ((nI e) - (nI p0))], M)) rfl rfl rfl ?_
  rw [nI_sub1 (p := e) (k := p0) (x := (nI p0)) rfl (by omega) (by omega)]
  show pl _ _ _ (_, [(0, .ref m0), (1, .int 4), (2, .int t), (3, .int (nI p0)), (4, .int (nI e)), (5, .int (nI x)), (6, .int (nI s3))], [.int (nI (e - p0))], M) _
  refine ps_st (S' := (405, [(0, .ref m0), (1, .int 4), (2, .int t), (3, .int (nI p0)), (4, .int (nI e)), (5, .int (nI x)), (6, .int (nI s3))], [.int 2, .int (nI (e - p0))], M)) rfl rfl rfl ?_
  refine ps_if2 (S1 := (425, [], [], M)) (S2 := (408, [(0, .ref m0), (1, .int 4), (2, .int t), (3, .int (nI p0)), (4, .int (nI e)), (5, .int (nI x)), (6, .int (nI s3))], [], M)) rfl rfl rfl (fun c_405 => ?_) (fun c_405 => ?_)
  · have c_405 : (nI (e - p0)) < 2 := of_decide_eq_true c_405
    have n_405 : e - p0 < 2 := (lt_nI (p := e - p0) (n := 2) (by omega) (by decide)).mp c_405
    refine ps_st (S' := (427, [], [.int 30], M)) rfl rfl rfl ?_
    exact ps_ret rfl rfl (Or.inl ⟨I, R, fe_2 (by omega), rfl, hR, hEI, hER⟩)
  · have c_405 : ¬ ((nI (e - p0)) < 2) := of_decide_eq_false c_405
    have n_405 : ¬ (e - p0 < 2) := fun h9 => c_405 ((lt_nI (p := e - p0) (n := 2) (by omega) (by decide)).mpr h9)
    refine ps_st (S' := (410, [(0, .ref m0), (1, .int 4), (2, .int t), (3, .int (nI p0)), (4, .int (nI e)), (5, .int (nI x)), (6, .int (nI s3))], [.int (nI e)], M)) rfl rfl rfl ?_
    refine ps_st (S' := (411, [(0, .ref m0), (1, .int 4), (2, .int t), (3, .int (nI p0)), (4, .int (nI e)), (5, .int (nI x)), (6, .int (nI s3))], [.int (nI p0), .int (nI e)], M)) rfl rfl rfl ?_
    refine ps_st (S' := (412, [(0, .ref m0), (1, .int 4), (2, .int t), (3, .int (nI p0)), (4, .int (nI e)), (5, .int (nI x)), (6, .int (nI s3))], [.int ((nI e) - (nI p0))], M)) rfl rfl rfl ?_
    rw [nI_sub1 (p := e) (k := p0) (x := (nI p0)) rfl (by omega) (by omega)]
    show pl _ _ _ (_, [(0, .ref m0), (1, .int 4), (2, .int t), (3, .int (nI p0)), (4, .int (nI e)), (5, .int (nI x)), (6, .int (nI s3))], [.int (nI (e - p0))], M) _
    refine ps_st (S' := (413, [(0, .ref m0), (1, .int 4), (2, .int t), (3, .int (nI p0)), (4, .int (nI e)), (5, .int (nI x)), (6, .int (nI s3))], [.int 2, .int (nI (e - p0))], M)) rfl rfl rfl ?_
    refine ps_st (S' := (415, [(0, .ref m0), (1, .int 4), (2, .int t), (3, .int (nI p0)), (4, .int (nI e)), (5, .int (nI x)), (6, .int (nI s3))], [.int 8, .int 2, .int (nI (e - p0))], M)) rfl rfl rfl ?_
    refine ps_st (S' := (416, [(0, .ref m0), (1, .int 4), (2, .int t), (3, .int (nI p0)), (4, .int (nI e)), (5, .int (nI x)), (6, .int (nI s3))], [.ref m0, .int 8, .int 2, .int (nI (e - p0))], M)) rfl rfl rfl ?_
    refine ps_st (S' := (417, [(0, .ref m0), (1, .int 4), (2, .int t), (3, .int (nI p0)), (4, .int (nI e)), (5, .int (nI x)), (6, .int (nI s3))], [.int (nI p0), .ref m0, .int 8, .int 2, .int (nI (e - p0))], M)) rfl rfl rfl ?_
    refine pl_call (a := [.ref m0, .int (nI p0)]) (rest := [.int 8, .int 2, .int (nI (e - p0))]) rfl rfl rfl (rd_u2 (n := n) (f := f) (p := p0) hR hF (by omega)) (fun v52 M53 q54 => ?_)
    obtain ⟨rfl, rfl⟩ := q54
    show pl _ _ _ (420, [(0, .ref m0), (1, .int 4), (2, .int t), (3, .int (nI p0)), (4, .int (nI e)), (5, .int (nI x)), (6, .int (nI s3))], [.int (nI (by2 f p0)), .int 8, .int 2, .int (nI (e - p0))], M) _
    have hu_417 := by2_lt f p0
    refine ps_st (S' := (421, [(0, .ref m0), (1, .int 4), (2, .int t), (3, .int (nI p0)), (4, .int (nI e)), (5, .int (nI x)), (6, .int (nI s3))], [.int (8 * (nI (by2 f p0))), .int 2, .int (nI (e - p0))], M)) rfl rfl rfl ?_
    rw [nI_mul1 (p := 8) (k := by2 f p0) (x := 8) (y := (nI (by2 f p0))) rfl rfl (by omega)]
    show pl _ _ _ (_, [(0, .ref m0), (1, .int 4), (2, .int t), (3, .int (nI p0)), (4, .int (nI e)), (5, .int (nI x)), (6, .int (nI s3))], [.int (nI (8 * (by2 f p0))), .int 2, .int (nI (e - p0))], M) _
    refine ps_st (S' := (422, [(0, .ref m0), (1, .int 4), (2, .int t), (3, .int (nI p0)), (4, .int (nI e)), (5, .int (nI x)), (6, .int (nI s3))], [.int (2 + (nI (8 * (by2 f p0)))), .int (nI (e - p0))], M)) rfl rfl rfl ?_
    rw [nI_add2 (p := 2) (k := 8 * (by2 f p0)) (x := 2) (y := (nI (8 * (by2 f p0)))) rfl rfl (by omega)]
    show pl _ _ _ (_, [(0, .ref m0), (1, .int 4), (2, .int t), (3, .int (nI p0)), (4, .int (nI e)), (5, .int (nI x)), (6, .int (nI s3))], [.int (nI (2 + 8 * (by2 f p0))), .int (nI (e - p0))], M) _
    refine ps_if2 (S1 := (428, [(0, .ref m0), (1, .int 4), (2, .int t), (3, .int (nI p0)), (4, .int (nI e)), (5, .int (nI x)), (6, .int (nI s3))], [], M)) (S2 := (425, [], [], M)) rfl rfl rfl (fun c_422 => ?_) (fun c_422 => ?_)
    · have c_422 : (nI (e - p0)) = (nI (2 + 8 * (by2 f p0))) := of_decide_eq_true c_422
      have n_422 : e - p0 = 2 + 8 * (by2 f p0) := (eq_nI (p := e - p0) (n := 2 + 8 * (by2 f p0)) (by omega) (by omega)).mp c_422
      refine ps_st (S' := (429, [(0, .ref m0), (1, .int 4), (2, .int t), (3, .int (nI p0)), (4, .int (nI e)), (5, .int (nI x)), (6, .int (nI s3))], [.int 0], M)) rfl rfl rfl ?_
      refine ps_st (S' := (431, [(0, .ref m0), (3, .int (nI p0)), (9, .int 0)], [], M)) rfl rfl rfl ?_
      exact (LL kf) (0) M I R hR hEI hER hi51 hi52 hi53 hF hY hP ((fe_5 (by omega)).trans (congrArg some (by omega))) (by omega) (by omega) (rfl)
    · have c_422 : ¬ ((nI (e - p0)) = (nI (2 + 8 * (by2 f p0)))) := of_decide_eq_false c_422
      have n_422 : ¬ (e - p0 = 2 + 8 * (by2 f p0)) := fun h9 => c_422 ((eq_nI (p := e - p0) (n := 2 + 8 * (by2 f p0)) (by omega) (by omega)).mpr h9)
      refine ps_st (S' := (427, [], [.int 30], M)) rfl rfl rfl ?_
      exact ps_ret rfl rfl (Or.inl ⟨I, R, (fun h9 => (by have h8 := Option.some.inj ((fe_5 (by omega)).symm.trans h9); omega)), rfl, hR, hEI, hER⟩)
set_option maxHeartbeats 4000000 in
theorem rd_attr6 {g : xe_G} {m0 : Nat} {q : Nat → Nat} {z : Nat × Nat} {I : rI} {R : rR} {M : mi_H} {n : Nat} {f : Nat → Int32} {tx : List (List Nat)} {cN : Nat} {A : Nat → Nat} {N mj : Nat} {E : List (Nat × Nat)} {p0 e x s3 : Nat} {t : Int32} (hR : RS g m0 q z I R M) (hi51 : I 51 = some 0) (hi52 : I 52 = some (nI N)) (hi53 : I 53 = some (nI mj)) (hF : FK n f I R) (hY : SYT tx cN A I R) (hP : RPV f n E tx N I R) (hEP : EP f n E) (hN : N < 65536) (hmj : mj < 65536) (he : p0 ≤ e ∧ e ≤ n) (hs3 : s3 < 2048) : pt (mT g) 177 [.ref m0, .int 6, .int t, .int (nI p0), .int (nI e), .int (nI x), .int (nI s3)] M (fun v M' => (∃  (I' : rI) (R' : rR), (¬ s_fe f 7 p0 e = some e) ∧ v = some (.int 30) ∧ RS g m0 q z I' R' M' ∧ eqI [67] I I' ∧ eqR [] R R') ∨ (∃  (I' : rI) (R' : rR), (s_fe f 7 p0 e = some e) ∧ (¬ (tg f E (by2 f p0) = 7 ∧ sb s3 7 = 0)) ∧ v = some (.int 34) ∧ RS g m0 q z I' R' M' ∧ eqI [67] I I' ∧ eqR [] R R') ∨ (∃  (I' : rI) (R' : rR), (s_fe f 7 p0 e = some e) ∧ (tg f E (by2 f p0) = 7 ∧ sb s3 7 = 0) ∧ v = some (.int 0) ∧ RS g m0 q z I' R' M' ∧ eqI [67] I I' ∧ eqR [] R R')) := by
  refine pt_in (b := mb_177 g) rfl (fun kf => ?_)
  show pl (mT g) kf (mb_177 g).2 (0, [(0, .ref m0), (1, .int 6), (2, .int t), (3, .int (nI p0)), (4, .int (nI e)), (5, .int (nI x)), (6, .int (nI s3))], [], M) _
  have hEI : eqI [67] I I := eqI.rf
  have hER : eqR [] R R := eqR.rf
  have hn := hF.1
  have hu9 := by2_lt f p0
  have hs7 := sb_lt s3 7
  refine ps_st (S' := (1, [(0, .ref m0), (1, .int 6), (2, .int t), (3, .int (nI p0)), (4, .int (nI e)), (5, .int (nI x)), (6, .int (nI s3))], [.int 6], M)) rfl rfl rfl ?_
  refine ps_st (S' := (550, [(0, .ref m0), (1, .int 6), (2, .int t), (3, .int (nI p0)), (4, .int (nI e)), (5, .int (nI x)), (6, .int (nI s3))], [], M)) rfl rfl rfl ?_
  refine ps_st (S' := (552, [(0, .ref m0), (1, .int 6), (2, .int t), (3, .int (nI p0)), (4, .int (nI e)), (5, .int (nI x)), (6, .int (nI s3))], [.int (nI e)], M)) rfl rfl rfl ?_
  refine ps_st (S' := (553, [(0, .ref m0), (1, .int 6), (2, .int t), (3, .int (nI p0)), (4, .int (nI e)), (5, .int (nI x)), (6, .int (nI s3))], [.int (nI p0), .int (nI e)], M)) rfl rfl rfl ?_
  refine ps_st (S' := (554, [(0, .ref m0), (1, .int 6), (2, .int t), (3, .int (nI p0)), (4, .int (nI e)), (5, .int (nI x)), (6, .int (nI s3))], [.int ((nI e) - (nI p0))], M)) rfl rfl rfl ?_
  rw [nI_sub1 (p := e) (k := p0) (x := (nI p0)) rfl (by omega) (by omega)]
  show pl _ _ _ (_, [(0, .ref m0), (1, .int 6), (2, .int t), (3, .int (nI p0)), (4, .int (nI e)), (5, .int (nI x)), (6, .int (nI s3))], [.int (nI (e - p0))], M) _
  refine ps_st (S' := (555, [(0, .ref m0), (1, .int 6), (2, .int t), (3, .int (nI p0)), (4, .int (nI e)), (5, .int (nI x)), (6, .int (nI s3))], [.int 2, .int (nI (e - p0))], M)) rfl rfl rfl ?_
  refine ps_if2 (S1 := (561, [(0, .ref m0), (1, .int 6), (2, .int t), (3, .int (nI p0)), (4, .int (nI e)), (5, .int (nI x)), (6, .int (nI s3))], [], M)) (S2 := (558, [(0, .ref m0), (1, .int 6), (2, .int t), (3, .int (nI p0)), (4, .int (nI e)), (5, .int (nI x)), (6, .int (nI s3))], [], M)) rfl rfl rfl (fun c_555 => ?_) (fun c_555 => ?_)
  · have c_555 : (nI (e - p0)) = 2 := of_decide_eq_true c_555
    have n_555 : e - p0 = 2 := (eq_nI (p := e - p0) (n := 2) (by omega) (by decide)).mp c_555
    refine ps_st (S' := (562, [(0, .ref m0), (1, .int 6), (2, .int t), (3, .int (nI p0)), (4, .int (nI e)), (5, .int (nI x)), (6, .int (nI s3))], [.ref m0], M)) rfl rfl rfl ?_
    refine ps_st (S' := (563, [(0, .ref m0), (1, .int 6), (2, .int t), (3, .int (nI p0)), (4, .int (nI e)), (5, .int (nI x)), (6, .int (nI s3))], [.ref m0, .ref m0], M)) rfl rfl rfl ?_
    refine ps_st (S' := (564, [(0, .ref m0), (1, .int 6), (2, .int t), (3, .int (nI p0)), (4, .int (nI e)), (5, .int (nI x)), (6, .int (nI s3))], [.int (nI p0), .ref m0, .ref m0], M)) rfl rfl rfl ?_
    refine pl_call (a := [.ref m0, .int (nI p0)]) (rest := [.ref m0]) rfl rfl rfl (rd_u2 (n := n) (f := f) (p := p0) hR hF (by omega)) (fun v1 M2 q3 => ?_)
    obtain ⟨rfl, rfl⟩ := q3
    show pl _ _ _ (567, [(0, .ref m0), (1, .int 6), (2, .int t), (3, .int (nI p0)), (4, .int (nI e)), (5, .int (nI x)), (6, .int (nI s3))], [.int (nI (by2 f p0)), .ref m0], M) _
    have hu_564 := by2_lt f p0
    refine pl_call (a := [.ref m0, .int (nI (by2 f p0))]) (rest := []) rfl rfl rfl (rd_tag (n := n) (f := f) (tx := tx) (cN := cN) (A := A) (N := N) (mj := mj) (E := E) (k := (by2 f p0)) hR hi51 hi52 hi53 hF hY hP (hEP) (hN) (hmj) (by2_lt _ _)) (fun v4 M5 q6 => ?_)
    obtain ⟨rfl, rfl⟩ := q6
    show pl _ _ _ (570, [(0, .ref m0), (1, .int 6), (2, .int t), (3, .int (nI p0)), (4, .int (nI e)), (5, .int (nI x)), (6, .int (nI s3))], [.int (nI (tg f E (by2 f p0)))], M) _
    have htg_567 := tg_lt f E (by2 f p0)
    refine ps_st (S' := (572, [(0, .ref m0), (1, .int 6), (2, .int t), (3, .int (nI p0)), (4, .int (nI e)), (5, .int (nI x)), (6, .int (nI s3))], [.int 7, .int (nI (tg f E (by2 f p0)))], M)) rfl rfl rfl ?_
    refine ps_if2 (S1 := (586, [], [], M)) (S2 := (575, [(0, .ref m0), (1, .int 6), (2, .int t), (3, .int (nI p0)), (4, .int (nI e)), (5, .int (nI x)), (6, .int (nI s3))], [], M)) rfl rfl rfl (fun c_572 => ?_) (fun c_572 => ?_)
    · have c_572 : ¬ (nI (tg f E (by2 f p0))) = 7 := of_decide_eq_true c_572
      have n_572 : ¬ (tg f E (by2 f p0) = 7) := fun h9 => c_572 ((eq_nI (p := tg f E (by2 f p0)) (n := 7) (Nat.lt_trans (tg_lt _ _ _) (by decide)) (by decide)).mpr h9)
      refine ps_st (S' := (588, [], [.int 34], M)) rfl rfl rfl ?_
      exact ps_ret rfl rfl (Or.inr (Or.inl ⟨I, R, (fe_1 (by decide) (by omega)).trans (congrArg some (by omega)), by omega, rfl, hR, hEI, hER⟩))
    · have c_572 : ¬ (¬ (nI (tg f E (by2 f p0))) = 7) := of_decide_eq_false c_572
      have n_572 : tg f E (by2 f p0) = 7 := (eq_nI (p := tg f E (by2 f p0)) (n := 7) (Nat.lt_trans (tg_lt _ _ _) (by decide)) (by decide)).mp (Decidable.not_not.mp c_572)
      refine ps_st (S' := (577, [(0, .ref m0), (1, .int 6), (2, .int t), (3, .int (nI p0)), (4, .int (nI e)), (5, .int (nI x)), (6, .int (nI s3))], [.int (nI s3)], M)) rfl rfl rfl ?_
      refine ps_st (S' := (579, [(0, .ref m0), (1, .int 6), (2, .int t), (3, .int (nI p0)), (4, .int (nI e)), (5, .int (nI x)), (6, .int (nI s3))], [.int 7, .int (nI s3)], M)) rfl rfl rfl ?_
      refine ps_st (S' := (580, [(0, .ref m0), (1, .int 6), (2, .int t), (3, .int (nI p0)), (4, .int (nI e)), (5, .int (nI x)), (6, .int (nI s3))], [.int ((nI s3) >>> (7 &&& 31))], M)) rfl rfl rfl ?_
      refine ps_st (S' := (581, [(0, .ref m0), (1, .int 6), (2, .int t), (3, .int (nI p0)), (4, .int (nI e)), (5, .int (nI x)), (6, .int (nI s3))], [.int 1, .int ((nI s3) >>> (7 &&& 31))], M)) rfl rfl rfl ?_
      refine ps_st (S' := (582, [(0, .ref m0), (1, .int 6), (2, .int t), (3, .int (nI p0)), (4, .int (nI e)), (5, .int (nI x)), (6, .int (nI s3))], [.int (((nI s3) >>> (7 &&& 31)) &&& 1)], M)) rfl rfl rfl ?_
      rw [show (nI s3 >>> (7 &&& 31)) &&& 1 = nI (sb s3 7) from shr_k s3 (by omega) 7 (by decide)]
      show pl _ _ _ (_, [(0, .ref m0), (1, .int 6), (2, .int t), (3, .int (nI p0)), (4, .int (nI e)), (5, .int (nI x)), (6, .int (nI s3))], [.int (nI (sb s3 7))], M) _
      refine ps_st (S' := (583, [(0, .ref m0), (1, .int 6), (2, .int t), (3, .int (nI p0)), (4, .int (nI e)), (5, .int (nI x)), (6, .int (nI s3))], [.int 1, .int (nI (sb s3 7))], M)) rfl rfl rfl ?_
      refine ps_if2 (S1 := (589, [(0, .ref m0), (1, .int 6), (2, .int t), (3, .int (nI p0)), (4, .int (nI e)), (5, .int (nI x)), (6, .int (nI s3))], [], M)) (S2 := (586, [], [], M)) rfl rfl rfl (fun c_583 => ?_) (fun c_583 => ?_)
      · have c_583 : ¬ (nI (sb s3 7)) = 1 := of_decide_eq_true c_583
        have n_583 : ¬ (sb s3 7 = 1) := fun h9 => c_583 ((eq_nI (p := sb s3 7) (n := 1) (Nat.lt_trans (sb_lt _ _) (by decide)) (by decide)).mpr h9)
        refine ps_st (S' := (590, [(0, .ref m0), (1, .int 6), (2, .int t), (3, .int (nI p0)), (4, .int (nI e)), (5, .int (nI x)), (6, .int (nI s3))], [.ref m0], M)) rfl rfl rfl ?_
        refine ps_st (S' := (591, [(0, .ref m0), (1, .int 6), (2, .int t), (3, .int (nI p0)), (4, .int (nI e)), (5, .int (nI x)), (6, .int (nI s3))], [.ref m0, .ref m0], M)) rfl rfl rfl ?_
        refine ps_st (S' := (592, [(0, .ref m0), (1, .int 6), (2, .int t), (3, .int (nI p0)), (4, .int (nI e)), (5, .int (nI x)), (6, .int (nI s3))], [.int (nI p0), .ref m0, .ref m0], M)) rfl rfl rfl ?_
        refine pl_call (a := [.ref m0, .int (nI p0)]) (rest := [.ref m0]) rfl rfl rfl (rd_u2 (n := n) (f := f) (p := p0) hR hF (by omega)) (fun v7 M8 q9 => ?_)
        obtain ⟨rfl, rfl⟩ := q9
        show pl _ _ _ (595, [(0, .ref m0), (1, .int 6), (2, .int t), (3, .int (nI p0)), (4, .int (nI e)), (5, .int (nI x)), (6, .int (nI s3))], [.int (nI (by2 f p0)), .ref m0], M) _
        have hu_592 := by2_lt f p0
        refine pr_put (j := 67) rfl hR rfl (fun M10 I11 hR12 hi13 hI14 => ?_)
        have hi15 := (hI14 51 (by decide)).trans hi51
        have hi16 := (hI14 52 (by decide)).trans hi52
        have hi17 := (hI14 53 (by decide)).trans hi53
        have hF_18 := hF.mono (pIx hI14 (by decide)) (fun _ _ => rfl)
        have hY_19 := hY.mono (pIx hI14 (by decide)) (fun _ _ => rfl)
        have hP_20 := hP.mono (pIx hI14 (by decide)) (fun _ _ => rfl)
        have hEI21 := hEI.put hI14 (by decide)
        show pl _ _ _ (598, [(0, .ref m0), (1, .int 6), (2, .int t), (3, .int (nI p0)), (4, .int (nI e)), (5, .int (nI x)), (6, .int (nI s3))], [], M10) _
        refine ps_st (S' := (599, [(0, .ref m0), (1, .int 6), (2, .int t), (3, .int (nI p0)), (4, .int (nI e)), (5, .int (nI x)), (6, .int (nI s3))], [.int 0], M10)) rfl rfl rfl ?_
        exact ps_ret rfl rfl (Or.inr (Or.inr ⟨I11, R, (fe_1 (by decide) (by omega)).trans (congrArg some (by omega)), by omega, rfl, hR12, hEI21, hER⟩))
      · have c_583 : ¬ (¬ (nI (sb s3 7)) = 1) := of_decide_eq_false c_583
        have n_583 : sb s3 7 = 1 := (eq_nI (p := sb s3 7) (n := 1) (Nat.lt_trans (sb_lt _ _) (by decide)) (by decide)).mp (Decidable.not_not.mp c_583)
        refine ps_st (S' := (588, [], [.int 34], M)) rfl rfl rfl ?_
        exact ps_ret rfl rfl (Or.inr (Or.inl ⟨I, R, (fe_1 (by decide) (by omega)).trans (congrArg some (by omega)), by omega, rfl, hR, hEI, hER⟩))
  · have c_555 : ¬ ((nI (e - p0)) = 2) := of_decide_eq_false c_555
    have n_555 : ¬ (e - p0 = 2) := fun h9 => c_555 ((eq_nI (p := e - p0) (n := 2) (by omega) (by decide)).mpr h9)
    refine ps_st (S' := (560, [(0, .ref m0), (1, .int 6), (2, .int t), (3, .int (nI p0)), (4, .int (nI e)), (5, .int (nI x)), (6, .int (nI s3))], [.int 30], M)) rfl rfl rfl ?_
    exact ps_ret rfl rfl (Or.inl ⟨I, R, (fun h9 => (by have h7 := s_fe_in h9; have h8 := Option.some.inj ((fe_1 (by decide) (by omega)).symm.trans h9); omega)), rfl, hR, hEI, hER⟩)
set_option maxHeartbeats 4000000 in
theorem rd_attr5 {g : xe_G} {m0 : Nat} {q : Nat → Nat} {z : Nat × Nat} {I : rI} {R : rR} {M : mi_H} {n : Nat} {f : Nat → Int32} {tx : List (List Nat)} {cN : Nat} {A : Nat → Nat} {N mj : Nat} {E : List (Nat × Nat)} {p0 e x s3 : Nat} {t : Int32} (hR : RS g m0 q z I R M) (hi51 : I 51 = some 0) (hi52 : I 52 = some (nI N)) (hi53 : I 53 = some (nI mj)) (hF : FK n f I R) (hY : SYT tx cN A I R) (hP : RPV f n E tx N I R) (hEP : EP f n E) (hN : N < 65536) (hmj : mj < 65536) (he : p0 ≤ e ∧ e ≤ n) (hs3 : s3 < 2048) : pt (mT g) 177 [.ref m0, .int 5, .int t, .int (nI p0), .int (nI e), .int (nI x), .int (nI s3)] M (fun v M' => (∃  (I' : rI) (R' : rR), (¬ s_fe f 6 p0 e = some e) ∧ v = some (.int 30) ∧ RS g m0 q z I' R' M' ∧ eqI [70, 71] I I' ∧ eqR [] R R') ∨ (∃  (I' : rI) (R' : rR), (s_fe f 6 p0 e = some e) ∧ (bsA f E (by2 f p0) (p0 + 2) = 0) ∧ v = some (.int 38) ∧ RS g m0 q z I' R' M' ∧ eqI [70, 71] I I' ∧ eqR [] R R') ∨ (∃  (I' : rI) (R' : rR), (s_fe f 6 p0 e = some e) ∧ (¬ bsA f E (by2 f p0) (p0 + 2) = 0) ∧ v = some (.int 0) ∧ RS g m0 q z I' R' M' ∧ eqI [70, 71] I I' ∧ eqR [] R R' ∧ I' 71 = some (nI (by2 f p0)) ∧ I' 70 = some (nI p0))) := by
  refine pt_in (b := mb_177 g) rfl (fun kf => ?_)
  show pl (mT g) kf (mb_177 g).2 (0, [(0, .ref m0), (1, .int 5), (2, .int t), (3, .int (nI p0)), (4, .int (nI e)), (5, .int (nI x)), (6, .int (nI s3))], [], M) _
  have hEI : eqI [70, 71] I I := eqI.rf
  have hER : eqR [] R R := eqR.rf
  have hn := hF.1
  refine ps_st (S' := (1, [(0, .ref m0), (1, .int 5), (2, .int t), (3, .int (nI p0)), (4, .int (nI e)), (5, .int (nI x)), (6, .int (nI s3))], [.int 5], M)) rfl rfl rfl ?_
  refine ps_st (S' := (542, [(0, .ref m0), (1, .int 5), (2, .int t), (3, .int (nI p0)), (4, .int (nI e)), (5, .int (nI x)), (6, .int (nI s3))], [], M)) rfl rfl rfl ?_
  refine ps_st (S' := (543, [(0, .ref m0), (1, .int 5), (2, .int t), (3, .int (nI p0)), (4, .int (nI e)), (5, .int (nI x)), (6, .int (nI s3))], [.ref m0], M)) rfl rfl rfl ?_
  refine ps_st (S' := (544, [(0, .ref m0), (1, .int 5), (2, .int t), (3, .int (nI p0)), (4, .int (nI e)), (5, .int (nI x)), (6, .int (nI s3))], [.int (nI p0), .ref m0], M)) rfl rfl rfl ?_
  refine ps_st (S' := (546, [(0, .ref m0), (1, .int 5), (2, .int t), (3, .int (nI p0)), (4, .int (nI e)), (5, .int (nI x)), (6, .int (nI s3))], [.int (nI e), .int (nI p0), .ref m0], M)) rfl rfl rfl ?_
  refine pl_call (a := [.ref m0, .int (nI p0), .int (nI e)]) (rest := []) rfl rfl rfl (rd_bootstraps (n := n) (f := f) (tx := tx) (cN := cN) (A := A) (N := N) (mj := mj) (E := E) (p0 := p0) (e := e) hR hi51 hi52 hi53 hF hY hP (hEP) (hN) (hmj) (he)) (fun v1 M2 q3 => ?_)
  rcases q3 with q3 | q3 | q3
  · skip
    obtain ⟨I4, R5, q546_s, rfl, hR6, hI7, hX8⟩ := q3
    have hi9 := (hI7 51 (by decide)).trans hi51
    have hi10 := (hI7 52 (by decide)).trans hi52
    have hi11 := (hI7 53 (by decide)).trans hi53
    have hF_12 := hF.mono (cIx hI7 (by decide)) (cRx hX8 (by decide))
    have hY_13 := hY.mono (cIx hI7 (by decide)) (cRx hX8 (by decide))
    have hP_14 := hP.mono (cIx hI7 (by decide)) (cRx hX8 (by decide))
    have hEI15 := hEI.tr hI7 (by decide)
    have hER16 := hER.tr hX8 (by decide)
    show pl _ _ _ (549, [(0, .ref m0), (1, .int 5), (2, .int t), (3, .int (nI p0)), (4, .int (nI e)), (5, .int (nI x)), (6, .int (nI s3))], [.int 30], M2) _
    exact ps_ret rfl rfl (Or.inl ⟨I4, R5, q546_s, rfl, hR6, hEI15, hER16⟩)
  · skip
    obtain ⟨I17, R18, q546_s, q546_b, rfl, hR19, hI20, hX21⟩ := q3
    have hi22 := (hI20 51 (by decide)).trans hi51
    have hi23 := (hI20 52 (by decide)).trans hi52
    have hi24 := (hI20 53 (by decide)).trans hi53
    have hF_25 := hF.mono (cIx hI20 (by decide)) (cRx hX21 (by decide))
    have hY_26 := hY.mono (cIx hI20 (by decide)) (cRx hX21 (by decide))
    have hP_27 := hP.mono (cIx hI20 (by decide)) (cRx hX21 (by decide))
    have hEI28 := hEI.tr hI20 (by decide)
    have hER29 := hER.tr hX21 (by decide)
    show pl _ _ _ (549, [(0, .ref m0), (1, .int 5), (2, .int t), (3, .int (nI p0)), (4, .int (nI e)), (5, .int (nI x)), (6, .int (nI s3))], [.int 38], M2) _
    exact ps_ret rfl rfl (Or.inr (Or.inl ⟨I17, R18, q546_s, q546_b, rfl, hR19, hEI28, hER29⟩))
  · skip
    obtain ⟨I30, R31, q546_s, q546_b, rfl, hR32, hI33, hX34, hi35, hi36⟩ := q3
    have hi37 := (hI33 51 (by decide)).trans hi51
    have hi38 := (hI33 52 (by decide)).trans hi52
    have hi39 := (hI33 53 (by decide)).trans hi53
    have hF_40 := hF.mono (cIx hI33 (by decide)) (cRx hX34 (by decide))
    have hY_41 := hY.mono (cIx hI33 (by decide)) (cRx hX34 (by decide))
    have hP_42 := hP.mono (cIx hI33 (by decide)) (cRx hX34 (by decide))
    have hEI43 := hEI.tr hI33 (by decide)
    have hER44 := hER.tr hX34 (by decide)
    show pl _ _ _ (549, [(0, .ref m0), (1, .int 5), (2, .int t), (3, .int (nI p0)), (4, .int (nI e)), (5, .int (nI x)), (6, .int (nI s3))], [.int 0], M2) _
    exact ps_ret rfl rfl (Or.inr (Or.inr (⟨I30, R31, q546_s, q546_b, rfl, hR32, hEI43, hER44, hi35, hi36⟩)))
set_option maxHeartbeats 4000000 in
theorem rd_attr8 {g : xe_G} {m0 : Nat} {q : Nat → Nat} {z : Nat × Nat} {I : rI} {R : rR} {M : mi_H} {n : Nat} {f : Nat → Int32} {tx : List (List Nat)} {cN : Nat} {A : Nat → Nat} {N mj : Nat} {E : List (Nat × Nat)} {p0 e x s3 : Nat} {t0 : Int32} {t : Nat} (hR : RS g m0 q z I R M) (hi51 : I 51 = some 0) (hi52 : I 52 = some (nI N)) (hi53 : I 53 = some (nI mj)) (hF : FK n f I R) (hY : SYT tx cN A I R) (hP : RPV f n E tx N I R) (hEP : EP f n E) (hN : N < 65536) (hmj : mj < 65536) (he : p0 ≤ e ∧ e ≤ n) (hs3 : s3 < 2048) : pt (mT g) 177 [.ref m0, .int 8, .int t0, .int (nI p0), .int (nI e), .int (nI x), .int (nI s3)] M (fun v M' => (∃  (I' : rI) (R' : rR), (¬ s_fe f 9 p0 e = some e) ∧ v = some (.int 30) ∧ RS g m0 q z I' R' M' ∧ eqI [47, 48, 72] I I' ∧ eqR [] R R') ∨ (∃  (I' : rI) (R' : rR), (s_fe f 9 p0 e = some e) ∧ (rcS f n E t (by2 f p0) (p0 + 2) = some (37, t)) ∧ v = some (.int 37) ∧ RS g m0 q z I' R' M' ∧ eqI [47, 48, 72] I I' ∧ eqR [] R R') ∨ (∃ (y : Nat) (I' : rI) (R' : rR), (s_fe f 9 p0 e = some e) ∧ (rcS f n E t (by2 f p0) (p0 + 2) = some (28, y)) ∧ v = some (.int (-1)) ∧ RS g m0 q z I' R' M' ∧ eqI [47, 48, 72] I I' ∧ eqR [] R R' ∧ I' 47 = some 28 ∧ I' 48 = some (nI y)) ∨ (∃  (I' : rI) (R' : rR), (s_fe f 9 p0 e = some e) ∧ (rcS f n E t (by2 f p0) (p0 + 2) = none) ∧ v = some (.int 0) ∧ RS g m0 q z I' R' M' ∧ eqI [47, 48, 72] I I' ∧ eqR [] R R' ∧ I' 72 = some (nI (by2 f p0)))) := by
  refine pt_in (b := mb_177 g) rfl (fun kf => ?_)
  show pl (mT g) kf (mb_177 g).2 (0, [(0, .ref m0), (1, .int 8), (2, .int t0), (3, .int (nI p0)), (4, .int (nI e)), (5, .int (nI x)), (6, .int (nI s3))], [], M) _
  have hEI : eqI [47, 48, 72] I I := eqI.rf
  have hER : eqR [] R R := eqR.rf
  have hn := hF.1
  refine ps_st (S' := (1, [(0, .ref m0), (1, .int 8), (2, .int t0), (3, .int (nI p0)), (4, .int (nI e)), (5, .int (nI x)), (6, .int (nI s3))], [.int 8], M)) rfl rfl rfl ?_
  refine ps_st (S' := (600, [(0, .ref m0), (1, .int 8), (2, .int t0), (3, .int (nI p0)), (4, .int (nI e)), (5, .int (nI x)), (6, .int (nI s3))], [], M)) rfl rfl rfl ?_
  refine ps_st (S' := (601, [(0, .ref m0), (1, .int 8), (2, .int t0), (3, .int (nI p0)), (4, .int (nI e)), (5, .int (nI x)), (6, .int (nI s3))], [.ref m0], M)) rfl rfl rfl ?_
  refine ps_st (S' := (602, [(0, .ref m0), (1, .int 8), (2, .int t0), (3, .int (nI p0)), (4, .int (nI e)), (5, .int (nI x)), (6, .int (nI s3))], [.int (nI p0), .ref m0], M)) rfl rfl rfl ?_
  refine ps_st (S' := (604, [(0, .ref m0), (1, .int 8), (2, .int t0), (3, .int (nI p0)), (4, .int (nI e)), (5, .int (nI x)), (6, .int (nI s3))], [.int (nI e), .int (nI p0), .ref m0], M)) rfl rfl rfl ?_
  refine pl_call (a := [.ref m0, .int (nI p0), .int (nI e)]) (rest := []) rfl rfl rfl (rd_components (n := n) (f := f) (tx := tx) (cN := cN) (A := A) (N := N) (mj := mj) (E := E) (p0 := p0) (e := e) (t := t) hR hi51 hi52 hi53 hF hY hP (hEP) (hN) (hmj) (he)) (fun v1 M2 q3 => ?_)
  rcases q3 with q3 | q3 | q3 | q3
  · skip
    obtain ⟨I4, R5, q604_s, rfl, hR6, hI7, hX8⟩ := q3
    have hi9 := (hI7 51 (by decide)).trans hi51
    have hi10 := (hI7 52 (by decide)).trans hi52
    have hi11 := (hI7 53 (by decide)).trans hi53
    have hF_12 := hF.mono (cIx hI7 (by decide)) (cRx hX8 (by decide))
    have hY_13 := hY.mono (cIx hI7 (by decide)) (cRx hX8 (by decide))
    have hP_14 := hP.mono (cIx hI7 (by decide)) (cRx hX8 (by decide))
    have hEI15 := hEI.tr hI7 (by decide)
    have hER16 := hER.tr hX8 (by decide)
    show pl _ _ _ (607, [(0, .ref m0), (1, .int 8), (2, .int t0), (3, .int (nI p0)), (4, .int (nI e)), (5, .int (nI x)), (6, .int (nI s3))], [.int 30], M2) _
    exact ps_ret rfl rfl (Or.inl ⟨I4, R5, q604_s, rfl, hR6, hEI15, hER16⟩)
  · skip
    obtain ⟨I17, R18, q604_s, q604_b, rfl, hR19, hI20, hX21⟩ := q3
    have hi22 := (hI20 51 (by decide)).trans hi51
    have hi23 := (hI20 52 (by decide)).trans hi52
    have hi24 := (hI20 53 (by decide)).trans hi53
    have hF_25 := hF.mono (cIx hI20 (by decide)) (cRx hX21 (by decide))
    have hY_26 := hY.mono (cIx hI20 (by decide)) (cRx hX21 (by decide))
    have hP_27 := hP.mono (cIx hI20 (by decide)) (cRx hX21 (by decide))
    have hEI28 := hEI.tr hI20 (by decide)
    have hER29 := hER.tr hX21 (by decide)
    show pl _ _ _ (607, [(0, .ref m0), (1, .int 8), (2, .int t0), (3, .int (nI p0)), (4, .int (nI e)), (5, .int (nI x)), (6, .int (nI s3))], [.int 37], M2) _
    exact ps_ret rfl rfl (Or.inr (Or.inl ⟨I17, R18, q604_s, q604_b, rfl, hR19, hEI28, hER29⟩))
  · skip
    obtain ⟨y30, I31, R32, q604_s, q604_b, rfl, hR33, hI34, hX35, hi36, hi37⟩ := q3
    have hi38 := (hI34 51 (by decide)).trans hi51
    have hi39 := (hI34 52 (by decide)).trans hi52
    have hi40 := (hI34 53 (by decide)).trans hi53
    have hF_41 := hF.mono (cIx hI34 (by decide)) (cRx hX35 (by decide))
    have hY_42 := hY.mono (cIx hI34 (by decide)) (cRx hX35 (by decide))
    have hP_43 := hP.mono (cIx hI34 (by decide)) (cRx hX35 (by decide))
    have hEI44 := hEI.tr hI34 (by decide)
    have hER45 := hER.tr hX35 (by decide)
    show pl _ _ _ (607, [(0, .ref m0), (1, .int 8), (2, .int t0), (3, .int (nI p0)), (4, .int (nI e)), (5, .int (nI x)), (6, .int (nI s3))], [.int (-1)], M2) _
    exact ps_ret rfl rfl (Or.inr (Or.inr (Or.inl ⟨y30, I31, R32, q604_s, q604_b, rfl, hR33, hEI44, hER45, hi36, hi37⟩)))
  · skip
    obtain ⟨I46, R47, q604_s, q604_b, rfl, hR48, hI49, hX50, hi54⟩ := q3
    have hi55 := (hI49 51 (by decide)).trans hi51
    have hi56 := (hI49 52 (by decide)).trans hi52
    have hi57 := (hI49 53 (by decide)).trans hi53
    have hF_58 := hF.mono (cIx hI49 (by decide)) (cRx hX50 (by decide))
    have hY_59 := hY.mono (cIx hI49 (by decide)) (cRx hX50 (by decide))
    have hP_60 := hP.mono (cIx hI49 (by decide)) (cRx hX50 (by decide))
    have hEI61 := hEI.tr hI49 (by decide)
    have hER62 := hER.tr hX50 (by decide)
    show pl _ _ _ (607, [(0, .ref m0), (1, .int 8), (2, .int t0), (3, .int (nI p0)), (4, .int (nI e)), (5, .int (nI x)), (6, .int (nI s3))], [.int 0], M2) _
    exact ps_ret rfl rfl (Or.inr (Or.inr (Or.inr (⟨I46, R47, q604_s, q604_b, rfl, hR48, hEI61, hER62, hi54⟩))))
set_option maxHeartbeats 4000000 in
theorem rd_attr1 {g : xe_G} {m0 : Nat} {q : Nat → Nat} {z : Nat × Nat} {I : rI} {R : rR} {M : mi_H} {n : Nat} {f : Nat → Int32} {tx : List (List Nat)} {cN : Nat} {A : Nat → Nat} {N mj : Nat} {E : List (Nat × Nat)} {p e x w fl ds : Nat} {l : List Nat} {t : Int32} {s3 : Nat} (hR : RS g m0 q z I R M) (hi51 : I 51 = some 0) (hi52 : I 52 = some (nI N)) (hi53 : I 53 = some (nI mj)) (hF : FK n f I R) (hY : SYT tx cN A I R) (hP : RPV f n E tx N I R) (hK : KX I R) (hEP : EP f n E) (hN : N < 65536) (hmj : mj < 65536) (he : p + 6 ≤ e ∧ e ≤ n) (hx : x < 8300) (hfl : R 34 x = some (nI fl)) (hds : R 36 x = some (nI ds)) (hdt : ds < tx.length ∧ tx.getD ds [] = l) (hmt : ¬ mthN l = 0) (hf6 : fl < 65536) (hw : w = argN l + (if aN fl 8 = 0 then 1 else 0)) : pt (mT g) 177 [.ref m0, .int 1, .int t, .int (nI (p + 6)), .int (nI e), .int (nI x), .int (nI s3)] M (fun v M' => (∃  (I' : rI) (R' : rR), (¬ s_fe f 2 (p + 6) e = some e) ∧ v = some (.int 30) ∧ RS g m0 q z I' R' M' ∧ eqI [47, 48] I I' ∧ eqR [37, 38, 39, 40, 41, 42] R R') ∨ (∃ (r : Nat) (I' : rI) (R' : rR), (s_fe f 2 (p + 6) e = some e) ∧ (cdS f n E mj w p 0 = .inl (r, p)) ∧ (41 ≤ r ∧ r ≤ 43) ∧ v = some (.int (nI r)) ∧ RS g m0 q z I' R' M' ∧ eqI [47, 48] I I' ∧ eqR [37, 38, 39, 40, 41, 42] R R') ∨ (∃ (e9 : Nat × Nat) (I' : rI) (R' : rR), (s_fe f 2 (p + 6) e = some e) ∧ (cdS f n E mj w p 0 = .inl e9) ∧ v = some (.int (-1)) ∧ RS g m0 q z I' R' M' ∧ eqI [47, 48] I I' ∧ eqR [37, 38, 39, 40, 41, 42] R R' ∧ I' 47 = some (nI e9.1) ∧ I' 48 = some (nI e9.2)) ∨ (∃ (s' : Nat) (I' : rI) (R' : rR), (s_fe f 2 (p + 6) e = some e) ∧ (cdS f n E mj w p 0 = .inr s') ∧ (R' 37 x = some (nI (p + 14))) ∧ v = some (.int 0) ∧ RS g m0 q z I' R' M' ∧ eqI [47, 48] I I' ∧ eqR [37, 38, 39, 40, 41, 42] R R')) := by
  refine pt_in (b := mb_177 g) rfl (fun kf => ?_)
  show pl (mT g) kf (mb_177 g).2 (0, [(0, .ref m0), (1, .int 1), (2, .int t), (3, .int (nI (p + 6))), (4, .int (nI e)), (5, .int (nI x)), (6, .int (nI s3))], [], M) _
  have hEI : eqI [47, 48] I I := eqI.rf
  have hER : eqR [37, 38, 39, 40, 41, 42] R R := eqR.rf
  have hn := hF.1
  refine ps_st (S' := (1, [(0, .ref m0), (1, .int 1), (2, .int t), (3, .int (nI (p + 6))), (4, .int (nI e)), (5, .int (nI x)), (6, .int (nI s3))], [.int 1], M)) rfl rfl rfl ?_
  refine ps_st (S' := (208, [(0, .ref m0), (1, .int 1), (2, .int t), (3, .int (nI (p + 6))), (4, .int (nI e)), (5, .int (nI x)), (6, .int (nI s3))], [], M)) rfl rfl rfl ?_
  refine ps_st (S' := (209, [(0, .ref m0), (1, .int 1), (2, .int t), (3, .int (nI (p + 6))), (4, .int (nI e)), (5, .int (nI x)), (6, .int (nI s3))], [.ref m0], M)) rfl rfl rfl ?_
  refine ps_st (S' := (210, [(0, .ref m0), (1, .int 1), (2, .int t), (3, .int (nI (p + 6))), (4, .int (nI e)), (5, .int (nI x)), (6, .int (nI s3))], [.int t, .ref m0], M)) rfl rfl rfl ?_
  refine ps_st (S' := (211, [(0, .ref m0), (1, .int 1), (2, .int t), (3, .int (nI (p + 6))), (4, .int (nI e)), (5, .int (nI x)), (6, .int (nI s3))], [.int (nI (p + 6)), .int t, .ref m0], M)) rfl rfl rfl ?_
  refine ps_st (S' := (213, [(0, .ref m0), (1, .int 1), (2, .int t), (3, .int (nI (p + 6))), (4, .int (nI e)), (5, .int (nI x)), (6, .int (nI s3))], [.int (nI e), .int (nI (p + 6)), .int t, .ref m0], M)) rfl rfl rfl ?_
  refine ps_st (S' := (215, [(0, .ref m0), (1, .int 1), (2, .int t), (3, .int (nI (p + 6))), (4, .int (nI e)), (5, .int (nI x)), (6, .int (nI s3))], [.int (nI x), .int (nI e), .int (nI (p + 6)), .int t, .ref m0], M)) rfl rfl rfl ?_
  refine pl_call (a := [.ref m0, .int t, .int (nI (p + 6)), .int (nI e), .int (nI x)]) (rest := []) rfl rfl rfl (rd_code (n := n) (f := f) (tx := tx) (cN := cN) (A := A) (N := N) (mj := mj) (E := E) (p := p) (e := e) (x := x) (w := w) (fl := fl) (ds := ds) (l := l) (t := t) hR hi51 hi52 hi53 hF hY hP hK (hEP) (hN) (hmj) (he) (hx) (hfl) (hds) (hdt) (hmt) (hf6) (hw)) (fun v1 M2 q3 => ?_)
  rcases q3 with q3 | q3 | q3 | q3
  · skip
    obtain ⟨I4, R5, q215_s, rfl, hR6, hI7, hX8⟩ := q3
    have hi9 := (hI7 51 (by decide)).trans hi51
    have hi10 := (hI7 52 (by decide)).trans hi52
    have hi11 := (hI7 53 (by decide)).trans hi53
    have hF_12 := hF.mono (cIx hI7 (by decide)) (cRx hX8 (by decide))
    have hY_13 := hY.mono (cIx hI7 (by decide)) (cRx hX8 (by decide))
    have hP_14 := hP.mono (cIx hI7 (by decide)) (cRx hX8 (by decide))
    have hK_15 := hK.mono (cIx hI7 (by decide)) (cRx hX8 (by decide))
    have hEI16 := hEI.tr hI7 (by decide)
    have hER17 := hER.tr hX8 (by decide)
    show pl _ _ _ (218, [(0, .ref m0), (1, .int 1), (2, .int t), (3, .int (nI (p + 6))), (4, .int (nI e)), (5, .int (nI x)), (6, .int (nI s3))], [.int 30], M2) _
    exact ps_ret rfl rfl (Or.inl ⟨I4, R5, (by rw [fe_cd]; exact q215_s), rfl, hR6, hEI16, hER17⟩)
  · skip
    obtain ⟨r18, I19, R20, q215_s, q215_b, q215_l, rfl, hR21, hI22, hX23⟩ := q3
    have hi24 := (hI22 51 (by decide)).trans hi51
    have hi25 := (hI22 52 (by decide)).trans hi52
    have hi26 := (hI22 53 (by decide)).trans hi53
    have hF_27 := hF.mono (cIx hI22 (by decide)) (cRx hX23 (by decide))
    have hY_28 := hY.mono (cIx hI22 (by decide)) (cRx hX23 (by decide))
    have hP_29 := hP.mono (cIx hI22 (by decide)) (cRx hX23 (by decide))
    have hK_30 := hK.mono (cIx hI22 (by decide)) (cRx hX23 (by decide))
    have hEI31 := hEI.tr hI22 (by decide)
    have hER32 := hER.tr hX23 (by decide)
    show pl _ _ _ (218, [(0, .ref m0), (1, .int 1), (2, .int t), (3, .int (nI (p + 6))), (4, .int (nI e)), (5, .int (nI x)), (6, .int (nI s3))], [.int (nI r18)], M2) _
    exact ps_reti rfl (Or.inr (Or.inl ⟨r18, I19, R20, (by rw [fe_cd]; exact q215_s), q215_b, q215_l, rfl, hR21, hEI31, hER32⟩))
  · skip
    obtain ⟨e933, I34, R35, q215_s, q215_b, rfl, hR36, hI37, hX38, hi39, hi40⟩ := q3
    have hi41 := (hI37 51 (by decide)).trans hi51
    have hi42 := (hI37 52 (by decide)).trans hi52
    have hi43 := (hI37 53 (by decide)).trans hi53
    have hF_44 := hF.mono (cIx hI37 (by decide)) (cRx hX38 (by decide))
    have hY_45 := hY.mono (cIx hI37 (by decide)) (cRx hX38 (by decide))
    have hP_46 := hP.mono (cIx hI37 (by decide)) (cRx hX38 (by decide))
    have hK_47 := hK.mono (cIx hI37 (by decide)) (cRx hX38 (by decide))
    have hEI48 := hEI.tr hI37 (by decide)
    have hER49 := hER.tr hX38 (by decide)
    show pl _ _ _ (218, [(0, .ref m0), (1, .int 1), (2, .int t), (3, .int (nI (p + 6))), (4, .int (nI e)), (5, .int (nI x)), (6, .int (nI s3))], [.int (-1)], M2) _
    exact ps_ret rfl rfl (Or.inr (Or.inr (Or.inl ⟨e933, I34, R35, (by rw [fe_cd]; exact q215_s), q215_b, rfl, hR36, hEI48, hER49, hi39, hi40⟩)))
  · skip
    obtain ⟨s'50, I51, R52, q215_s, q215_b, q215_c, rfl, hR53, hI54, hX55⟩ := q3
    have hi56 := (hI54 51 (by decide)).trans hi51
    have hi57 := (hI54 52 (by decide)).trans hi52
    have hi58 := (hI54 53 (by decide)).trans hi53
    have hF_59 := hF.mono (cIx hI54 (by decide)) (cRx hX55 (by decide))
    have hY_60 := hY.mono (cIx hI54 (by decide)) (cRx hX55 (by decide))
    have hP_61 := hP.mono (cIx hI54 (by decide)) (cRx hX55 (by decide))
    have hK_62 := hK.mono (cIx hI54 (by decide)) (cRx hX55 (by decide))
    have hEI63 := hEI.tr hI54 (by decide)
    have hER64 := hER.tr hX55 (by decide)
    show pl _ _ _ (218, [(0, .ref m0), (1, .int 1), (2, .int t), (3, .int (nI (p + 6))), (4, .int (nI e)), (5, .int (nI x)), (6, .int (nI s3))], [.int 0], M2) _
    exact ps_ret rfl rfl (Or.inr (Or.inr (Or.inr (⟨s'50, I51, R52, (by rw [fe_cd]; exact q215_s), q215_b, q215_c, rfl, hR53, hEI63, hER64⟩))))
set_option maxHeartbeats 4000000 in
theorem rd_attr0 {g : xe_G} {m0 : Nat} {q : Nat → Nat} {z : Nat × Nat} {I : rI} {R : rR} {M : mi_H} {n : Nat} {f : Nat → Int32} {tx : List (List Nat)} {cN : Nat} {A : Nat → Nat} {N mj : Nat} {E : List (Nat × Nat)} {p0 e x s3 : Nat} {t : Int32} {fl ds : Nat} {l : List Nat} (hR : RS g m0 q z I R M) (hi51 : I 51 = some 0) (hi52 : I 52 = some (nI N)) (hi53 : I 53 = some (nI mj)) (hF : FK n f I R) (hY : SYT tx cN A I R) (hP : RPV f n E tx N I R) (hEP : EP f n E) (hN : N < 65536) (hmj : mj < 65536) (he : p0 ≤ e ∧ e ≤ n) (hs3 : s3 < 2048) (hx : x < 8300) (hfl : R 27 x = some (nI fl)) (hds : R 29 x = some (nI ds)) (hdt : ds < tx.length ∧ tx.getD ds [] = l) (hfd : ¬ fldN l = 0) (hf6 : fl < 65536) : pt (mT g) 177 [.ref m0, .int 0, .int t, .int (nI p0), .int (nI e), .int (nI x), .int (nI s3)] M (fun v M' => (∃  (I' : rI) (R' : rR), (¬ s_fe f 1 p0 e = some e) ∧ v = some (.int 30) ∧ RS g m0 q z I' R' M' ∧ eqI [] I I' ∧ eqR [30] R R') ∨ (∃  (I' : rI) (R' : rR), (s_fe f 1 p0 e = some e) ∧ (¬ aN fl 8 = 0 ∧ ¬ ctS l = some (tg f E (by2 f p0))) ∧ v = some (.int 31) ∧ RS g m0 q z I' R' M' ∧ eqI [] I I' ∧ eqR [30] R R') ∨ (∃  (I' : rI) (R' : rR), (s_fe f 1 p0 e = some e) ∧ (aN fl 8 = 0 ∨ ctS l = some (tg f E (by2 f p0))) ∧ v = some (.int 0) ∧ RS g m0 q z I' R' M' ∧ eqI [] I I' ∧ eqR [30] R R')) := by
  refine pt_in (b := mb_177 g) rfl (fun kf => ?_)
  show pl (mT g) kf (mb_177 g).2 (0, [(0, .ref m0), (1, .int 0), (2, .int t), (3, .int (nI p0)), (4, .int (nI e)), (5, .int (nI x)), (6, .int (nI s3))], [], M) _
  have hEI : eqI [] I I := eqI.rf
  have hER : eqR [30] R R := eqR.rf
  have hn := hF.1
  have hu9 := by2_lt f p0
  have hct := ct_in hfd
  refine ps_st (S' := (1, [(0, .ref m0), (1, .int 0), (2, .int t), (3, .int (nI p0)), (4, .int (nI e)), (5, .int (nI x)), (6, .int (nI s3))], [.int 0], M)) rfl rfl rfl ?_
  refine ps_st (S' := (56, [(0, .ref m0), (1, .int 0), (2, .int t), (3, .int (nI p0)), (4, .int (nI e)), (5, .int (nI x)), (6, .int (nI s3))], [], M)) rfl rfl rfl ?_
  refine ps_st (S' := (58, [(0, .ref m0), (1, .int 0), (2, .int t), (3, .int (nI p0)), (4, .int (nI e)), (5, .int (nI x)), (6, .int (nI s3))], [.int (nI e)], M)) rfl rfl rfl ?_
  refine ps_st (S' := (59, [(0, .ref m0), (1, .int 0), (2, .int t), (3, .int (nI p0)), (4, .int (nI e)), (5, .int (nI x)), (6, .int (nI s3))], [.int (nI p0), .int (nI e)], M)) rfl rfl rfl ?_
  refine ps_st (S' := (60, [(0, .ref m0), (1, .int 0), (2, .int t), (3, .int (nI p0)), (4, .int (nI e)), (5, .int (nI x)), (6, .int (nI s3))], [.int ((nI e) - (nI p0))], M)) rfl rfl rfl ?_
  rw [nI_sub1 (p := e) (k := p0) (x := (nI p0)) rfl (by omega) (by omega)]
  show pl _ _ _ (_, [(0, .ref m0), (1, .int 0), (2, .int t), (3, .int (nI p0)), (4, .int (nI e)), (5, .int (nI x)), (6, .int (nI s3))], [.int (nI (e - p0))], M) _
  refine ps_st (S' := (61, [(0, .ref m0), (1, .int 0), (2, .int t), (3, .int (nI p0)), (4, .int (nI e)), (5, .int (nI x)), (6, .int (nI s3))], [.int 2, .int (nI (e - p0))], M)) rfl rfl rfl ?_
  refine ps_if2 (S1 := (67, [(0, .ref m0), (1, .int 0), (2, .int t), (3, .int (nI p0)), (4, .int (nI e)), (5, .int (nI x)), (6, .int (nI s3))], [], M)) (S2 := (64, [(0, .ref m0), (1, .int 0), (2, .int t), (3, .int (nI p0)), (4, .int (nI e)), (5, .int (nI x)), (6, .int (nI s3))], [], M)) rfl rfl rfl (fun c_61 => ?_) (fun c_61 => ?_)
  · have c_61 : (nI (e - p0)) = 2 := of_decide_eq_true c_61
    have n_61 : e - p0 = 2 := (eq_nI (p := e - p0) (n := 2) (by omega) (by decide)).mp c_61
    refine ps_st (S' := (68, [(0, .ref m0), (1, .int 0), (2, .int t), (3, .int (nI p0)), (4, .int (nI e)), (5, .int (nI x)), (6, .int (nI s3))], [.ref m0], M)) rfl rfl rfl ?_
    refine pr_ref (j := 27) (S' := (71, [(0, .ref m0), (1, .int 0), (2, .int t), (3, .int (nI p0)), (4, .int (nI e)), (5, .int (nI x)), (6, .int (nI s3))], [.ref (q 27)], M)) rfl hR rfl rfl ?_
    refine ps_st (S' := (73, [(0, .ref m0), (1, .int 0), (2, .int t), (3, .int (nI p0)), (4, .int (nI e)), (5, .int (nI x)), (6, .int (nI s3))], [.int (nI x), .ref (q 27)], M)) rfl rfl rfl ?_
    refine pr_ld (a := 27) (j := x) (y := (nI fl)) (S' := (74, [(0, .ref m0), (1, .int 0), (2, .int t), (3, .int (nI p0)), (4, .int (nI e)), (5, .int (nI x)), (6, .int (nI s3))], [.int (nI fl)], M)) rfl hR rfl (by omega) (fun _ => hfl) rfl (fun i1_73 => ?_)
    refine ps_st (S' := (76, [(0, .ref m0), (1, .int 0), (2, .int t), (3, .int (nI p0)), (4, .int (nI e)), (5, .int (nI x)), (6, .int (nI s3))], [.int 8, .int (nI fl)], M)) rfl rfl rfl ?_
    refine ps_st (S' := (77, [(0, .ref m0), (1, .int 0), (2, .int t), (3, .int (nI p0)), (4, .int (nI e)), (5, .int (nI x)), (6, .int (nI s3))], [.int ((nI fl) &&& 8)], M)) rfl rfl rfl ?_
    rw [nI_an (p := fl) (k := 8) (x := 8) rfl]
    show pl _ _ _ (_, [(0, .ref m0), (1, .int 0), (2, .int t), (3, .int (nI p0)), (4, .int (nI e)), (5, .int (nI x)), (6, .int (nI s3))], [.int (nI (aN fl 8))], M) _
    refine ps_if (S1 := (82, [(0, .ref m0), (1, .int 0), (2, .int t), (3, .int (nI p0)), (4, .int (nI e)), (5, .int (nI x)), (6, .int (nI s3))], [], M)) (S2 := (80, [(0, .ref m0), (1, .int 0), (2, .int t), (3, .int (nI p0)), (4, .int (nI e)), (5, .int (nI x)), (6, .int (nI s3))], [], M)) rfl rfl rfl (fun c_77 => ?_) (fun c_77 => ?_)
    · have c_77 : ¬ (nI (aN fl 8)) = 0 := of_decide_eq_true c_77
      have n_77 : ¬ (aN fl 8 = 0) := fun h9 => c_77 ((eq_nI (p := aN fl 8) (n := 0) (Nat.lt_of_le_of_lt (an_le _ _) (by decide)) (by decide)).mpr h9)
      refine ps_st (S' := (83, [(0, .ref m0), (1, .int 0), (2, .int t), (3, .int (nI p0)), (4, .int (nI e)), (5, .int (nI x)), (6, .int (nI s3))], [.ref m0], M)) rfl rfl rfl ?_
      refine ps_st (S' := (84, [(0, .ref m0), (1, .int 0), (2, .int t), (3, .int (nI p0)), (4, .int (nI e)), (5, .int (nI x)), (6, .int (nI s3))], [.ref m0, .ref m0], M)) rfl rfl rfl ?_
      refine pr_ref (j := 29) (S' := (87, [(0, .ref m0), (1, .int 0), (2, .int t), (3, .int (nI p0)), (4, .int (nI e)), (5, .int (nI x)), (6, .int (nI s3))], [.ref (q 29), .ref m0], M)) rfl hR rfl rfl ?_
      refine ps_st (S' := (89, [(0, .ref m0), (1, .int 0), (2, .int t), (3, .int (nI p0)), (4, .int (nI e)), (5, .int (nI x)), (6, .int (nI s3))], [.int (nI x), .ref (q 29), .ref m0], M)) rfl rfl rfl ?_
      refine pr_ld (a := 29) (j := x) (y := (nI ds)) (S' := (90, [(0, .ref m0), (1, .int 0), (2, .int t), (3, .int (nI p0)), (4, .int (nI e)), (5, .int (nI x)), (6, .int (nI s3))], [.int (nI ds), .ref m0], M)) rfl hR rfl (by omega) (fun _ => hds) rfl (fun i1_89 => ?_)
      refine ps_st (S' := (91, [(0, .ref m0), (1, .int 0), (2, .int t), (3, .int (nI p0)), (4, .int (nI e)), (5, .int (nI x)), (6, .int (nI s3))], [.int 0, .int (nI ds), .ref m0], M)) rfl rfl rfl ?_
      refine pl_call (a := [.ref m0, .int (nI ds), .int 0]) (rest := []) rfl rfl rfl (rd_at (tx := tx) (cN := cN) (A := A) (s := ds) (l := l) (k := 0) hR hY (hdt) (by omega)) (fun v1 M2 q3 => ?_)
      obtain ⟨rfl, rfl⟩ := q3
      show pl _ _ _ (94, [(0, .ref m0), (1, .int 0), (2, .int t), (3, .int (nI p0)), (4, .int (nI e)), (5, .int (nI x)), (6, .int (nI s3))], [.int (nI (l.getD 0 0))], M) _
      have hc_91 := hY.ch hdt (k := 0) (by omega)
      refine ps_st (S' := (96, [(7, .int (nI (l.getD 0 0))), (0, .ref m0), (1, .int 0), (2, .int t), (3, .int (nI p0)), (4, .int (nI e)), (5, .int (nI x)), (6, .int (nI s3))], [], M)) rfl rfl rfl ?_
      refine ps_st (S' := (98, [(7, .int (nI (l.getD 0 0))), (0, .ref m0), (1, .int 0), (2, .int t), (3, .int (nI p0)), (4, .int (nI e)), (5, .int (nI x)), (6, .int (nI s3))], [.int (nI (l.getD 0 0))], M)) rfl rfl rfl ?_
      refine ps_st (S' := (100, [(7, .int (nI (l.getD 0 0))), (0, .ref m0), (1, .int 0), (2, .int t), (3, .int (nI p0)), (4, .int (nI e)), (5, .int (nI x)), (6, .int (nI s3))], [.int 74, .int (nI (l.getD 0 0))], M)) rfl rfl rfl ?_
      refine ps_if2 (S1 := (107, [(7, .int (nI (l.getD 0 0))), (0, .ref m0), (1, .int 0), (2, .int t), (3, .int (nI p0)), (4, .int (nI e)), (5, .int (nI x)), (6, .int (nI s3))], [], M)) (S2 := (103, [(7, .int (nI (l.getD 0 0))), (0, .ref m0), (1, .int 0), (2, .int t), (3, .int (nI p0)), (4, .int (nI e)), (5, .int (nI x)), (6, .int (nI s3))], [], M)) rfl rfl rfl (fun c_100 => ?_) (fun c_100 => ?_)
      · have c_100 : ¬ (nI (l.getD 0 0)) = 74 := of_decide_eq_true c_100
        have n_100 : ¬ (l.getD 0 0 = 74) := fun h9 => c_100 ((eq_nI (p := l.getD 0 0) (n := 74) (by omega) (by decide)).mpr h9)
        refine ps_st (S' := (109, [(7, .int (nI (l.getD 0 0))), (0, .ref m0), (1, .int 0), (2, .int t), (3, .int (nI p0)), (4, .int (nI e)), (5, .int (nI x)), (6, .int (nI s3))], [.int (nI (l.getD 0 0))], M)) rfl rfl rfl ?_
        refine ps_st (S' := (111, [(7, .int (nI (l.getD 0 0))), (0, .ref m0), (1, .int 0), (2, .int t), (3, .int (nI p0)), (4, .int (nI e)), (5, .int (nI x)), (6, .int (nI s3))], [.int 70, .int (nI (l.getD 0 0))], M)) rfl rfl rfl ?_
        refine ps_if2 (S1 := (118, [(7, .int (nI (l.getD 0 0))), (0, .ref m0), (1, .int 0), (2, .int t), (3, .int (nI p0)), (4, .int (nI e)), (5, .int (nI x)), (6, .int (nI s3))], [], M)) (S2 := (114, [(7, .int (nI (l.getD 0 0))), (0, .ref m0), (1, .int 0), (2, .int t), (3, .int (nI p0)), (4, .int (nI e)), (5, .int (nI x)), (6, .int (nI s3))], [], M)) rfl rfl rfl (fun c_111 => ?_) (fun c_111 => ?_)
        · have c_111 : ¬ (nI (l.getD 0 0)) = 70 := of_decide_eq_true c_111
          have n_111 : ¬ (l.getD 0 0 = 70) := fun h9 => c_111 ((eq_nI (p := l.getD 0 0) (n := 70) (by omega) (by decide)).mpr h9)
          refine ps_st (S' := (120, [(7, .int (nI (l.getD 0 0))), (0, .ref m0), (1, .int 0), (2, .int t), (3, .int (nI p0)), (4, .int (nI e)), (5, .int (nI x)), (6, .int (nI s3))], [.int (nI (l.getD 0 0))], M)) rfl rfl rfl ?_
          refine ps_st (S' := (122, [(7, .int (nI (l.getD 0 0))), (0, .ref m0), (1, .int 0), (2, .int t), (3, .int (nI p0)), (4, .int (nI e)), (5, .int (nI x)), (6, .int (nI s3))], [.int 68, .int (nI (l.getD 0 0))], M)) rfl rfl rfl ?_
          refine ps_if2 (S1 := (130, [(7, .int (nI (l.getD 0 0))), (0, .ref m0), (1, .int 0), (2, .int t), (3, .int (nI p0)), (4, .int (nI e)), (5, .int (nI x)), (6, .int (nI s3))], [], M)) (S2 := (125, [(7, .int (nI (l.getD 0 0))), (0, .ref m0), (1, .int 0), (2, .int t), (3, .int (nI p0)), (4, .int (nI e)), (5, .int (nI x)), (6, .int (nI s3))], [], M)) rfl rfl rfl (fun c_122 => ?_) (fun c_122 => ?_)
          · have c_122 : ¬ (nI (l.getD 0 0)) = 68 := of_decide_eq_true c_122
            have n_122 : ¬ (l.getD 0 0 = 68) := fun h9 => c_122 ((eq_nI (p := l.getD 0 0) (n := 68) (by omega) (by decide)).mpr h9)
            refine ps_st (S' := (132, [(7, .int (nI (l.getD 0 0))), (0, .ref m0), (1, .int 0), (2, .int t), (3, .int (nI p0)), (4, .int (nI e)), (5, .int (nI x)), (6, .int (nI s3))], [.int (nI (l.getD 0 0))], M)) rfl rfl rfl ?_
            refine ps_st (S' := (134, [(7, .int (nI (l.getD 0 0))), (0, .ref m0), (1, .int 0), (2, .int t), (3, .int (nI p0)), (4, .int (nI e)), (5, .int (nI x)), (6, .int (nI s3))], [.int 76, .int (nI (l.getD 0 0))], M)) rfl rfl rfl ?_
            refine ps_if2 (S1 := (163, [(7, .int (nI (l.getD 0 0))), (0, .ref m0), (1, .int 0), (2, .int t), (3, .int (nI p0)), (4, .int (nI e)), (5, .int (nI x)), (6, .int (nI s3))], [], M)) (S2 := (137, [(7, .int (nI (l.getD 0 0))), (0, .ref m0), (1, .int 0), (2, .int t), (3, .int (nI p0)), (4, .int (nI e)), (5, .int (nI x)), (6, .int (nI s3))], [], M)) rfl rfl rfl (fun c_134 => ?_) (fun c_134 => ?_)
            · have c_134 : ¬ (nI (l.getD 0 0)) = 76 := of_decide_eq_true c_134
              have n_134 : ¬ (l.getD 0 0 = 76) := fun h9 => c_134 ((eq_nI (p := l.getD 0 0) (n := 76) (by omega) (by decide)).mpr h9)
              refine ps_st (S' := (165, [(7, .int (nI (l.getD 0 0))), (0, .ref m0), (1, .int 0), (2, .int t), (3, .int (nI p0)), (4, .int (nI e)), (5, .int (nI x)), (6, .int (nI s3))], [.int (nI (l.getD 0 0))], M)) rfl rfl rfl ?_
              refine ps_st (S' := (167, [(7, .int (nI (l.getD 0 0))), (0, .ref m0), (1, .int 0), (2, .int t), (3, .int (nI p0)), (4, .int (nI e)), (5, .int (nI x)), (6, .int (nI s3))], [.int 91, .int (nI (l.getD 0 0))], M)) rfl rfl rfl ?_
              refine ps_if2 (S1 := (174, [(7, .int (nI (l.getD 0 0))), (0, .ref m0), (1, .int 0), (2, .int t), (3, .int (nI p0)), (4, .int (nI e)), (5, .int (nI x)), (6, .int (nI s3))], [], M)) (S2 := (170, [(7, .int (nI (l.getD 0 0))), (0, .ref m0), (1, .int 0), (2, .int t), (3, .int (nI p0)), (4, .int (nI e)), (5, .int (nI x)), (6, .int (nI s3))], [], M)) rfl rfl rfl (fun c_167 => ?_) (fun c_167 => ?_)
              · have c_167 : ¬ (nI (l.getD 0 0)) = 91 := of_decide_eq_true c_167
                have n_167 : ¬ (l.getD 0 0 = 91) := fun h9 => c_167 ((eq_nI (p := l.getD 0 0) (n := 91) (by omega) (by decide)).mpr h9)
                refine ps_st (S' := (175, [(0, .ref m0), (3, .int (nI p0)), (5, .int (nI x))], [.int 3], M)) rfl rfl rfl ?_
                refine ps_st (S' := (177, [(8, .int 3), (0, .ref m0), (3, .int (nI p0)), (5, .int (nI x))], [], M)) rfl rfl rfl ?_
                refine ps_st (S' := (178, [(8, .int 3), (0, .ref m0), (3, .int (nI p0)), (5, .int (nI x))], [.ref m0], M)) rfl rfl rfl ?_
                refine ps_st (S' := (179, [(8, .int 3), (0, .ref m0), (3, .int (nI p0)), (5, .int (nI x))], [.ref m0, .ref m0], M)) rfl rfl rfl ?_
                refine ps_st (S' := (180, [(8, .int 3), (0, .ref m0), (3, .int (nI p0)), (5, .int (nI x))], [.int (nI p0), .ref m0, .ref m0], M)) rfl rfl rfl ?_
                refine pl_call (a := [.ref m0, .int (nI p0)]) (rest := [.ref m0]) rfl rfl rfl (rd_u2 (n := n) (f := f) (p := p0) hR hF (by omega)) (fun v4 M5 q6 => ?_)
                obtain ⟨rfl, rfl⟩ := q6
                show pl _ _ _ (183, [(8, .int 3), (0, .ref m0), (3, .int (nI p0)), (5, .int (nI x))], [.int (nI (by2 f p0)), .ref m0], M) _
                have hu_180 := by2_lt f p0
                refine pl_call (a := [.ref m0, .int (nI (by2 f p0))]) (rest := []) rfl rfl rfl (rd_tag (n := n) (f := f) (tx := tx) (cN := cN) (A := A) (N := N) (mj := mj) (E := E) (k := (by2 f p0)) hR hi51 hi52 hi53 hF hY hP (hEP) (hN) (hmj) (by2_lt _ _)) (fun v7 M8 q9 => ?_)
                obtain ⟨rfl, rfl⟩ := q9
                show pl _ _ _ (186, [(8, .int 3), (0, .ref m0), (3, .int (nI p0)), (5, .int (nI x))], [.int (nI (tg f E (by2 f p0)))], M) _
                have htg_183 := tg_lt f E (by2 f p0)
                refine ps_st (S' := (188, [(8, .int 3), (0, .ref m0), (3, .int (nI p0)), (5, .int (nI x))], [.int 3, .int (nI (tg f E (by2 f p0)))], M)) rfl rfl rfl ?_
                refine ps_if2 (S1 := (194, [(8, .int 3), (0, .ref m0), (3, .int (nI p0)), (5, .int (nI x))], [], M)) (S2 := (191, [(8, .int 3), (0, .ref m0), (3, .int (nI p0)), (5, .int (nI x))], [], M)) rfl rfl rfl (fun c_188 => ?_) (fun c_188 => ?_)
                · have c_188 : (nI (tg f E (by2 f p0))) = 3 := of_decide_eq_true c_188
                  have n_188 : tg f E (by2 f p0) = 3 := (eq_nI (p := tg f E (by2 f p0)) (n := 3) (Nat.lt_trans (tg_lt _ _ _) (by decide)) (by decide)).mp c_188
                  refine ps_st (S' := (195, [(8, .int 3), (0, .ref m0), (3, .int (nI p0)), (5, .int (nI x))], [.ref m0], M)) rfl rfl rfl ?_
                  refine pr_ref (j := 30) (S' := (198, [(8, .int 3), (0, .ref m0), (3, .int (nI p0)), (5, .int (nI x))], [.ref (q 30)], M)) rfl hR rfl rfl ?_
                  refine ps_st (S' := (200, [(8, .int 3), (0, .ref m0), (3, .int (nI p0)), (5, .int (nI x))], [.int (nI x), .ref (q 30)], M)) rfl rfl rfl ?_
                  refine ps_st (S' := (201, [(8, .int 3), (0, .ref m0), (3, .int (nI p0)), (5, .int (nI x))], [.ref m0, .int (nI x), .ref (q 30)], M)) rfl rfl rfl ?_
                  refine ps_st (S' := (202, [(8, .int 3), (0, .ref m0), (3, .int (nI p0)), (5, .int (nI x))], [.int (nI p0), .ref m0, .int (nI x), .ref (q 30)], M)) rfl rfl rfl ?_
                  refine pl_call (a := [.ref m0, .int (nI p0)]) (rest := [.int (nI x), .ref (q 30)]) rfl rfl rfl (rd_u2 (n := n) (f := f) (p := p0) hR hF (by omega)) (fun v10 M11 q12 => ?_)
                  obtain ⟨rfl, rfl⟩ := q12
                  show pl _ _ _ (205, [(8, .int 3), (0, .ref m0), (3, .int (nI p0)), (5, .int (nI x))], [.int (nI (by2 f p0)), .int (nI x), .ref (q 30)], M) _
                  have hu_202 := by2_lt f p0
                  refine pr_st (a := 30) (j := x) rfl hR rfl (by omega) (fun M13 R14 i1_205 hR15 hS16 => ?_)
                  have hF_17 := hF.mono (fun _ _ => rfl) (rRx hS16 (by decide))
                  have hY_18 := hY.mono (fun _ _ => rfl) (rRx hS16 (by decide))
                  have hP_19 := hP.mono (fun _ _ => rfl) (rRx hS16 (by decide))
                  have hER20 := hER.st hS16 (by decide)
                  show pl _ _ _ (206, [(8, .int 3), (0, .ref m0), (3, .int (nI p0)), (5, .int (nI x))], [], M13) _
                  refine ps_st (S' := (207, [(8, .int 3), (0, .ref m0), (3, .int (nI p0)), (5, .int (nI x))], [.int 0], M13)) rfl rfl rfl ?_
                  exact ps_ret rfl rfl (Or.inr (Or.inr ⟨I, R14, (fe_1 (by decide) (by omega)).trans (congrArg some (by omega)), Or.inr (((ct_ne hfd (by omega) (by omega)).trans (congrArg some (by rw [if_neg (by omega), if_neg (by omega), if_neg (by omega)]))).trans (congrArg some (by omega))), rfl, hR15, hEI, hER20⟩))
                · have c_188 : ¬ ((nI (tg f E (by2 f p0))) = 3) := of_decide_eq_false c_188
                  have n_188 : ¬ (tg f E (by2 f p0) = 3) := fun h9 => c_188 ((eq_nI (p := tg f E (by2 f p0)) (n := 3) (Nat.lt_trans (tg_lt _ _ _) (by decide)) (by decide)).mpr h9)
                  refine ps_st (S' := (193, [(8, .int 3), (0, .ref m0), (3, .int (nI p0)), (5, .int (nI x))], [.int 31], M)) rfl rfl rfl ?_
                  exact ps_ret rfl rfl (Or.inr (Or.inl ⟨I, R, (fe_1 (by decide) (by omega)).trans (congrArg some (by omega)), ⟨by omega, fun h9 => (by have h8 := ((ct_ne hfd (by omega) (by omega)).trans (congrArg some (by rw [if_neg (by omega), if_neg (by omega), if_neg (by omega)]))).symm.trans h9; have h7 := Option.some.inj h8; omega)⟩, rfl, hR, hEI, hER⟩))
              · have c_167 : ¬ (¬ (nI (l.getD 0 0)) = 91) := of_decide_eq_false c_167
                have n_167 : l.getD 0 0 = 91 := (eq_nI (p := l.getD 0 0) (n := 91) (by omega) (by decide)).mp (Decidable.not_not.mp c_167)
                refine ps_st (S' := (171, [(7, .int (nI (l.getD 0 0))), (0, .ref m0), (1, .int 0), (2, .int t), (3, .int (nI p0)), (4, .int (nI e)), (5, .int (nI x)), (6, .int (nI s3))], [.int (-1)], M)) rfl rfl rfl ?_
                refine ps_st (S' := (175, [(0, .ref m0), (3, .int (nI p0)), (5, .int (nI x))], [.int (-1)], M)) rfl rfl rfl ?_
                refine ps_st (S' := (177, [(8, .int (-1)), (0, .ref m0), (3, .int (nI p0)), (5, .int (nI x))], [], M)) rfl rfl rfl ?_
                refine ps_st (S' := (178, [(8, .int (-1)), (0, .ref m0), (3, .int (nI p0)), (5, .int (nI x))], [.ref m0], M)) rfl rfl rfl ?_
                refine ps_st (S' := (179, [(8, .int (-1)), (0, .ref m0), (3, .int (nI p0)), (5, .int (nI x))], [.ref m0, .ref m0], M)) rfl rfl rfl ?_
                refine ps_st (S' := (180, [(8, .int (-1)), (0, .ref m0), (3, .int (nI p0)), (5, .int (nI x))], [.int (nI p0), .ref m0, .ref m0], M)) rfl rfl rfl ?_
                refine pl_call (a := [.ref m0, .int (nI p0)]) (rest := [.ref m0]) rfl rfl rfl (rd_u2 (n := n) (f := f) (p := p0) hR hF (by omega)) (fun v21 M22 q23 => ?_)
                obtain ⟨rfl, rfl⟩ := q23
                show pl _ _ _ (183, [(8, .int (-1)), (0, .ref m0), (3, .int (nI p0)), (5, .int (nI x))], [.int (nI (by2 f p0)), .ref m0], M) _
                have hu_180 := by2_lt f p0
                refine pl_call (a := [.ref m0, .int (nI (by2 f p0))]) (rest := []) rfl rfl rfl (rd_tag (n := n) (f := f) (tx := tx) (cN := cN) (A := A) (N := N) (mj := mj) (E := E) (k := (by2 f p0)) hR hi51 hi52 hi53 hF hY hP (hEP) (hN) (hmj) (by2_lt _ _)) (fun v24 M25 q26 => ?_)
                obtain ⟨rfl, rfl⟩ := q26
                show pl _ _ _ (186, [(8, .int (-1)), (0, .ref m0), (3, .int (nI p0)), (5, .int (nI x))], [.int (nI (tg f E (by2 f p0)))], M) _
                have htg_183 := tg_lt f E (by2 f p0)
                refine ps_st (S' := (188, [(8, .int (-1)), (0, .ref m0), (3, .int (nI p0)), (5, .int (nI x))], [.int (-1), .int (nI (tg f E (by2 f p0)))], M)) rfl rfl rfl ?_
                refine ps_if2 (S1 := (194, [(8, .int (-1)), (0, .ref m0), (3, .int (nI p0)), (5, .int (nI x))], [], M)) (S2 := (191, [(8, .int (-1)), (0, .ref m0), (3, .int (nI p0)), (5, .int (nI x))], [], M)) rfl rfl rfl (fun c_188 => ?_) (fun c_188 => ?_)
                · exact absurd (of_decide_eq_true c_188) (fun h9 => m1_ne (Nat.lt_trans (tg_lt _ _ _) (by decide)) h9.symm)
                refine ps_st (S' := (193, [(8, .int (-1)), (0, .ref m0), (3, .int (nI p0)), (5, .int (nI x))], [.int 31], M)) rfl rfl rfl ?_
                exact ps_ret rfl rfl (Or.inr (Or.inl ⟨I, R, (fe_1 (by decide) (by omega)).trans (congrArg some (by omega)), ⟨by omega, fun h9 => (by have h8 := (ct_91 hfd (by omega)).symm.trans h9; cases h8)⟩, rfl, hR, hEI, hER⟩))
            · have c_134 : ¬ (¬ (nI (l.getD 0 0)) = 76) := of_decide_eq_false c_134
              have n_134 : l.getD 0 0 = 76 := (eq_nI (p := l.getD 0 0) (n := 76) (by omega) (by decide)).mp (Decidable.not_not.mp c_134)
              refine ps_st (S' := (138, [(7, .int (nI (l.getD 0 0))), (0, .ref m0), (1, .int 0), (2, .int t), (3, .int (nI p0)), (4, .int (nI e)), (5, .int (nI x)), (6, .int (nI s3))], [.ref m0], M)) rfl rfl rfl ?_
              refine ps_st (S' := (139, [(7, .int (nI (l.getD 0 0))), (0, .ref m0), (1, .int 0), (2, .int t), (3, .int (nI p0)), (4, .int (nI e)), (5, .int (nI x)), (6, .int (nI s3))], [.ref m0, .ref m0], M)) rfl rfl rfl ?_
              refine pr_ref (j := 29) (S' := (142, [(7, .int (nI (l.getD 0 0))), (0, .ref m0), (1, .int 0), (2, .int t), (3, .int (nI p0)), (4, .int (nI e)), (5, .int (nI x)), (6, .int (nI s3))], [.ref (q 29), .ref m0], M)) rfl hR rfl rfl ?_
              refine ps_st (S' := (144, [(7, .int (nI (l.getD 0 0))), (0, .ref m0), (1, .int 0), (2, .int t), (3, .int (nI p0)), (4, .int (nI e)), (5, .int (nI x)), (6, .int (nI s3))], [.int (nI x), .ref (q 29), .ref m0], M)) rfl rfl rfl ?_
              refine pr_ld (a := 29) (j := x) (y := (nI ds)) (S' := (145, [(7, .int (nI (l.getD 0 0))), (0, .ref m0), (1, .int 0), (2, .int t), (3, .int (nI p0)), (4, .int (nI e)), (5, .int (nI x)), (6, .int (nI s3))], [.int (nI ds), .ref m0], M)) rfl hR rfl (by omega) (fun _ => hds) rfl (fun i1_144 => ?_)
              refine ps_st (S' := (148, [(7, .int (nI (l.getD 0 0))), (0, .ref m0), (1, .int 0), (2, .int t), (3, .int (nI p0)), (4, .int (nI e)), (5, .int (nI x)), (6, .int (nI s3))], [.ref (g.2.1 28), .int (nI ds), .ref m0], M)) rfl rfl rfl ?_
              refine pl_call (a := [.ref m0, .int (nI ds), .ref (g.2.1 28)]) (rest := []) rfl rfl rfl (rd_is (tx := tx) (cN := cN) (A := A) (s := ds) (l := l) (lk := 28) hR hY (hdt) (⟨by decide, by decide⟩)) (fun v27 M28 q29 => ?_)
              obtain ⟨rfl, rfl⟩ := q29
              show pl _ _ _ (151, [(7, .int (nI (l.getD 0 0))), (0, .ref m0), (1, .int 0), (2, .int t), (3, .int (nI p0)), (4, .int (nI e)), (5, .int (nI x)), (6, .int (nI s3))], [.int (nI (eqN l (ltx 28)))], M) _
              refine ps_if (S1 := (159, [(7, .int (nI (l.getD 0 0))), (0, .ref m0), (1, .int 0), (2, .int t), (3, .int (nI p0)), (4, .int (nI e)), (5, .int (nI x)), (6, .int (nI s3))], [], M)) (S2 := (154, [(7, .int (nI (l.getD 0 0))), (0, .ref m0), (1, .int 0), (2, .int t), (3, .int (nI p0)), (4, .int (nI e)), (5, .int (nI x)), (6, .int (nI s3))], [], M)) rfl rfl rfl (fun c_151 => ?_) (fun c_151 => ?_)
              · have c_151 : (nI (eqN l (ltx 28))) = 0 := of_decide_eq_true c_151
                have n_151 : eqN l (ltx 28) = 0 := (eq_nI (p := eqN l (ltx 28)) (n := 0) (Nat.lt_trans (le1_eq _ _) (by decide)) (by decide)).mp c_151
                refine ps_st (S' := (160, [(7, .int (nI (l.getD 0 0))), (0, .ref m0), (1, .int 0), (2, .int t), (3, .int (nI p0)), (4, .int (nI e)), (5, .int (nI x)), (6, .int (nI s3))], [.int (-1)], M)) rfl rfl rfl ?_
                refine ps_st (S' := (175, [(0, .ref m0), (3, .int (nI p0)), (5, .int (nI x))], [.int (-1)], M)) rfl rfl rfl ?_
                refine ps_st (S' := (177, [(8, .int (-1)), (0, .ref m0), (3, .int (nI p0)), (5, .int (nI x))], [], M)) rfl rfl rfl ?_
                refine ps_st (S' := (178, [(8, .int (-1)), (0, .ref m0), (3, .int (nI p0)), (5, .int (nI x))], [.ref m0], M)) rfl rfl rfl ?_
                refine ps_st (S' := (179, [(8, .int (-1)), (0, .ref m0), (3, .int (nI p0)), (5, .int (nI x))], [.ref m0, .ref m0], M)) rfl rfl rfl ?_
                refine ps_st (S' := (180, [(8, .int (-1)), (0, .ref m0), (3, .int (nI p0)), (5, .int (nI x))], [.int (nI p0), .ref m0, .ref m0], M)) rfl rfl rfl ?_
                refine pl_call (a := [.ref m0, .int (nI p0)]) (rest := [.ref m0]) rfl rfl rfl (rd_u2 (n := n) (f := f) (p := p0) hR hF (by omega)) (fun v30 M31 q32 => ?_)
                obtain ⟨rfl, rfl⟩ := q32
                show pl _ _ _ (183, [(8, .int (-1)), (0, .ref m0), (3, .int (nI p0)), (5, .int (nI x))], [.int (nI (by2 f p0)), .ref m0], M) _
                have hu_180 := by2_lt f p0
                refine pl_call (a := [.ref m0, .int (nI (by2 f p0))]) (rest := []) rfl rfl rfl (rd_tag (n := n) (f := f) (tx := tx) (cN := cN) (A := A) (N := N) (mj := mj) (E := E) (k := (by2 f p0)) hR hi51 hi52 hi53 hF hY hP (hEP) (hN) (hmj) (by2_lt _ _)) (fun v33 M34 q35 => ?_)
                obtain ⟨rfl, rfl⟩ := q35
                show pl _ _ _ (186, [(8, .int (-1)), (0, .ref m0), (3, .int (nI p0)), (5, .int (nI x))], [.int (nI (tg f E (by2 f p0)))], M) _
                have htg_183 := tg_lt f E (by2 f p0)
                refine ps_st (S' := (188, [(8, .int (-1)), (0, .ref m0), (3, .int (nI p0)), (5, .int (nI x))], [.int (-1), .int (nI (tg f E (by2 f p0)))], M)) rfl rfl rfl ?_
                refine ps_if2 (S1 := (194, [(8, .int (-1)), (0, .ref m0), (3, .int (nI p0)), (5, .int (nI x))], [], M)) (S2 := (191, [(8, .int (-1)), (0, .ref m0), (3, .int (nI p0)), (5, .int (nI x))], [], M)) rfl rfl rfl (fun c_188 => ?_) (fun c_188 => ?_)
                · exact absurd (of_decide_eq_true c_188) (fun h9 => m1_ne (Nat.lt_trans (tg_lt _ _ _) (by decide)) h9.symm)
                refine ps_st (S' := (193, [(8, .int (-1)), (0, .ref m0), (3, .int (nI p0)), (5, .int (nI x))], [.int 31], M)) rfl rfl rfl ?_
                exact ps_ret rfl rfl (Or.inr (Or.inl ⟨I, R, (fe_1 (by decide) (by omega)).trans (congrArg some (by omega)), ⟨by omega, fun h9 => (by have h8 := ((ct_76 hfd (by omega)).trans (by rw [← lt_28, if_pos n_151])).symm.trans h9; cases h8)⟩, rfl, hR, hEI, hER⟩))
              · have c_151 : ¬ ((nI (eqN l (ltx 28))) = 0) := of_decide_eq_false c_151
                have n_151 : ¬ (eqN l (ltx 28) = 0) := fun h9 => c_151 ((eq_nI (p := eqN l (ltx 28)) (n := 0) (Nat.lt_trans (le1_eq _ _) (by decide)) (by decide)).mpr h9)
                refine ps_st (S' := (156, [(7, .int (nI (l.getD 0 0))), (0, .ref m0), (1, .int 0), (2, .int t), (3, .int (nI p0)), (4, .int (nI e)), (5, .int (nI x)), (6, .int (nI s3))], [.int 8], M)) rfl rfl rfl ?_
                refine ps_st (S' := (175, [(0, .ref m0), (3, .int (nI p0)), (5, .int (nI x))], [.int 8], M)) rfl rfl rfl ?_
                refine ps_st (S' := (177, [(8, .int 8), (0, .ref m0), (3, .int (nI p0)), (5, .int (nI x))], [], M)) rfl rfl rfl ?_
                refine ps_st (S' := (178, [(8, .int 8), (0, .ref m0), (3, .int (nI p0)), (5, .int (nI x))], [.ref m0], M)) rfl rfl rfl ?_
                refine ps_st (S' := (179, [(8, .int 8), (0, .ref m0), (3, .int (nI p0)), (5, .int (nI x))], [.ref m0, .ref m0], M)) rfl rfl rfl ?_
                refine ps_st (S' := (180, [(8, .int 8), (0, .ref m0), (3, .int (nI p0)), (5, .int (nI x))], [.int (nI p0), .ref m0, .ref m0], M)) rfl rfl rfl ?_
                refine pl_call (a := [.ref m0, .int (nI p0)]) (rest := [.ref m0]) rfl rfl rfl (rd_u2 (n := n) (f := f) (p := p0) hR hF (by omega)) (fun v36 M37 q38 => ?_)
                obtain ⟨rfl, rfl⟩ := q38
                show pl _ _ _ (183, [(8, .int 8), (0, .ref m0), (3, .int (nI p0)), (5, .int (nI x))], [.int (nI (by2 f p0)), .ref m0], M) _
                have hu_180 := by2_lt f p0
                refine pl_call (a := [.ref m0, .int (nI (by2 f p0))]) (rest := []) rfl rfl rfl (rd_tag (n := n) (f := f) (tx := tx) (cN := cN) (A := A) (N := N) (mj := mj) (E := E) (k := (by2 f p0)) hR hi51 hi52 hi53 hF hY hP (hEP) (hN) (hmj) (by2_lt _ _)) (fun v39 M40 q41 => ?_)
                obtain ⟨rfl, rfl⟩ := q41
                show pl _ _ _ (186, [(8, .int 8), (0, .ref m0), (3, .int (nI p0)), (5, .int (nI x))], [.int (nI (tg f E (by2 f p0)))], M) _
                have htg_183 := tg_lt f E (by2 f p0)
                refine ps_st (S' := (188, [(8, .int 8), (0, .ref m0), (3, .int (nI p0)), (5, .int (nI x))], [.int 8, .int (nI (tg f E (by2 f p0)))], M)) rfl rfl rfl ?_
                refine ps_if2 (S1 := (194, [(8, .int 8), (0, .ref m0), (3, .int (nI p0)), (5, .int (nI x))], [], M)) (S2 := (191, [(8, .int 8), (0, .ref m0), (3, .int (nI p0)), (5, .int (nI x))], [], M)) rfl rfl rfl (fun c_188 => ?_) (fun c_188 => ?_)
                · have c_188 : (nI (tg f E (by2 f p0))) = 8 := of_decide_eq_true c_188
                  have n_188 : tg f E (by2 f p0) = 8 := (eq_nI (p := tg f E (by2 f p0)) (n := 8) (Nat.lt_trans (tg_lt _ _ _) (by decide)) (by decide)).mp c_188
                  refine ps_st (S' := (195, [(8, .int 8), (0, .ref m0), (3, .int (nI p0)), (5, .int (nI x))], [.ref m0], M)) rfl rfl rfl ?_
                  refine pr_ref (j := 30) (S' := (198, [(8, .int 8), (0, .ref m0), (3, .int (nI p0)), (5, .int (nI x))], [.ref (q 30)], M)) rfl hR rfl rfl ?_
                  refine ps_st (S' := (200, [(8, .int 8), (0, .ref m0), (3, .int (nI p0)), (5, .int (nI x))], [.int (nI x), .ref (q 30)], M)) rfl rfl rfl ?_
                  refine ps_st (S' := (201, [(8, .int 8), (0, .ref m0), (3, .int (nI p0)), (5, .int (nI x))], [.ref m0, .int (nI x), .ref (q 30)], M)) rfl rfl rfl ?_
                  refine ps_st (S' := (202, [(8, .int 8), (0, .ref m0), (3, .int (nI p0)), (5, .int (nI x))], [.int (nI p0), .ref m0, .int (nI x), .ref (q 30)], M)) rfl rfl rfl ?_
                  refine pl_call (a := [.ref m0, .int (nI p0)]) (rest := [.int (nI x), .ref (q 30)]) rfl rfl rfl (rd_u2 (n := n) (f := f) (p := p0) hR hF (by omega)) (fun v42 M43 q44 => ?_)
                  obtain ⟨rfl, rfl⟩ := q44
                  show pl _ _ _ (205, [(8, .int 8), (0, .ref m0), (3, .int (nI p0)), (5, .int (nI x))], [.int (nI (by2 f p0)), .int (nI x), .ref (q 30)], M) _
                  have hu_202 := by2_lt f p0
                  refine pr_st (a := 30) (j := x) rfl hR rfl (by omega) (fun M45 R46 i1_205 hR47 hS48 => ?_)
                  have hF_49 := hF.mono (fun _ _ => rfl) (rRx hS48 (by decide))
                  have hY_50 := hY.mono (fun _ _ => rfl) (rRx hS48 (by decide))
                  have hP_51 := hP.mono (fun _ _ => rfl) (rRx hS48 (by decide))
                  have hER52 := hER.st hS48 (by decide)
                  show pl _ _ _ (206, [(8, .int 8), (0, .ref m0), (3, .int (nI p0)), (5, .int (nI x))], [], M45) _
                  refine ps_st (S' := (207, [(8, .int 8), (0, .ref m0), (3, .int (nI p0)), (5, .int (nI x))], [.int 0], M45)) rfl rfl rfl ?_
                  exact ps_ret rfl rfl (Or.inr (Or.inr ⟨I, R46, (fe_1 (by decide) (by omega)).trans (congrArg some (by omega)), Or.inr (((ct_76 hfd (by omega)).trans (by rw [← lt_28, if_neg n_151])).trans (congrArg some (by omega))), rfl, hR47, hEI, hER52⟩))
                · have c_188 : ¬ ((nI (tg f E (by2 f p0))) = 8) := of_decide_eq_false c_188
                  have n_188 : ¬ (tg f E (by2 f p0) = 8) := fun h9 => c_188 ((eq_nI (p := tg f E (by2 f p0)) (n := 8) (Nat.lt_trans (tg_lt _ _ _) (by decide)) (by decide)).mpr h9)
                  refine ps_st (S' := (193, [(8, .int 8), (0, .ref m0), (3, .int (nI p0)), (5, .int (nI x))], [.int 31], M)) rfl rfl rfl ?_
                  exact ps_ret rfl rfl (Or.inr (Or.inl ⟨I, R, (fe_1 (by decide) (by omega)).trans (congrArg some (by omega)), ⟨by omega, fun h9 => (by have h8 := ((ct_76 hfd (by omega)).trans (by rw [← lt_28, if_neg n_151])).symm.trans h9; have h7 := Option.some.inj h8; omega)⟩, rfl, hR, hEI, hER⟩))
          · have c_122 : ¬ (¬ (nI (l.getD 0 0)) = 68) := of_decide_eq_false c_122
            have n_122 : l.getD 0 0 = 68 := (eq_nI (p := l.getD 0 0) (n := 68) (by omega) (by decide)).mp (Decidable.not_not.mp c_122)
            refine ps_st (S' := (127, [(7, .int (nI (l.getD 0 0))), (0, .ref m0), (1, .int 0), (2, .int t), (3, .int (nI p0)), (4, .int (nI e)), (5, .int (nI x)), (6, .int (nI s3))], [.int 6], M)) rfl rfl rfl ?_
            refine ps_st (S' := (175, [(0, .ref m0), (3, .int (nI p0)), (5, .int (nI x))], [.int 6], M)) rfl rfl rfl ?_
            refine ps_st (S' := (177, [(8, .int 6), (0, .ref m0), (3, .int (nI p0)), (5, .int (nI x))], [], M)) rfl rfl rfl ?_
            refine ps_st (S' := (178, [(8, .int 6), (0, .ref m0), (3, .int (nI p0)), (5, .int (nI x))], [.ref m0], M)) rfl rfl rfl ?_
            refine ps_st (S' := (179, [(8, .int 6), (0, .ref m0), (3, .int (nI p0)), (5, .int (nI x))], [.ref m0, .ref m0], M)) rfl rfl rfl ?_
            refine ps_st (S' := (180, [(8, .int 6), (0, .ref m0), (3, .int (nI p0)), (5, .int (nI x))], [.int (nI p0), .ref m0, .ref m0], M)) rfl rfl rfl ?_
            refine pl_call (a := [.ref m0, .int (nI p0)]) (rest := [.ref m0]) rfl rfl rfl (rd_u2 (n := n) (f := f) (p := p0) hR hF (by omega)) (fun v53 M54 q55 => ?_)
            obtain ⟨rfl, rfl⟩ := q55
            show pl _ _ _ (183, [(8, .int 6), (0, .ref m0), (3, .int (nI p0)), (5, .int (nI x))], [.int (nI (by2 f p0)), .ref m0], M) _
            have hu_180 := by2_lt f p0
            refine pl_call (a := [.ref m0, .int (nI (by2 f p0))]) (rest := []) rfl rfl rfl (rd_tag (n := n) (f := f) (tx := tx) (cN := cN) (A := A) (N := N) (mj := mj) (E := E) (k := (by2 f p0)) hR hi51 hi52 hi53 hF hY hP (hEP) (hN) (hmj) (by2_lt _ _)) (fun v56 M57 q58 => ?_)
            obtain ⟨rfl, rfl⟩ := q58
            show pl _ _ _ (186, [(8, .int 6), (0, .ref m0), (3, .int (nI p0)), (5, .int (nI x))], [.int (nI (tg f E (by2 f p0)))], M) _
            have htg_183 := tg_lt f E (by2 f p0)
            refine ps_st (S' := (188, [(8, .int 6), (0, .ref m0), (3, .int (nI p0)), (5, .int (nI x))], [.int 6, .int (nI (tg f E (by2 f p0)))], M)) rfl rfl rfl ?_
            refine ps_if2 (S1 := (194, [(8, .int 6), (0, .ref m0), (3, .int (nI p0)), (5, .int (nI x))], [], M)) (S2 := (191, [(8, .int 6), (0, .ref m0), (3, .int (nI p0)), (5, .int (nI x))], [], M)) rfl rfl rfl (fun c_188 => ?_) (fun c_188 => ?_)
            · have c_188 : (nI (tg f E (by2 f p0))) = 6 := of_decide_eq_true c_188
              have n_188 : tg f E (by2 f p0) = 6 := (eq_nI (p := tg f E (by2 f p0)) (n := 6) (Nat.lt_trans (tg_lt _ _ _) (by decide)) (by decide)).mp c_188
              refine ps_st (S' := (195, [(8, .int 6), (0, .ref m0), (3, .int (nI p0)), (5, .int (nI x))], [.ref m0], M)) rfl rfl rfl ?_
              refine pr_ref (j := 30) (S' := (198, [(8, .int 6), (0, .ref m0), (3, .int (nI p0)), (5, .int (nI x))], [.ref (q 30)], M)) rfl hR rfl rfl ?_
              refine ps_st (S' := (200, [(8, .int 6), (0, .ref m0), (3, .int (nI p0)), (5, .int (nI x))], [.int (nI x), .ref (q 30)], M)) rfl rfl rfl ?_
              refine ps_st (S' := (201, [(8, .int 6), (0, .ref m0), (3, .int (nI p0)), (5, .int (nI x))], [.ref m0, .int (nI x), .ref (q 30)], M)) rfl rfl rfl ?_
              refine ps_st (S' := (202, [(8, .int 6), (0, .ref m0), (3, .int (nI p0)), (5, .int (nI x))], [.int (nI p0), .ref m0, .int (nI x), .ref (q 30)], M)) rfl rfl rfl ?_
              refine pl_call (a := [.ref m0, .int (nI p0)]) (rest := [.int (nI x), .ref (q 30)]) rfl rfl rfl (rd_u2 (n := n) (f := f) (p := p0) hR hF (by omega)) (fun v59 M60 q61 => ?_)
              obtain ⟨rfl, rfl⟩ := q61
              show pl _ _ _ (205, [(8, .int 6), (0, .ref m0), (3, .int (nI p0)), (5, .int (nI x))], [.int (nI (by2 f p0)), .int (nI x), .ref (q 30)], M) _
              have hu_202 := by2_lt f p0
              refine pr_st (a := 30) (j := x) rfl hR rfl (by omega) (fun M62 R63 i1_205 hR64 hS65 => ?_)
              have hF_66 := hF.mono (fun _ _ => rfl) (rRx hS65 (by decide))
              have hY_67 := hY.mono (fun _ _ => rfl) (rRx hS65 (by decide))
              have hP_68 := hP.mono (fun _ _ => rfl) (rRx hS65 (by decide))
              have hER69 := hER.st hS65 (by decide)
              show pl _ _ _ (206, [(8, .int 6), (0, .ref m0), (3, .int (nI p0)), (5, .int (nI x))], [], M62) _
              refine ps_st (S' := (207, [(8, .int 6), (0, .ref m0), (3, .int (nI p0)), (5, .int (nI x))], [.int 0], M62)) rfl rfl rfl ?_
              exact ps_ret rfl rfl (Or.inr (Or.inr ⟨I, R63, (fe_1 (by decide) (by omega)).trans (congrArg some (by omega)), Or.inr (((ct_ne hfd (by omega) (by omega)).trans (congrArg some (by rw [if_neg (by omega), if_neg (by omega), if_pos (by omega)]))).trans (congrArg some (by omega))), rfl, hR64, hEI, hER69⟩))
            · have c_188 : ¬ ((nI (tg f E (by2 f p0))) = 6) := of_decide_eq_false c_188
              have n_188 : ¬ (tg f E (by2 f p0) = 6) := fun h9 => c_188 ((eq_nI (p := tg f E (by2 f p0)) (n := 6) (Nat.lt_trans (tg_lt _ _ _) (by decide)) (by decide)).mpr h9)
              refine ps_st (S' := (193, [(8, .int 6), (0, .ref m0), (3, .int (nI p0)), (5, .int (nI x))], [.int 31], M)) rfl rfl rfl ?_
              exact ps_ret rfl rfl (Or.inr (Or.inl ⟨I, R, (fe_1 (by decide) (by omega)).trans (congrArg some (by omega)), ⟨by omega, fun h9 => (by have h8 := ((ct_ne hfd (by omega) (by omega)).trans (congrArg some (by rw [if_neg (by omega), if_neg (by omega), if_pos (by omega)]))).symm.trans h9; have h7 := Option.some.inj h8; omega)⟩, rfl, hR, hEI, hER⟩))
        · have c_111 : ¬ (¬ (nI (l.getD 0 0)) = 70) := of_decide_eq_false c_111
          have n_111 : l.getD 0 0 = 70 := (eq_nI (p := l.getD 0 0) (n := 70) (by omega) (by decide)).mp (Decidable.not_not.mp c_111)
          refine ps_st (S' := (115, [(7, .int (nI (l.getD 0 0))), (0, .ref m0), (1, .int 0), (2, .int t), (3, .int (nI p0)), (4, .int (nI e)), (5, .int (nI x)), (6, .int (nI s3))], [.int 4], M)) rfl rfl rfl ?_
          refine ps_st (S' := (175, [(0, .ref m0), (3, .int (nI p0)), (5, .int (nI x))], [.int 4], M)) rfl rfl rfl ?_
          refine ps_st (S' := (177, [(8, .int 4), (0, .ref m0), (3, .int (nI p0)), (5, .int (nI x))], [], M)) rfl rfl rfl ?_
          refine ps_st (S' := (178, [(8, .int 4), (0, .ref m0), (3, .int (nI p0)), (5, .int (nI x))], [.ref m0], M)) rfl rfl rfl ?_
          refine ps_st (S' := (179, [(8, .int 4), (0, .ref m0), (3, .int (nI p0)), (5, .int (nI x))], [.ref m0, .ref m0], M)) rfl rfl rfl ?_
          refine ps_st (S' := (180, [(8, .int 4), (0, .ref m0), (3, .int (nI p0)), (5, .int (nI x))], [.int (nI p0), .ref m0, .ref m0], M)) rfl rfl rfl ?_
          refine pl_call (a := [.ref m0, .int (nI p0)]) (rest := [.ref m0]) rfl rfl rfl (rd_u2 (n := n) (f := f) (p := p0) hR hF (by omega)) (fun v70 M71 q72 => ?_)
          obtain ⟨rfl, rfl⟩ := q72
          show pl _ _ _ (183, [(8, .int 4), (0, .ref m0), (3, .int (nI p0)), (5, .int (nI x))], [.int (nI (by2 f p0)), .ref m0], M) _
          have hu_180 := by2_lt f p0
          refine pl_call (a := [.ref m0, .int (nI (by2 f p0))]) (rest := []) rfl rfl rfl (rd_tag (n := n) (f := f) (tx := tx) (cN := cN) (A := A) (N := N) (mj := mj) (E := E) (k := (by2 f p0)) hR hi51 hi52 hi53 hF hY hP (hEP) (hN) (hmj) (by2_lt _ _)) (fun v73 M74 q75 => ?_)
          obtain ⟨rfl, rfl⟩ := q75
          show pl _ _ _ (186, [(8, .int 4), (0, .ref m0), (3, .int (nI p0)), (5, .int (nI x))], [.int (nI (tg f E (by2 f p0)))], M) _
          have htg_183 := tg_lt f E (by2 f p0)
          refine ps_st (S' := (188, [(8, .int 4), (0, .ref m0), (3, .int (nI p0)), (5, .int (nI x))], [.int 4, .int (nI (tg f E (by2 f p0)))], M)) rfl rfl rfl ?_
          refine ps_if2 (S1 := (194, [(8, .int 4), (0, .ref m0), (3, .int (nI p0)), (5, .int (nI x))], [], M)) (S2 := (191, [(8, .int 4), (0, .ref m0), (3, .int (nI p0)), (5, .int (nI x))], [], M)) rfl rfl rfl (fun c_188 => ?_) (fun c_188 => ?_)
          · have c_188 : (nI (tg f E (by2 f p0))) = 4 := of_decide_eq_true c_188
            have n_188 : tg f E (by2 f p0) = 4 := (eq_nI (p := tg f E (by2 f p0)) (n := 4) (Nat.lt_trans (tg_lt _ _ _) (by decide)) (by decide)).mp c_188
            refine ps_st (S' := (195, [(8, .int 4), (0, .ref m0), (3, .int (nI p0)), (5, .int (nI x))], [.ref m0], M)) rfl rfl rfl ?_
            refine pr_ref (j := 30) (S' := (198, [(8, .int 4), (0, .ref m0), (3, .int (nI p0)), (5, .int (nI x))], [.ref (q 30)], M)) rfl hR rfl rfl ?_
            refine ps_st (S' := (200, [(8, .int 4), (0, .ref m0), (3, .int (nI p0)), (5, .int (nI x))], [.int (nI x), .ref (q 30)], M)) rfl rfl rfl ?_
            refine ps_st (S' := (201, [(8, .int 4), (0, .ref m0), (3, .int (nI p0)), (5, .int (nI x))], [.ref m0, .int (nI x), .ref (q 30)], M)) rfl rfl rfl ?_
            refine ps_st (S' := (202, [(8, .int 4), (0, .ref m0), (3, .int (nI p0)), (5, .int (nI x))], [.int (nI p0), .ref m0, .int (nI x), .ref (q 30)], M)) rfl rfl rfl ?_
            refine pl_call (a := [.ref m0, .int (nI p0)]) (rest := [.int (nI x), .ref (q 30)]) rfl rfl rfl (rd_u2 (n := n) (f := f) (p := p0) hR hF (by omega)) (fun v76 M77 q78 => ?_)
            obtain ⟨rfl, rfl⟩ := q78
            show pl _ _ _ (205, [(8, .int 4), (0, .ref m0), (3, .int (nI p0)), (5, .int (nI x))], [.int (nI (by2 f p0)), .int (nI x), .ref (q 30)], M) _
            have hu_202 := by2_lt f p0
            refine pr_st (a := 30) (j := x) rfl hR rfl (by omega) (fun M79 R80 i1_205 hR81 hS82 => ?_)
            have hF_83 := hF.mono (fun _ _ => rfl) (rRx hS82 (by decide))
            have hY_84 := hY.mono (fun _ _ => rfl) (rRx hS82 (by decide))
            have hP_85 := hP.mono (fun _ _ => rfl) (rRx hS82 (by decide))
            have hER86 := hER.st hS82 (by decide)
            show pl _ _ _ (206, [(8, .int 4), (0, .ref m0), (3, .int (nI p0)), (5, .int (nI x))], [], M79) _
            refine ps_st (S' := (207, [(8, .int 4), (0, .ref m0), (3, .int (nI p0)), (5, .int (nI x))], [.int 0], M79)) rfl rfl rfl ?_
            exact ps_ret rfl rfl (Or.inr (Or.inr ⟨I, R80, (fe_1 (by decide) (by omega)).trans (congrArg some (by omega)), Or.inr (((ct_ne hfd (by omega) (by omega)).trans (congrArg some (by rw [if_pos (by omega)]))).trans (congrArg some (by omega))), rfl, hR81, hEI, hER86⟩))
          · have c_188 : ¬ ((nI (tg f E (by2 f p0))) = 4) := of_decide_eq_false c_188
            have n_188 : ¬ (tg f E (by2 f p0) = 4) := fun h9 => c_188 ((eq_nI (p := tg f E (by2 f p0)) (n := 4) (Nat.lt_trans (tg_lt _ _ _) (by decide)) (by decide)).mpr h9)
            refine ps_st (S' := (193, [(8, .int 4), (0, .ref m0), (3, .int (nI p0)), (5, .int (nI x))], [.int 31], M)) rfl rfl rfl ?_
            exact ps_ret rfl rfl (Or.inr (Or.inl ⟨I, R, (fe_1 (by decide) (by omega)).trans (congrArg some (by omega)), ⟨by omega, fun h9 => (by have h8 := ((ct_ne hfd (by omega) (by omega)).trans (congrArg some (by rw [if_pos (by omega)]))).symm.trans h9; have h7 := Option.some.inj h8; omega)⟩, rfl, hR, hEI, hER⟩))
      · have c_100 : ¬ (¬ (nI (l.getD 0 0)) = 74) := of_decide_eq_false c_100
        have n_100 : l.getD 0 0 = 74 := (eq_nI (p := l.getD 0 0) (n := 74) (by omega) (by decide)).mp (Decidable.not_not.mp c_100)
        refine ps_st (S' := (104, [(7, .int (nI (l.getD 0 0))), (0, .ref m0), (1, .int 0), (2, .int t), (3, .int (nI p0)), (4, .int (nI e)), (5, .int (nI x)), (6, .int (nI s3))], [.int 5], M)) rfl rfl rfl ?_
        refine ps_st (S' := (175, [(0, .ref m0), (3, .int (nI p0)), (5, .int (nI x))], [.int 5], M)) rfl rfl rfl ?_
        refine ps_st (S' := (177, [(8, .int 5), (0, .ref m0), (3, .int (nI p0)), (5, .int (nI x))], [], M)) rfl rfl rfl ?_
        refine ps_st (S' := (178, [(8, .int 5), (0, .ref m0), (3, .int (nI p0)), (5, .int (nI x))], [.ref m0], M)) rfl rfl rfl ?_
        refine ps_st (S' := (179, [(8, .int 5), (0, .ref m0), (3, .int (nI p0)), (5, .int (nI x))], [.ref m0, .ref m0], M)) rfl rfl rfl ?_
        refine ps_st (S' := (180, [(8, .int 5), (0, .ref m0), (3, .int (nI p0)), (5, .int (nI x))], [.int (nI p0), .ref m0, .ref m0], M)) rfl rfl rfl ?_
        refine pl_call (a := [.ref m0, .int (nI p0)]) (rest := [.ref m0]) rfl rfl rfl (rd_u2 (n := n) (f := f) (p := p0) hR hF (by omega)) (fun v87 M88 q89 => ?_)
        obtain ⟨rfl, rfl⟩ := q89
        show pl _ _ _ (183, [(8, .int 5), (0, .ref m0), (3, .int (nI p0)), (5, .int (nI x))], [.int (nI (by2 f p0)), .ref m0], M) _
        have hu_180 := by2_lt f p0
        refine pl_call (a := [.ref m0, .int (nI (by2 f p0))]) (rest := []) rfl rfl rfl (rd_tag (n := n) (f := f) (tx := tx) (cN := cN) (A := A) (N := N) (mj := mj) (E := E) (k := (by2 f p0)) hR hi51 hi52 hi53 hF hY hP (hEP) (hN) (hmj) (by2_lt _ _)) (fun v90 M91 q92 => ?_)
        obtain ⟨rfl, rfl⟩ := q92
        show pl _ _ _ (186, [(8, .int 5), (0, .ref m0), (3, .int (nI p0)), (5, .int (nI x))], [.int (nI (tg f E (by2 f p0)))], M) _
        have htg_183 := tg_lt f E (by2 f p0)
        refine ps_st (S' := (188, [(8, .int 5), (0, .ref m0), (3, .int (nI p0)), (5, .int (nI x))], [.int 5, .int (nI (tg f E (by2 f p0)))], M)) rfl rfl rfl ?_
        refine ps_if2 (S1 := (194, [(8, .int 5), (0, .ref m0), (3, .int (nI p0)), (5, .int (nI x))], [], M)) (S2 := (191, [(8, .int 5), (0, .ref m0), (3, .int (nI p0)), (5, .int (nI x))], [], M)) rfl rfl rfl (fun c_188 => ?_) (fun c_188 => ?_)
        · have c_188 : (nI (tg f E (by2 f p0))) = 5 := of_decide_eq_true c_188
          have n_188 : tg f E (by2 f p0) = 5 := (eq_nI (p := tg f E (by2 f p0)) (n := 5) (Nat.lt_trans (tg_lt _ _ _) (by decide)) (by decide)).mp c_188
          refine ps_st (S' := (195, [(8, .int 5), (0, .ref m0), (3, .int (nI p0)), (5, .int (nI x))], [.ref m0], M)) rfl rfl rfl ?_
          refine pr_ref (j := 30) (S' := (198, [(8, .int 5), (0, .ref m0), (3, .int (nI p0)), (5, .int (nI x))], [.ref (q 30)], M)) rfl hR rfl rfl ?_
          refine ps_st (S' := (200, [(8, .int 5), (0, .ref m0), (3, .int (nI p0)), (5, .int (nI x))], [.int (nI x), .ref (q 30)], M)) rfl rfl rfl ?_
          refine ps_st (S' := (201, [(8, .int 5), (0, .ref m0), (3, .int (nI p0)), (5, .int (nI x))], [.ref m0, .int (nI x), .ref (q 30)], M)) rfl rfl rfl ?_
          refine ps_st (S' := (202, [(8, .int 5), (0, .ref m0), (3, .int (nI p0)), (5, .int (nI x))], [.int (nI p0), .ref m0, .int (nI x), .ref (q 30)], M)) rfl rfl rfl ?_
          refine pl_call (a := [.ref m0, .int (nI p0)]) (rest := [.int (nI x), .ref (q 30)]) rfl rfl rfl (rd_u2 (n := n) (f := f) (p := p0) hR hF (by omega)) (fun v93 M94 q95 => ?_)
          obtain ⟨rfl, rfl⟩ := q95
          show pl _ _ _ (205, [(8, .int 5), (0, .ref m0), (3, .int (nI p0)), (5, .int (nI x))], [.int (nI (by2 f p0)), .int (nI x), .ref (q 30)], M) _
          have hu_202 := by2_lt f p0
          refine pr_st (a := 30) (j := x) rfl hR rfl (by omega) (fun M96 R97 i1_205 hR98 hS99 => ?_)
          have hF_100 := hF.mono (fun _ _ => rfl) (rRx hS99 (by decide))
          have hY_101 := hY.mono (fun _ _ => rfl) (rRx hS99 (by decide))
          have hP_102 := hP.mono (fun _ _ => rfl) (rRx hS99 (by decide))
          have hER103 := hER.st hS99 (by decide)
          show pl _ _ _ (206, [(8, .int 5), (0, .ref m0), (3, .int (nI p0)), (5, .int (nI x))], [], M96) _
          refine ps_st (S' := (207, [(8, .int 5), (0, .ref m0), (3, .int (nI p0)), (5, .int (nI x))], [.int 0], M96)) rfl rfl rfl ?_
          exact ps_ret rfl rfl (Or.inr (Or.inr ⟨I, R97, (fe_1 (by decide) (by omega)).trans (congrArg some (by omega)), Or.inr (((ct_ne hfd (by omega) (by omega)).trans (congrArg some (by rw [if_neg (by omega), if_pos (by omega)]))).trans (congrArg some (by omega))), rfl, hR98, hEI, hER103⟩))
        · have c_188 : ¬ ((nI (tg f E (by2 f p0))) = 5) := of_decide_eq_false c_188
          have n_188 : ¬ (tg f E (by2 f p0) = 5) := fun h9 => c_188 ((eq_nI (p := tg f E (by2 f p0)) (n := 5) (Nat.lt_trans (tg_lt _ _ _) (by decide)) (by decide)).mpr h9)
          refine ps_st (S' := (193, [(8, .int 5), (0, .ref m0), (3, .int (nI p0)), (5, .int (nI x))], [.int 31], M)) rfl rfl rfl ?_
          exact ps_ret rfl rfl (Or.inr (Or.inl ⟨I, R, (fe_1 (by decide) (by omega)).trans (congrArg some (by omega)), ⟨by omega, fun h9 => (by have h8 := ((ct_ne hfd (by omega) (by omega)).trans (congrArg some (by rw [if_neg (by omega), if_pos (by omega)]))).symm.trans h9; have h7 := Option.some.inj h8; omega)⟩, rfl, hR, hEI, hER⟩))
    · have c_77 : ¬ (¬ (nI (aN fl 8)) = 0) := of_decide_eq_false c_77
      have n_77 : aN fl 8 = 0 := (eq_nI (p := aN fl 8) (n := 0) (Nat.lt_of_le_of_lt (an_le _ _) (by decide)) (by decide)).mp (Decidable.not_not.mp c_77)
      refine ps_st (S' := (81, [(0, .ref m0), (1, .int 0), (2, .int t), (3, .int (nI p0)), (4, .int (nI e)), (5, .int (nI x)), (6, .int (nI s3))], [.int 0], M)) rfl rfl rfl ?_
      exact ps_ret rfl rfl (Or.inr (Or.inr ⟨I, R, (fe_1 (by decide) (by omega)).trans (congrArg some (by omega)), Or.inl (by omega), rfl, hR, hEI, hER⟩))
  · have c_61 : ¬ ((nI (e - p0)) = 2) := of_decide_eq_false c_61
    have n_61 : ¬ (e - p0 = 2) := fun h9 => c_61 ((eq_nI (p := e - p0) (n := 2) (by omega) (by decide)).mpr h9)
    refine ps_st (S' := (66, [(0, .ref m0), (1, .int 0), (2, .int t), (3, .int (nI p0)), (4, .int (nI e)), (5, .int (nI x)), (6, .int (nI s3))], [.int 30], M)) rfl rfl rfl ?_
    exact ps_ret rfl rfl (Or.inl ⟨I, R, (fun h9 => (by have h7 := s_fe_in h9; have h8 := Option.some.inj ((fe_1 (by decide) (by omega)).symm.trans h9); omega)), rfl, hR, hEI, hER⟩)
end
