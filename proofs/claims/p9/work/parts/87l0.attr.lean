/-! bootstraps and records as the reference checks them (laid by wip/p4/e10.py) -/

theorem fe_2 {f : Nat → Int32} {k p e : Nat} (h : e < p + 2) : ¬ s_fe f k p e = some e := by
  unfold s_fe
  rw [if_pos h]
  exact fun h9 => by cases h9
theorem fe_6 {f : Nat → Int32} {p e : Nat} (h : p + 2 ≤ e) : s_fe f 6 p e = s_bsE f e (by2 f p) (p + 2) := by
  unfold s_fe
  rw [if_neg (by omega), if_neg (by decide), if_neg (by decide), if_neg (by decide), if_pos rfl]
theorem fe_9 {f : Nat → Int32} {p e : Nat} (h : p + 2 ≤ e) : s_fe f 9 p e = s_rcE f e (by2 f p) (p + 2) := by
  unfold s_fe
  rw [if_neg (by omega), if_neg (by decide), if_neg (by decide), if_neg (by decide), if_neg (by decide), if_pos rfl]
set_option maxHeartbeats 4000000 in
theorem rd_bootstraps {g : xe_G} {m0 : Nat} {q : Nat → Nat} {z : Nat × Nat} {I : rI} {R : rR} {M : mi_H} {n : Nat} {f : Nat → Int32} {tx : List (List Nat)} {cN : Nat} {A : Nat → Nat} {N mj : Nat} {E : List (Nat × Nat)} {p0 e : Nat} (hR : RS g m0 q z I R M) (hi51 : I 51 = some 0) (hi52 : I 52 = some (nI N)) (hi53 : I 53 = some (nI mj)) (hF : FK n f I R) (hY : SYT tx cN A I R) (hP : RPV f n E tx N I R) (hEP : EP f n E) (hN : N < 65536) (hmj : mj < 65536) (he : p0 ≤ e ∧ e ≤ n) : pt (mT g) 185 [.ref m0, .int (nI p0), .int (nI e)] M (fun v M' => (∃  (I' : rI) (R' : rR), (¬ s_fe f 6 p0 e = some e) ∧ v = some (.int 30) ∧ RS g m0 q z I' R' M' ∧ eqI [70, 71] I I' ∧ eqR [] R R') ∨ (∃  (I' : rI) (R' : rR), (s_fe f 6 p0 e = some e) ∧ (bsA f E (by2 f p0) (p0 + 2) = 0) ∧ v = some (.int 38) ∧ RS g m0 q z I' R' M' ∧ eqI [70, 71] I I' ∧ eqR [] R R') ∨ (∃  (I' : rI) (R' : rR), (s_fe f 6 p0 e = some e) ∧ (¬ bsA f E (by2 f p0) (p0 + 2) = 0) ∧ v = some (.int 0) ∧ RS g m0 q z I' R' M' ∧ eqI [70, 71] I I' ∧ eqR [] R R' ∧ I' 71 = some (nI (by2 f p0)) ∧ I' 70 = some (nI p0))) := by
  refine pt_in (b := mb_185 g) rfl (fun kf => ?_)
  show pl (mT g) kf (mb_185 g).2 (0, [(0, .ref m0), (1, .int (nI p0)), (2, .int (nI e))], [], M) _
  have hEI : eqI [70, 71] I I := eqI.rf
  have hER : eqR [] R R := eqR.rf
  have hn := hF.1
  have LL : ∀ (kf : Nat), (∀ (i p : Nat) (M1 : mi_H) (I1 : rI) (R1 : rR), (RS g m0 q z I1 R1 M1) → (eqI [70, 71] I I1) → (eqR [] R R1) → (I1 51 = some 0) → (I1 52 = some (nI N)) → (I1 53 = some (nI mj)) → (FK n f I1 R1) → (SYT tx cN A I1 R1) → (RPV f n E tx N I1 R1) → (p0 + 2 ≤ e) → (i ≤ by2 f p0) → (p0 + 2 ≤ p ∧ p ≤ e) → (s_bsE f e (by2 f p0 - i) p = s_bsE f e (by2 f p0) (p0 + 2)) →  pl (mT g) kf (mb_185 g).2 (24, [(0, .ref m0), (1, .int (nI p0)), (2, .int (nI e)), (3, .int (nI (by2 f p0))), (4, .int (nI p)), (5, .int (nI i))], [], M1) (fun v M' => (∃  (I' : rI) (R' : rR), (¬ s_fe f 6 p0 e = some e) ∧ v = some (.int 30) ∧ RS g m0 q z I' R' M' ∧ eqI [70, 71] I I' ∧ eqR [] R R') ∨ (∃  (I' : rI) (R' : rR), (s_fe f 6 p0 e = some e) ∧ (bsA f E (by2 f p0) (p0 + 2) = 0) ∧ v = some (.int 38) ∧ RS g m0 q z I' R' M' ∧ eqI [70, 71] I I' ∧ eqR [] R R') ∨ (∃  (I' : rI) (R' : rR), (s_fe f 6 p0 e = some e) ∧ (¬ bsA f E (by2 f p0) (p0 + 2) = 0) ∧ v = some (.int 0) ∧ RS g m0 q z I' R' M' ∧ eqI [70, 71] I I' ∧ eqR [] R R' ∧ I' 71 = some (nI (by2 f p0)) ∧ I' 70 = some (nI p0)))) ∧ (∀ (i p : Nat) (M1 : mi_H) (I1 : rI) (R1 : rR), (RS g m0 q z I1 R1 M1) → (eqI [70, 71] I I1) → (eqR [] R R1) → (I1 51 = some 0) → (I1 52 = some (nI N)) → (I1 53 = some (nI mj)) → (FK n f I1 R1) → (SYT tx cN A I1 R1) → (RPV f n E tx N I1 R1) → (s_fe f 6 p0 e = some e) → (i ≤ by2 f p0) → (p ≤ e) → (s_bsE f e (by2 f p0 - i) p = some e) → (bsA f E (by2 f p0 - i) p = bsA f E (by2 f p0) (p0 + 2)) →  pl (mT g) kf (mb_185 g).2 (100, [(0, .ref m0), (1, .int (nI p0)), (3, .int (nI (by2 f p0))), (4, .int (nI p)), (5, .int (nI i))], [], M1) (fun v M' => (∃  (I' : rI) (R' : rR), (¬ s_fe f 6 p0 e = some e) ∧ v = some (.int 30) ∧ RS g m0 q z I' R' M' ∧ eqI [70, 71] I I' ∧ eqR [] R R') ∨ (∃  (I' : rI) (R' : rR), (s_fe f 6 p0 e = some e) ∧ (bsA f E (by2 f p0) (p0 + 2) = 0) ∧ v = some (.int 38) ∧ RS g m0 q z I' R' M' ∧ eqI [70, 71] I I' ∧ eqR [] R R') ∨ (∃  (I' : rI) (R' : rR), (s_fe f 6 p0 e = some e) ∧ (¬ bsA f E (by2 f p0) (p0 + 2) = 0) ∧ v = some (.int 0) ∧ RS g m0 q z I' R' M' ∧ eqI [70, 71] I I' ∧ eqR [] R R' ∧ I' 71 = some (nI (by2 f p0)) ∧ I' 70 = some (nI p0)))) ∧ (∀ (i p j : Nat) (M1 : mi_H) (I1 : rI) (R1 : rR), (RS g m0 q z I1 R1 M1) → (eqI [70, 71] I I1) → (eqR [] R R1) → (I1 51 = some 0) → (I1 52 = some (nI N)) → (I1 53 = some (nI mj)) → (FK n f I1 R1) → (SYT tx cN A I1 R1) → (RPV f n E tx N I1 R1) → (s_fe f 6 p0 e = some e) → (i < by2 f p0) → (j ≤ by2 f (p + 2)) → (p + 4 + 2 * by2 f (p + 2) ≤ e) → (s_bsE f e (by2 f p0 - (i + 1)) (p + 4 + 2 * by2 f (p + 2)) = some e) → (tg f E (by2 f p) = 15) → (bsA f E (by2 f p0 - i) p = bsA f E (by2 f p0) (p0 + 2)) → (ldA f E (by2 f (p + 2) - j) (p + 4 + 2 * j) = ldA f E (by2 f (p + 2)) (p + 4)) →  pl (mT g) kf (mb_185 g).2 (127, [(0, .ref m0), (1, .int (nI p0)), (3, .int (nI (by2 f p0))), (4, .int (nI p)), (5, .int (nI i)), (6, .int (nI j))], [], M1) (fun v M' => (∃  (I' : rI) (R' : rR), (¬ s_fe f 6 p0 e = some e) ∧ v = some (.int 30) ∧ RS g m0 q z I' R' M' ∧ eqI [70, 71] I I' ∧ eqR [] R R') ∨ (∃  (I' : rI) (R' : rR), (s_fe f 6 p0 e = some e) ∧ (bsA f E (by2 f p0) (p0 + 2) = 0) ∧ v = some (.int 38) ∧ RS g m0 q z I' R' M' ∧ eqI [70, 71] I I' ∧ eqR [] R R') ∨ (∃  (I' : rI) (R' : rR), (s_fe f 6 p0 e = some e) ∧ (¬ bsA f E (by2 f p0) (p0 + 2) = 0) ∧ v = some (.int 0) ∧ RS g m0 q z I' R' M' ∧ eqI [70, 71] I I' ∧ eqR [] R R' ∧ I' 71 = some (nI (by2 f p0)) ∧ I' 70 = some (nI p0)))) := by
    intro kf
    induction kf with
    | zero => exact ⟨by intros; exact pl_0, by intros; exact pl_0, by intros; exact pl_0⟩
    | succ kf ih =>
      refine ⟨?_, ?_, ?_⟩
      · skip
        intro i p M1 I1 R1 hR1 hEI1 hER1 hl51 hl52 hl53 hF1 hY1 hP1 h2 hi hp hs
        have hn := hF1.1
        have hu9 := by2_lt f p0
        refine ps_st1 (S' := (26, [(0, .ref m0), (1, .int (nI p0)), (2, .int (nI e)), (3, .int (nI (by2 f p0))), (4, .int (nI p)), (5, .int (nI i))], [.int (nI i)], M1)) rfl rfl rfl ?_
        refine ps_st (S' := (27, [(0, .ref m0), (1, .int (nI p0)), (2, .int (nI e)), (3, .int (nI (by2 f p0))), (4, .int (nI p)), (5, .int (nI i))], [.int (nI (by2 f p0)), .int (nI i)], M1)) rfl rfl rfl ?_
        refine ps_if2 (S1 := (83, [(0, .ref m0), (1, .int (nI p0)), (2, .int (nI e)), (3, .int (nI (by2 f p0))), (4, .int (nI p)), (5, .int (nI i))], [], M1)) (S2 := (30, [(0, .ref m0), (1, .int (nI p0)), (2, .int (nI e)), (3, .int (nI (by2 f p0))), (4, .int (nI p)), (5, .int (nI i))], [], M1)) rfl rfl rfl (fun c_27 => ?_) (fun c_27 => ?_)
        · have c_27 : (nI (by2 f p0)) ≤ (nI i) := of_decide_eq_true c_27
          have n_27 : by2 f p0 ≤ i := (le_nI (p := by2 f p0) (n := i) (Nat.lt_trans (by2_lt _ _) (by decide)) (by omega)).mp c_27
          refine ps_st (S' := (85, [(0, .ref m0), (1, .int (nI p0)), (2, .int (nI e)), (3, .int (nI (by2 f p0))), (4, .int (nI p)), (5, .int (nI i))], [.int (nI p)], M1)) rfl rfl rfl ?_
          refine ps_st (S' := (86, [(0, .ref m0), (1, .int (nI p0)), (2, .int (nI e)), (3, .int (nI (by2 f p0))), (4, .int (nI p)), (5, .int (nI i))], [.int (nI e), .int (nI p)], M1)) rfl rfl rfl ?_
          refine ps_if2 (S1 := (92, [(0, .ref m0), (1, .int (nI p0)), (2, .int (nI e)), (3, .int (nI (by2 f p0))), (4, .int (nI p)), (5, .int (nI i))], [], M1)) (S2 := (89, [(0, .ref m0), (1, .int (nI p0)), (2, .int (nI e)), (3, .int (nI (by2 f p0))), (4, .int (nI p)), (5, .int (nI i))], [], M1)) rfl rfl rfl (fun c_86 => ?_) (fun c_86 => ?_)
          · have c_86 : (nI p) = (nI e) := of_decide_eq_true c_86
            have n_86 : p = e := (eq_nI (p := p) (n := e) (by omega) (by omega)).mp c_86
            refine ps_st (S' := (93, [(0, .ref m0), (1, .int (nI p0)), (2, .int (nI e)), (3, .int (nI (by2 f p0))), (4, .int (nI p)), (5, .int (nI i))], [.int (nI p0)], M1)) rfl rfl rfl ?_
            refine ps_st (S' := (94, [(0, .ref m0), (1, .int (nI p0)), (2, .int (nI e)), (3, .int (nI (by2 f p0))), (4, .int (nI p)), (5, .int (nI i))], [.int 2, .int (nI p0)], M1)) rfl rfl rfl ?_
            refine ps_st (S' := (95, [(0, .ref m0), (1, .int (nI p0)), (2, .int (nI e)), (3, .int (nI (by2 f p0))), (4, .int (nI p)), (5, .int (nI i))], [.int ((nI p0) + 2)], M1)) rfl rfl rfl ?_
            rw [nI_add1 (p := p0) (k := 2) (x := 2) rfl (by omega)]
            show pl _ _ _ (_, [(0, .ref m0), (1, .int (nI p0)), (2, .int (nI e)), (3, .int (nI (by2 f p0))), (4, .int (nI p)), (5, .int (nI i))], [.int (nI (p0 + 2))], M1) _
            refine ps_st (S' := (97, [(4, .int (nI (p0 + 2))), (0, .ref m0), (1, .int (nI p0)), (2, .int (nI e)), (3, .int (nI (by2 f p0))), (5, .int (nI i))], [], M1)) rfl rfl rfl ?_
            refine ps_st (S' := (98, [(4, .int (nI (p0 + 2))), (0, .ref m0), (1, .int (nI p0)), (2, .int (nI e)), (3, .int (nI (by2 f p0))), (5, .int (nI i))], [.int 0], M1)) rfl rfl rfl ?_
            refine ps_st (S' := (100, [(0, .ref m0), (1, .int (nI p0)), (3, .int (nI (by2 f p0))), (4, .int (nI (p0 + 2))), (5, .int 0)], [], M1)) rfl rfl rfl ?_
            exact ih.2.1 (0) (p0 + 2) M1 I1 R1 hR1 hEI1 hER1 hl51 hl52 hl53 hF1 hY1 hP1 (by
                rw [fe_6 h2, ← hs, show by2 f p0 - i = 0 by omega, show p = e by omega]
                rfl) (by omega) (by omega) (by
                rw [show by2 f p0 - 0 = by2 f p0 from rfl, ← hs, show by2 f p0 - i = 0 by omega, show p = e by omega]
                rfl) (rfl)
          · have c_86 : ¬ ((nI p) = (nI e)) := of_decide_eq_false c_86
            have n_86 : ¬ (p = e) := fun h9 => c_86 ((eq_nI (p := p) (n := e) (by omega) (by omega)).mpr h9)
            refine ps_st (S' := (91, [(0, .ref m0), (1, .int (nI p0)), (2, .int (nI e)), (3, .int (nI (by2 f p0))), (4, .int (nI p)), (5, .int (nI i))], [.int 30], M1)) rfl rfl rfl ?_
            exact ps_ret rfl rfl (Or.inl ⟨I1, R1, by
                rw [fe_6 h2, ← hs]
                rw [show by2 f p0 - i = 0 by omega]
                exact fun h9 => n_86 (Option.some.inj h9), rfl, hR1, hEI1, hER1⟩)
        · have c_27 : ¬ ((nI (by2 f p0)) ≤ (nI i)) := of_decide_eq_false c_27
          have n_27 : ¬ (by2 f p0 ≤ i) := fun h9 => c_27 ((le_nI (p := by2 f p0) (n := i) (Nat.lt_trans (by2_lt _ _) (by decide)) (by omega)).mpr h9)
          refine ps_st (S' := (32, [(0, .ref m0), (1, .int (nI p0)), (2, .int (nI e)), (3, .int (nI (by2 f p0))), (4, .int (nI p)), (5, .int (nI i))], [.int (nI p)], M1)) rfl rfl rfl ?_
          refine ps_st (S' := (33, [(0, .ref m0), (1, .int (nI p0)), (2, .int (nI e)), (3, .int (nI (by2 f p0))), (4, .int (nI p)), (5, .int (nI i))], [.int 4, .int (nI p)], M1)) rfl rfl rfl ?_
          refine ps_st (S' := (34, [(0, .ref m0), (1, .int (nI p0)), (2, .int (nI e)), (3, .int (nI (by2 f p0))), (4, .int (nI p)), (5, .int (nI i))], [.int ((nI p) + 4)], M1)) rfl rfl rfl ?_
          rw [nI_add1 (p := p) (k := 4) (x := 4) rfl (by omega)]
          show pl _ _ _ (_, [(0, .ref m0), (1, .int (nI p0)), (2, .int (nI e)), (3, .int (nI (by2 f p0))), (4, .int (nI p)), (5, .int (nI i))], [.int (nI (p + 4))], M1) _
          refine ps_st (S' := (35, [(0, .ref m0), (1, .int (nI p0)), (2, .int (nI e)), (3, .int (nI (by2 f p0))), (4, .int (nI p)), (5, .int (nI i))], [.int (nI e), .int (nI (p + 4))], M1)) rfl rfl rfl ?_
          refine ps_if2 (S1 := (57, [], [], M1)) (S2 := (38, [(0, .ref m0), (1, .int (nI p0)), (2, .int (nI e)), (3, .int (nI (by2 f p0))), (4, .int (nI p)), (5, .int (nI i))], [], M1)) rfl rfl rfl (fun c_35 => ?_) (fun c_35 => ?_)
          · have c_35 : (nI e) < (nI (p + 4)) := of_decide_eq_true c_35
            have n_35 : e < p + 4 := (lt_nI (p := e) (n := p + 4) (by omega) (by omega)).mp c_35
            refine ps_st (S' := (59, [], [.int 30], M1)) rfl rfl rfl ?_
            exact ps_ret rfl rfl (Or.inl ⟨I1, R1, by
                rw [fe_6 h2, ← hs]
                rw [s_bsE_st (i := i) (p := p) (by omega), if_pos (by omega)]
                exact (fun h9 => (by cases h9)), rfl, hR1, hEI1, hER1⟩)
          · have c_35 : ¬ ((nI e) < (nI (p + 4))) := of_decide_eq_false c_35
            have n_35 : ¬ (e < p + 4) := fun h9 => c_35 ((lt_nI (p := e) (n := p + 4) (by omega) (by omega)).mpr h9)
            refine ps_st (S' := (40, [(0, .ref m0), (1, .int (nI p0)), (2, .int (nI e)), (3, .int (nI (by2 f p0))), (4, .int (nI p)), (5, .int (nI i))], [.int (nI p)], M1)) rfl rfl rfl ?_
            refine ps_st (S' := (41, [(0, .ref m0), (1, .int (nI p0)), (2, .int (nI e)), (3, .int (nI (by2 f p0))), (4, .int (nI p)), (5, .int (nI i))], [.int 4, .int (nI p)], M1)) rfl rfl rfl ?_
            refine ps_st (S' := (42, [(0, .ref m0), (1, .int (nI p0)), (2, .int (nI e)), (3, .int (nI (by2 f p0))), (4, .int (nI p)), (5, .int (nI i))], [.int ((nI p) + 4)], M1)) rfl rfl rfl ?_
            rw [nI_add1 (p := p) (k := 4) (x := 4) rfl (by omega)]
            show pl _ _ _ (_, [(0, .ref m0), (1, .int (nI p0)), (2, .int (nI e)), (3, .int (nI (by2 f p0))), (4, .int (nI p)), (5, .int (nI i))], [.int (nI (p + 4))], M1) _
            refine ps_st (S' := (43, [(0, .ref m0), (1, .int (nI p0)), (2, .int (nI e)), (3, .int (nI (by2 f p0))), (4, .int (nI p)), (5, .int (nI i))], [.int 2, .int (nI (p + 4))], M1)) rfl rfl rfl ?_
            refine ps_st (S' := (44, [(0, .ref m0), (1, .int (nI p0)), (2, .int (nI e)), (3, .int (nI (by2 f p0))), (4, .int (nI p)), (5, .int (nI i))], [.ref m0, .int 2, .int (nI (p + 4))], M1)) rfl rfl rfl ?_
            refine ps_st (S' := (46, [(0, .ref m0), (1, .int (nI p0)), (2, .int (nI e)), (3, .int (nI (by2 f p0))), (4, .int (nI p)), (5, .int (nI i))], [.int (nI p), .ref m0, .int 2, .int (nI (p + 4))], M1)) rfl rfl rfl ?_
            refine ps_st (S' := (47, [(0, .ref m0), (1, .int (nI p0)), (2, .int (nI e)), (3, .int (nI (by2 f p0))), (4, .int (nI p)), (5, .int (nI i))], [.int 2, .int (nI p), .ref m0, .int 2, .int (nI (p + 4))], M1)) rfl rfl rfl ?_
            refine ps_st (S' := (48, [(0, .ref m0), (1, .int (nI p0)), (2, .int (nI e)), (3, .int (nI (by2 f p0))), (4, .int (nI p)), (5, .int (nI i))], [.int ((nI p) + 2), .ref m0, .int 2, .int (nI (p + 4))], M1)) rfl rfl rfl ?_
            rw [nI_add1 (p := p) (k := 2) (x := 2) rfl (by omega)]
            show pl _ _ _ (_, [(0, .ref m0), (1, .int (nI p0)), (2, .int (nI e)), (3, .int (nI (by2 f p0))), (4, .int (nI p)), (5, .int (nI i))], [.int (nI (p + 2)), .ref m0, .int 2, .int (nI (p + 4))], M1) _
            refine pl_call (a := [.ref m0, .int (nI (p + 2))]) (rest := [.int 2, .int (nI (p + 4))]) rfl rfl rfl (rd_u2 (n := n) (f := f) (p := (p + 2)) hR1 hF1 (by omega)) (fun v1 M2 q3 => ?_)
            obtain ⟨rfl, rfl⟩ := q3
            show pl _ _ _ (51, [(0, .ref m0), (1, .int (nI p0)), (2, .int (nI e)), (3, .int (nI (by2 f p0))), (4, .int (nI p)), (5, .int (nI i))], [.int (nI (by2 f (p + 2))), .int 2, .int (nI (p + 4))], M1) _
            have hu_48 := by2_lt f (p + 2)
            refine ps_st (S' := (52, [(0, .ref m0), (1, .int (nI p0)), (2, .int (nI e)), (3, .int (nI (by2 f p0))), (4, .int (nI p)), (5, .int (nI i))], [.int (2 * (nI (by2 f (p + 2)))), .int (nI (p + 4))], M1)) rfl rfl rfl ?_
            rw [nI_mul1 (p := 2) (k := by2 f (p + 2)) (x := 2) (y := (nI (by2 f (p + 2)))) rfl rfl (by omega)]
            show pl _ _ _ (_, [(0, .ref m0), (1, .int (nI p0)), (2, .int (nI e)), (3, .int (nI (by2 f p0))), (4, .int (nI p)), (5, .int (nI i))], [.int (nI (2 * (by2 f (p + 2)))), .int (nI (p + 4))], M1) _
            refine ps_st (S' := (53, [(0, .ref m0), (1, .int (nI p0)), (2, .int (nI e)), (3, .int (nI (by2 f p0))), (4, .int (nI p)), (5, .int (nI i))], [.int ((nI (p + 4)) + (nI (2 * (by2 f (p + 2)))))], M1)) rfl rfl rfl ?_
            rw [nI_add1 (p := p + 4) (k := 2 * (by2 f (p + 2))) (x := (nI (2 * (by2 f (p + 2))))) rfl (by omega)]
            show pl _ _ _ (_, [(0, .ref m0), (1, .int (nI p0)), (2, .int (nI e)), (3, .int (nI (by2 f p0))), (4, .int (nI p)), (5, .int (nI i))], [.int (nI (p + 4 + 2 * (by2 f (p + 2))))], M1) _
            refine ps_st (S' := (54, [(0, .ref m0), (1, .int (nI p0)), (2, .int (nI e)), (3, .int (nI (by2 f p0))), (4, .int (nI p)), (5, .int (nI i))], [.int (nI e), .int (nI (p + 4 + 2 * (by2 f (p + 2))))], M1)) rfl rfl rfl ?_
            refine ps_if2 (S1 := (60, [(0, .ref m0), (1, .int (nI p0)), (2, .int (nI e)), (3, .int (nI (by2 f p0))), (4, .int (nI p)), (5, .int (nI i))], [], M1)) (S2 := (57, [], [], M1)) rfl rfl rfl (fun c_54 => ?_) (fun c_54 => ?_)
            · have c_54 : (nI (p + 4 + 2 * (by2 f (p + 2)))) ≤ (nI e) := of_decide_eq_true c_54
              have n_54 : p + 4 + 2 * (by2 f (p + 2)) ≤ e := (le_nI (p := p + 4 + 2 * (by2 f (p + 2))) (n := e) (by omega) (by omega)).mp c_54
              refine ps_st (S' := (62, [(0, .ref m0), (1, .int (nI p0)), (2, .int (nI e)), (3, .int (nI (by2 f p0))), (4, .int (nI p)), (5, .int (nI i))], [.int (nI p)], M1)) rfl rfl rfl ?_
              refine ps_st (S' := (63, [(0, .ref m0), (1, .int (nI p0)), (2, .int (nI e)), (3, .int (nI (by2 f p0))), (4, .int (nI p)), (5, .int (nI i))], [.int 4, .int (nI p)], M1)) rfl rfl rfl ?_
              refine ps_st (S' := (64, [(0, .ref m0), (1, .int (nI p0)), (2, .int (nI e)), (3, .int (nI (by2 f p0))), (4, .int (nI p)), (5, .int (nI i))], [.int 2, .int 4, .int (nI p)], M1)) rfl rfl rfl ?_
              refine ps_st (S' := (65, [(0, .ref m0), (1, .int (nI p0)), (2, .int (nI e)), (3, .int (nI (by2 f p0))), (4, .int (nI p)), (5, .int (nI i))], [.ref m0, .int 2, .int 4, .int (nI p)], M1)) rfl rfl rfl ?_
              refine ps_st (S' := (67, [(0, .ref m0), (1, .int (nI p0)), (2, .int (nI e)), (3, .int (nI (by2 f p0))), (4, .int (nI p)), (5, .int (nI i))], [.int (nI p), .ref m0, .int 2, .int 4, .int (nI p)], M1)) rfl rfl rfl ?_
              refine ps_st (S' := (68, [(0, .ref m0), (1, .int (nI p0)), (2, .int (nI e)), (3, .int (nI (by2 f p0))), (4, .int (nI p)), (5, .int (nI i))], [.int 2, .int (nI p), .ref m0, .int 2, .int 4, .int (nI p)], M1)) rfl rfl rfl ?_
              refine ps_st (S' := (69, [(0, .ref m0), (1, .int (nI p0)), (2, .int (nI e)), (3, .int (nI (by2 f p0))), (4, .int (nI p)), (5, .int (nI i))], [.int ((nI p) + 2), .ref m0, .int 2, .int 4, .int (nI p)], M1)) rfl rfl rfl ?_
              rw [nI_add1 (p := p) (k := 2) (x := 2) rfl (by omega)]
              show pl _ _ _ (_, [(0, .ref m0), (1, .int (nI p0)), (2, .int (nI e)), (3, .int (nI (by2 f p0))), (4, .int (nI p)), (5, .int (nI i))], [.int (nI (p + 2)), .ref m0, .int 2, .int 4, .int (nI p)], M1) _
              refine pl_call (a := [.ref m0, .int (nI (p + 2))]) (rest := [.int 2, .int 4, .int (nI p)]) rfl rfl rfl (rd_u2 (n := n) (f := f) (p := (p + 2)) hR1 hF1 (by omega)) (fun v4 M5 q6 => ?_)
              obtain ⟨rfl, rfl⟩ := q6
              show pl _ _ _ (72, [(0, .ref m0), (1, .int (nI p0)), (2, .int (nI e)), (3, .int (nI (by2 f p0))), (4, .int (nI p)), (5, .int (nI i))], [.int (nI (by2 f (p + 2))), .int 2, .int 4, .int (nI p)], M1) _
              have hu_69 := by2_lt f (p + 2)
              refine ps_st (S' := (73, [(0, .ref m0), (1, .int (nI p0)), (2, .int (nI e)), (3, .int (nI (by2 f p0))), (4, .int (nI p)), (5, .int (nI i))], [.int (2 * (nI (by2 f (p + 2)))), .int 4, .int (nI p)], M1)) rfl rfl rfl ?_
              rw [nI_mul1 (p := 2) (k := by2 f (p + 2)) (x := 2) (y := (nI (by2 f (p + 2)))) rfl rfl (by omega)]
              show pl _ _ _ (_, [(0, .ref m0), (1, .int (nI p0)), (2, .int (nI e)), (3, .int (nI (by2 f p0))), (4, .int (nI p)), (5, .int (nI i))], [.int (nI (2 * (by2 f (p + 2)))), .int 4, .int (nI p)], M1) _
              refine ps_st (S' := (74, [(0, .ref m0), (1, .int (nI p0)), (2, .int (nI e)), (3, .int (nI (by2 f p0))), (4, .int (nI p)), (5, .int (nI i))], [.int (4 + (nI (2 * (by2 f (p + 2))))), .int (nI p)], M1)) rfl rfl rfl ?_
              rw [nI_add2 (p := 4) (k := 2 * (by2 f (p + 2))) (x := 4) (y := (nI (2 * (by2 f (p + 2))))) rfl rfl (by omega)]
              show pl _ _ _ (_, [(0, .ref m0), (1, .int (nI p0)), (2, .int (nI e)), (3, .int (nI (by2 f p0))), (4, .int (nI p)), (5, .int (nI i))], [.int (nI (4 + 2 * (by2 f (p + 2)))), .int (nI p)], M1) _
              refine ps_st (S' := (75, [(0, .ref m0), (1, .int (nI p0)), (2, .int (nI e)), (3, .int (nI (by2 f p0))), (4, .int (nI p)), (5, .int (nI i))], [.int ((nI p) + (nI (4 + 2 * (by2 f (p + 2)))))], M1)) rfl rfl rfl ?_
              rw [nI_add1 (p := p) (k := 4 + 2 * (by2 f (p + 2))) (x := (nI (4 + 2 * (by2 f (p + 2))))) rfl (by omega)]
              rw [show nI (p + (4 + 2 * (by2 f (p + 2)))) = nI (p + 4 + 2 * (by2 f (p + 2))) from congrArg nI (by omega)]
              show pl _ _ _ (_, [(0, .ref m0), (1, .int (nI p0)), (2, .int (nI e)), (3, .int (nI (by2 f p0))), (4, .int (nI p)), (5, .int (nI i))], [.int (nI (p + 4 + 2 * (by2 f (p + 2))))], M1) _
              refine ps_st (S' := (77, [(4, .int (nI (p + 4 + 2 * (by2 f (p + 2))))), (0, .ref m0), (1, .int (nI p0)), (2, .int (nI e)), (3, .int (nI (by2 f p0))), (5, .int (nI i))], [], M1)) rfl rfl rfl ?_
              refine ps_st (S' := (80, [(5, .int ((nI i) + 1)), (4, .int (nI (p + 4 + 2 * (by2 f (p + 2))))), (0, .ref m0), (1, .int (nI p0)), (2, .int (nI e)), (3, .int (nI (by2 f p0)))], [], M1)) rfl rfl rfl ?_
              rw [nI_add1 (p := i) (k := 1) (x := 1) rfl (by omega)]
              show pl _ _ _ (_, [(5, .int (nI (i + 1))), (4, .int (nI (p + 4 + 2 * (by2 f (p + 2))))), (0, .ref m0), (1, .int (nI p0)), (2, .int (nI e)), (3, .int (nI (by2 f p0)))], [], M1) _
              refine ps_st (S' := (24, [(0, .ref m0), (1, .int (nI p0)), (2, .int (nI e)), (3, .int (nI (by2 f p0))), (4, .int (nI (p + 4 + 2 * (by2 f (p + 2))))), (5, .int (nI (i + 1)))], [], M1)) rfl rfl rfl ?_
              exact ih.1 (i + 1) (p + 4 + 2 * by2 f (p + 2)) M1 I1 R1 hR1 hEI1 hER1 hl51 hl52 hl53 hF1 hY1 hP1 (h2) (by omega) (by omega) (by
                  rw [← hs, s_bsE_st (i := i) (p := p) (by omega), if_neg (by omega)])
            · have c_54 : ¬ ((nI (p + 4 + 2 * (by2 f (p + 2)))) ≤ (nI e)) := of_decide_eq_false c_54
              have n_54 : ¬ (p + 4 + 2 * (by2 f (p + 2)) ≤ e) := fun h9 => c_54 ((le_nI (p := p + 4 + 2 * (by2 f (p + 2))) (n := e) (by omega) (by omega)).mpr h9)
              refine ps_st (S' := (59, [], [.int 30], M1)) rfl rfl rfl ?_
              exact ps_ret rfl rfl (Or.inl ⟨I1, R1, by
                  rw [fe_6 h2, ← hs]
                  rw [s_bsE_st (i := i) (p := p) (by omega), if_neg (by omega)]
                  exact (fun h9 => (by have := s_bsE_le h9; omega)), rfl, hR1, hEI1, hER1⟩)
      · skip
        intro i p M1 I1 R1 hR1 hEI1 hER1 hl51 hl52 hl53 hF1 hY1 hP1 hfe hi hp hf hs
        have hn := hF1.1
        have hu9 := by2_lt f p0
        refine ps_st1 (S' := (102, [(0, .ref m0), (1, .int (nI p0)), (3, .int (nI (by2 f p0))), (4, .int (nI p)), (5, .int (nI i))], [.int (nI i)], M1)) rfl rfl rfl ?_
        refine ps_st (S' := (103, [(0, .ref m0), (1, .int (nI p0)), (3, .int (nI (by2 f p0))), (4, .int (nI p)), (5, .int (nI i))], [.int (nI (by2 f p0)), .int (nI i)], M1)) rfl rfl rfl ?_
        refine ps_if2 (S1 := (218, [(0, .ref m0), (1, .int (nI p0)), (3, .int (nI (by2 f p0))), (4, .int (nI p)), (5, .int (nI i))], [], M1)) (S2 := (106, [(0, .ref m0), (1, .int (nI p0)), (3, .int (nI (by2 f p0))), (4, .int (nI p)), (5, .int (nI i))], [], M1)) rfl rfl rfl (fun c_103 => ?_) (fun c_103 => ?_)
        · have c_103 : (nI (by2 f p0)) ≤ (nI i) := of_decide_eq_true c_103
          have n_103 : by2 f p0 ≤ i := (le_nI (p := by2 f p0) (n := i) (Nat.lt_trans (by2_lt _ _) (by decide)) (by omega)).mp c_103
          refine ps_st (S' := (219, [(0, .ref m0), (1, .int (nI p0)), (3, .int (nI (by2 f p0))), (4, .int (nI p)), (5, .int (nI i))], [.ref m0], M1)) rfl rfl rfl ?_
          refine ps_st (S' := (220, [(0, .ref m0), (1, .int (nI p0)), (3, .int (nI (by2 f p0))), (4, .int (nI p)), (5, .int (nI i))], [.int (nI p0), .ref m0], M1)) rfl rfl rfl ?_
          refine pr_put (j := 70) rfl hR1 rfl (fun M7 I8 hR9 hi10 hI11 => ?_)
          have hi12 := (hI11 51 (by decide)).trans hl51
          have hi13 := (hI11 52 (by decide)).trans hl52
          have hi14 := (hI11 53 (by decide)).trans hl53
          have hF_15 := hF1.mono (pIx hI11 (by decide)) (fun _ _ => rfl)
          have hY_16 := hY1.mono (pIx hI11 (by decide)) (fun _ _ => rfl)
          have hP_17 := hP1.mono (pIx hI11 (by decide)) (fun _ _ => rfl)
          have hEI18 := hEI1.put hI11 (by decide)
          show pl _ _ _ (223, [(0, .ref m0), (1, .int (nI p0)), (3, .int (nI (by2 f p0))), (4, .int (nI p)), (5, .int (nI i))], [], M7) _
          refine ps_st (S' := (224, [(0, .ref m0), (1, .int (nI p0)), (3, .int (nI (by2 f p0))), (4, .int (nI p)), (5, .int (nI i))], [.ref m0], M7)) rfl rfl rfl ?_
          refine ps_st (S' := (225, [(0, .ref m0), (1, .int (nI p0)), (3, .int (nI (by2 f p0))), (4, .int (nI p)), (5, .int (nI i))], [.int (nI (by2 f p0)), .ref m0], M7)) rfl rfl rfl ?_
          refine pr_put (j := 71) rfl hR9 rfl (fun M19 I20 hR21 hi22 hI23 => ?_)
          have hi24 := (hI23 51 (by decide)).trans hi12
          have hi25 := (hI23 52 (by decide)).trans hi13
          have hi26 := (hI23 53 (by decide)).trans hi14
          have hi27 := (hI23 70 (by decide)).trans hi10
          have hF_28 := hF_15.mono (pIx hI23 (by decide)) (fun _ _ => rfl)
          have hY_29 := hY_16.mono (pIx hI23 (by decide)) (fun _ _ => rfl)
          have hP_30 := hP_17.mono (pIx hI23 (by decide)) (fun _ _ => rfl)
          have hEI31 := hEI18.put hI23 (by decide)
          show pl _ _ _ (228, [(0, .ref m0), (1, .int (nI p0)), (3, .int (nI (by2 f p0))), (4, .int (nI p)), (5, .int (nI i))], [], M19) _
          refine ps_st (S' := (229, [(0, .ref m0), (1, .int (nI p0)), (3, .int (nI (by2 f p0))), (4, .int (nI p)), (5, .int (nI i))], [.int 0], M19)) rfl rfl rfl ?_
          exact ps_ret rfl rfl (Or.inr (Or.inr ⟨I20, R1, hfe, by
              rw [← hs, show by2 f p0 - i = 0 by omega]
              exact Nat.one_ne_zero, rfl, hR21, hEI31, hER1, hi22, hi27⟩))
        · have c_103 : ¬ ((nI (by2 f p0)) ≤ (nI i)) := of_decide_eq_false c_103
          have n_103 : ¬ (by2 f p0 ≤ i) := fun h9 => c_103 ((le_nI (p := by2 f p0) (n := i) (Nat.lt_trans (by2_lt _ _) (by decide)) (by omega)).mpr h9)
          have hq8 := s_bsE_in (i := i) (p := p) hf (by omega)
          refine ps_st (S' := (107, [(0, .ref m0), (1, .int (nI p0)), (3, .int (nI (by2 f p0))), (4, .int (nI p)), (5, .int (nI i))], [.ref m0], M1)) rfl rfl rfl ?_
          refine ps_st (S' := (108, [(0, .ref m0), (1, .int (nI p0)), (3, .int (nI (by2 f p0))), (4, .int (nI p)), (5, .int (nI i))], [.ref m0, .ref m0], M1)) rfl rfl rfl ?_
          refine ps_st (S' := (110, [(0, .ref m0), (1, .int (nI p0)), (3, .int (nI (by2 f p0))), (4, .int (nI p)), (5, .int (nI i))], [.int (nI p), .ref m0, .ref m0], M1)) rfl rfl rfl ?_
          refine pl_call (a := [.ref m0, .int (nI p)]) (rest := [.ref m0]) rfl rfl rfl (rd_u2 (n := n) (f := f) (p := p) hR1 hF1 (by omega)) (fun v32 M33 q34 => ?_)
          obtain ⟨rfl, rfl⟩ := q34
          show pl _ _ _ (113, [(0, .ref m0), (1, .int (nI p0)), (3, .int (nI (by2 f p0))), (4, .int (nI p)), (5, .int (nI i))], [.int (nI (by2 f p)), .ref m0], M1) _
          have hu_110 := by2_lt f p
          refine pl_call (a := [.ref m0, .int (nI (by2 f p))]) (rest := []) rfl rfl rfl (rd_tag (n := n) (f := f) (tx := tx) (cN := cN) (A := A) (N := N) (mj := mj) (E := E) (k := (by2 f p)) hR1 hl51 hl52 hl53 hF1 hY1 hP1 (hEP) (hN) (hmj) (by2_lt _ _)) (fun v35 M36 q37 => ?_)
          obtain ⟨rfl, rfl⟩ := q37
          show pl _ _ _ (116, [(0, .ref m0), (1, .int (nI p0)), (3, .int (nI (by2 f p0))), (4, .int (nI p)), (5, .int (nI i))], [.int (nI (tg f E (by2 f p)))], M1) _
          have htg_113 := tg_lt f E (by2 f p)
          refine ps_st (S' := (118, [(0, .ref m0), (1, .int (nI p0)), (3, .int (nI (by2 f p0))), (4, .int (nI p)), (5, .int (nI i))], [.int 15, .int (nI (tg f E (by2 f p)))], M1)) rfl rfl rfl ?_
          refine ps_if2 (S1 := (124, [(0, .ref m0), (1, .int (nI p0)), (3, .int (nI (by2 f p0))), (4, .int (nI p)), (5, .int (nI i))], [], M1)) (S2 := (121, [(0, .ref m0), (1, .int (nI p0)), (3, .int (nI (by2 f p0))), (4, .int (nI p)), (5, .int (nI i))], [], M1)) rfl rfl rfl (fun c_118 => ?_) (fun c_118 => ?_)
          · have c_118 : (nI (tg f E (by2 f p))) = 15 := of_decide_eq_true c_118
            have n_118 : tg f E (by2 f p) = 15 := (eq_nI (p := tg f E (by2 f p)) (n := 15) (Nat.lt_trans (tg_lt _ _ _) (by decide)) (by decide)).mp c_118
            refine ps_st (S' := (125, [(0, .ref m0), (1, .int (nI p0)), (3, .int (nI (by2 f p0))), (4, .int (nI p)), (5, .int (nI i))], [.int 0], M1)) rfl rfl rfl ?_
            refine ps_st (S' := (127, [(0, .ref m0), (1, .int (nI p0)), (3, .int (nI (by2 f p0))), (4, .int (nI p)), (5, .int (nI i)), (6, .int 0)], [], M1)) rfl rfl rfl ?_
            exact ih.2.2 (i) (p) (0) M1 I1 R1 hR1 hEI1 hER1 hl51 hl52 hl53 hF1 hY1 hP1 (hfe) (by omega) (by omega) (hq8.2.1) (hq8.2.2) (by omega) (hs) (rfl)
          · have c_118 : ¬ ((nI (tg f E (by2 f p))) = 15) := of_decide_eq_false c_118
            have n_118 : ¬ (tg f E (by2 f p) = 15) := fun h9 => c_118 ((eq_nI (p := tg f E (by2 f p)) (n := 15) (Nat.lt_trans (tg_lt _ _ _) (by decide)) (by decide)).mpr h9)
            refine ps_st (S' := (123, [(0, .ref m0), (1, .int (nI p0)), (3, .int (nI (by2 f p0))), (4, .int (nI p)), (5, .int (nI i))], [.int 38], M1)) rfl rfl rfl ?_
            exact ps_ret rfl rfl (Or.inr (Or.inl ⟨I1, R1, hfe, by
                rw [← hs, bsA_st (i := i) (p := p) (by omega), if_pos (by omega)], rfl, hR1, hEI1, hER1⟩))
      · skip
        intro i p j M1 I1 R1 hR1 hEI1 hER1 hl51 hl52 hl53 hF1 hY1 hP1 hfe hi hj hle hf2 h15 hs hd
        have hn := hF1.1
        have hu9 := by2_lt f p0
        have hu8 := by2_lt f (p + 2)
        refine ps_st1 (S' := (129, [(0, .ref m0), (1, .int (nI p0)), (3, .int (nI (by2 f p0))), (4, .int (nI p)), (5, .int (nI i)), (6, .int (nI j))], [.int (nI j)], M1)) rfl rfl rfl ?_
        refine ps_st (S' := (130, [(0, .ref m0), (1, .int (nI p0)), (3, .int (nI (by2 f p0))), (4, .int (nI p)), (5, .int (nI i)), (6, .int (nI j))], [.ref m0, .int (nI j)], M1)) rfl rfl rfl ?_
        refine ps_st (S' := (132, [(0, .ref m0), (1, .int (nI p0)), (3, .int (nI (by2 f p0))), (4, .int (nI p)), (5, .int (nI i)), (6, .int (nI j))], [.int (nI p), .ref m0, .int (nI j)], M1)) rfl rfl rfl ?_
        refine ps_st (S' := (133, [(0, .ref m0), (1, .int (nI p0)), (3, .int (nI (by2 f p0))), (4, .int (nI p)), (5, .int (nI i)), (6, .int (nI j))], [.int 2, .int (nI p), .ref m0, .int (nI j)], M1)) rfl rfl rfl ?_
        refine ps_st (S' := (134, [(0, .ref m0), (1, .int (nI p0)), (3, .int (nI (by2 f p0))), (4, .int (nI p)), (5, .int (nI i)), (6, .int (nI j))], [.int ((nI p) + 2), .ref m0, .int (nI j)], M1)) rfl rfl rfl ?_
        rw [nI_add1 (p := p) (k := 2) (x := 2) rfl (by omega)]
        show pl _ _ _ (_, [(0, .ref m0), (1, .int (nI p0)), (3, .int (nI (by2 f p0))), (4, .int (nI p)), (5, .int (nI i)), (6, .int (nI j))], [.int (nI (p + 2)), .ref m0, .int (nI j)], M1) _
        refine pl_call (a := [.ref m0, .int (nI (p + 2))]) (rest := [.int (nI j)]) rfl rfl rfl (rd_u2 (n := n) (f := f) (p := (p + 2)) hR1 hF1 (by omega)) (fun v38 M39 q40 => ?_)
        obtain ⟨rfl, rfl⟩ := q40
        show pl _ _ _ (137, [(0, .ref m0), (1, .int (nI p0)), (3, .int (nI (by2 f p0))), (4, .int (nI p)), (5, .int (nI i)), (6, .int (nI j))], [.int (nI (by2 f (p + 2))), .int (nI j)], M1) _
        have hu_134 := by2_lt f (p + 2)
        refine ps_if2 (S1 := (195, [(0, .ref m0), (1, .int (nI p0)), (3, .int (nI (by2 f p0))), (4, .int (nI p)), (5, .int (nI i)), (6, .int (nI j))], [], M1)) (S2 := (140, [(0, .ref m0), (1, .int (nI p0)), (3, .int (nI (by2 f p0))), (4, .int (nI p)), (5, .int (nI i)), (6, .int (nI j))], [], M1)) rfl rfl rfl (fun c_137 => ?_) (fun c_137 => ?_)
        · have c_137 : (nI (by2 f (p + 2))) ≤ (nI j) := of_decide_eq_true c_137
          have n_137 : by2 f (p + 2) ≤ j := (le_nI (p := by2 f (p + 2)) (n := j) (Nat.lt_trans (by2_lt _ _) (by decide)) (by omega)).mp c_137
          refine ps_st (S' := (197, [(0, .ref m0), (1, .int (nI p0)), (3, .int (nI (by2 f p0))), (4, .int (nI p)), (5, .int (nI i)), (6, .int (nI j))], [.int (nI p)], M1)) rfl rfl rfl ?_
          refine ps_st (S' := (198, [(0, .ref m0), (1, .int (nI p0)), (3, .int (nI (by2 f p0))), (4, .int (nI p)), (5, .int (nI i)), (6, .int (nI j))], [.int 4, .int (nI p)], M1)) rfl rfl rfl ?_
          refine ps_st (S' := (199, [(0, .ref m0), (1, .int (nI p0)), (3, .int (nI (by2 f p0))), (4, .int (nI p)), (5, .int (nI i)), (6, .int (nI j))], [.int 2, .int 4, .int (nI p)], M1)) rfl rfl rfl ?_
          refine ps_st (S' := (200, [(0, .ref m0), (1, .int (nI p0)), (3, .int (nI (by2 f p0))), (4, .int (nI p)), (5, .int (nI i)), (6, .int (nI j))], [.ref m0, .int 2, .int 4, .int (nI p)], M1)) rfl rfl rfl ?_
          refine ps_st (S' := (202, [(0, .ref m0), (1, .int (nI p0)), (3, .int (nI (by2 f p0))), (4, .int (nI p)), (5, .int (nI i)), (6, .int (nI j))], [.int (nI p), .ref m0, .int 2, .int 4, .int (nI p)], M1)) rfl rfl rfl ?_
          refine ps_st (S' := (203, [(0, .ref m0), (1, .int (nI p0)), (3, .int (nI (by2 f p0))), (4, .int (nI p)), (5, .int (nI i)), (6, .int (nI j))], [.int 2, .int (nI p), .ref m0, .int 2, .int 4, .int (nI p)], M1)) rfl rfl rfl ?_
          refine ps_st (S' := (204, [(0, .ref m0), (1, .int (nI p0)), (3, .int (nI (by2 f p0))), (4, .int (nI p)), (5, .int (nI i)), (6, .int (nI j))], [.int ((nI p) + 2), .ref m0, .int 2, .int 4, .int (nI p)], M1)) rfl rfl rfl ?_
          rw [nI_add1 (p := p) (k := 2) (x := 2) rfl (by omega)]
          show pl _ _ _ (_, [(0, .ref m0), (1, .int (nI p0)), (3, .int (nI (by2 f p0))), (4, .int (nI p)), (5, .int (nI i)), (6, .int (nI j))], [.int (nI (p + 2)), .ref m0, .int 2, .int 4, .int (nI p)], M1) _
          refine pl_call (a := [.ref m0, .int (nI (p + 2))]) (rest := [.int 2, .int 4, .int (nI p)]) rfl rfl rfl (rd_u2 (n := n) (f := f) (p := (p + 2)) hR1 hF1 (by omega)) (fun v41 M42 q43 => ?_)
          obtain ⟨rfl, rfl⟩ := q43
          show pl _ _ _ (207, [(0, .ref m0), (1, .int (nI p0)), (3, .int (nI (by2 f p0))), (4, .int (nI p)), (5, .int (nI i)), (6, .int (nI j))], [.int (nI (by2 f (p + 2))), .int 2, .int 4, .int (nI p)], M1) _
          have hu_204 := by2_lt f (p + 2)
          refine ps_st (S' := (208, [(0, .ref m0), (1, .int (nI p0)), (3, .int (nI (by2 f p0))), (4, .int (nI p)), (5, .int (nI i)), (6, .int (nI j))], [.int (2 * (nI (by2 f (p + 2)))), .int 4, .int (nI p)], M1)) rfl rfl rfl ?_
          rw [nI_mul1 (p := 2) (k := by2 f (p + 2)) (x := 2) (y := (nI (by2 f (p + 2)))) rfl rfl (by omega)]
          show pl _ _ _ (_, [(0, .ref m0), (1, .int (nI p0)), (3, .int (nI (by2 f p0))), (4, .int (nI p)), (5, .int (nI i)), (6, .int (nI j))], [.int (nI (2 * (by2 f (p + 2)))), .int 4, .int (nI p)], M1) _
          refine ps_st (S' := (209, [(0, .ref m0), (1, .int (nI p0)), (3, .int (nI (by2 f p0))), (4, .int (nI p)), (5, .int (nI i)), (6, .int (nI j))], [.int (4 + (nI (2 * (by2 f (p + 2))))), .int (nI p)], M1)) rfl rfl rfl ?_
          rw [nI_add2 (p := 4) (k := 2 * (by2 f (p + 2))) (x := 4) (y := (nI (2 * (by2 f (p + 2))))) rfl rfl (by omega)]
          show pl _ _ _ (_, [(0, .ref m0), (1, .int (nI p0)), (3, .int (nI (by2 f p0))), (4, .int (nI p)), (5, .int (nI i)), (6, .int (nI j))], [.int (nI (4 + 2 * (by2 f (p + 2)))), .int (nI p)], M1) _
          refine ps_st (S' := (210, [(0, .ref m0), (1, .int (nI p0)), (3, .int (nI (by2 f p0))), (4, .int (nI p)), (5, .int (nI i)), (6, .int (nI j))], [.int ((nI p) + (nI (4 + 2 * (by2 f (p + 2)))))], M1)) rfl rfl rfl ?_
          rw [nI_add1 (p := p) (k := 4 + 2 * (by2 f (p + 2))) (x := (nI (4 + 2 * (by2 f (p + 2))))) rfl (by omega)]
          rw [show nI (p + (4 + 2 * (by2 f (p + 2)))) = nI (p + 4 + 2 * (by2 f (p + 2))) from congrArg nI (by omega)]
          show pl _ _ _ (_, [(0, .ref m0), (1, .int (nI p0)), (3, .int (nI (by2 f p0))), (4, .int (nI p)), (5, .int (nI i)), (6, .int (nI j))], [.int (nI (p + 4 + 2 * (by2 f (p + 2))))], M1) _
          refine ps_st (S' := (212, [(4, .int (nI (p + 4 + 2 * (by2 f (p + 2))))), (0, .ref m0), (1, .int (nI p0)), (3, .int (nI (by2 f p0))), (5, .int (nI i)), (6, .int (nI j))], [], M1)) rfl rfl rfl ?_
          refine ps_st (S' := (215, [(5, .int ((nI i) + 1)), (4, .int (nI (p + 4 + 2 * (by2 f (p + 2))))), (0, .ref m0), (1, .int (nI p0)), (3, .int (nI (by2 f p0))), (6, .int (nI j))], [], M1)) rfl rfl rfl ?_
          rw [nI_add1 (p := i) (k := 1) (x := 1) rfl (by omega)]
          show pl _ _ _ (_, [(5, .int (nI (i + 1))), (4, .int (nI (p + 4 + 2 * (by2 f (p + 2))))), (0, .ref m0), (1, .int (nI p0)), (3, .int (nI (by2 f p0))), (6, .int (nI j))], [], M1) _
          refine ps_st (S' := (100, [(0, .ref m0), (1, .int (nI p0)), (3, .int (nI (by2 f p0))), (4, .int (nI (p + 4 + 2 * (by2 f (p + 2))))), (5, .int (nI (i + 1)))], [], M1)) rfl rfl rfl ?_
          exact ih.2.1 (i + 1) (p + 4 + 2 * by2 f (p + 2)) M1 I1 R1 hR1 hEI1 hER1 hl51 hl52 hl53 hF1 hY1 hP1 (hfe) (by omega) (by omega) (hf2) (by
              rw [← hs, bsA_st (i := i) (p := p) hi, if_neg (by omega), if_neg (by rw [← hd, show by2 f (p + 2) - j = 0 by omega]; exact Nat.one_ne_zero)])
        · have c_137 : ¬ ((nI (by2 f (p + 2))) ≤ (nI j)) := of_decide_eq_false c_137
          have n_137 : ¬ (by2 f (p + 2) ≤ j) := fun h9 => c_137 ((le_nI (p := by2 f (p + 2)) (n := j) (Nat.lt_trans (by2_lt _ _) (by decide)) (by omega)).mpr h9)
          refine ps_st (S' := (141, [(0, .ref m0), (1, .int (nI p0)), (3, .int (nI (by2 f p0))), (4, .int (nI p)), (5, .int (nI i)), (6, .int (nI j))], [.ref m0], M1)) rfl rfl rfl ?_
          refine ps_st (S' := (142, [(0, .ref m0), (1, .int (nI p0)), (3, .int (nI (by2 f p0))), (4, .int (nI p)), (5, .int (nI i)), (6, .int (nI j))], [.ref m0, .ref m0], M1)) rfl rfl rfl ?_
          refine ps_st (S' := (144, [(0, .ref m0), (1, .int (nI p0)), (3, .int (nI (by2 f p0))), (4, .int (nI p)), (5, .int (nI i)), (6, .int (nI j))], [.int (nI p), .ref m0, .ref m0], M1)) rfl rfl rfl ?_
          refine ps_st (S' := (145, [(0, .ref m0), (1, .int (nI p0)), (3, .int (nI (by2 f p0))), (4, .int (nI p)), (5, .int (nI i)), (6, .int (nI j))], [.int 4, .int (nI p), .ref m0, .ref m0], M1)) rfl rfl rfl ?_
          refine ps_st (S' := (146, [(0, .ref m0), (1, .int (nI p0)), (3, .int (nI (by2 f p0))), (4, .int (nI p)), (5, .int (nI i)), (6, .int (nI j))], [.int ((nI p) + 4), .ref m0, .ref m0], M1)) rfl rfl rfl ?_
          rw [nI_add1 (p := p) (k := 4) (x := 4) rfl (by omega)]
          show pl _ _ _ (_, [(0, .ref m0), (1, .int (nI p0)), (3, .int (nI (by2 f p0))), (4, .int (nI p)), (5, .int (nI i)), (6, .int (nI j))], [.int (nI (p + 4)), .ref m0, .ref m0], M1) _
          refine ps_st (S' := (147, [(0, .ref m0), (1, .int (nI p0)), (3, .int (nI (by2 f p0))), (4, .int (nI p)), (5, .int (nI i)), (6, .int (nI j))], [.int 2, .int (nI (p + 4)), .ref m0, .ref m0], M1)) rfl rfl rfl ?_
          refine ps_st (S' := (149, [(0, .ref m0), (1, .int (nI p0)), (3, .int (nI (by2 f p0))), (4, .int (nI p)), (5, .int (nI i)), (6, .int (nI j))], [.int (nI j), .int 2, .int (nI (p + 4)), .ref m0, .ref m0], M1)) rfl rfl rfl ?_
          refine ps_st (S' := (150, [(0, .ref m0), (1, .int (nI p0)), (3, .int (nI (by2 f p0))), (4, .int (nI p)), (5, .int (nI i)), (6, .int (nI j))], [.int (2 * (nI j)), .int (nI (p + 4)), .ref m0, .ref m0], M1)) rfl rfl rfl ?_
          rw [nI_mul1 (p := 2) (k := j) (x := 2) (y := (nI j)) rfl rfl (by omega)]
          show pl _ _ _ (_, [(0, .ref m0), (1, .int (nI p0)), (3, .int (nI (by2 f p0))), (4, .int (nI p)), (5, .int (nI i)), (6, .int (nI j))], [.int (nI (2 * j)), .int (nI (p + 4)), .ref m0, .ref m0], M1) _
          refine ps_st (S' := (151, [(0, .ref m0), (1, .int (nI p0)), (3, .int (nI (by2 f p0))), (4, .int (nI p)), (5, .int (nI i)), (6, .int (nI j))], [.int ((nI (p + 4)) + (nI (2 * j))), .ref m0, .ref m0], M1)) rfl rfl rfl ?_
          rw [nI_add1 (p := p + 4) (k := 2 * j) (x := (nI (2 * j))) rfl (by omega)]
          show pl _ _ _ (_, [(0, .ref m0), (1, .int (nI p0)), (3, .int (nI (by2 f p0))), (4, .int (nI p)), (5, .int (nI i)), (6, .int (nI j))], [.int (nI (p + 4 + 2 * j)), .ref m0, .ref m0], M1) _
          refine pl_call (a := [.ref m0, .int (nI (p + 4 + 2 * j))]) (rest := [.ref m0]) rfl rfl rfl (rd_u2 (n := n) (f := f) (p := (p + 4 + 2 * j)) hR1 hF1 (by omega)) (fun v44 M45 q46 => ?_)
          obtain ⟨rfl, rfl⟩ := q46
          show pl _ _ _ (154, [(0, .ref m0), (1, .int (nI p0)), (3, .int (nI (by2 f p0))), (4, .int (nI p)), (5, .int (nI i)), (6, .int (nI j))], [.int (nI (by2 f (p + 4 + 2 * j))), .ref m0], M1) _
          have hu_151 := by2_lt f (p + 4 + 2 * j)
          refine pl_call (a := [.ref m0, .int (nI (by2 f (p + 4 + 2 * j)))]) (rest := []) rfl rfl rfl (rd_tag (n := n) (f := f) (tx := tx) (cN := cN) (A := A) (N := N) (mj := mj) (E := E) (k := (by2 f (p + 4 + 2 * j))) hR1 hl51 hl52 hl53 hF1 hY1 hP1 (hEP) (hN) (hmj) (by2_lt _ _)) (fun v47 M48 q49 => ?_)
          obtain ⟨rfl, rfl⟩ := q49
          show pl _ _ _ (157, [(0, .ref m0), (1, .int (nI p0)), (3, .int (nI (by2 f p0))), (4, .int (nI p)), (5, .int (nI i)), (6, .int (nI j))], [.int (nI (tg f E (by2 f (p + 4 + 2 * j))))], M1) _
          have htg_154 := tg_lt f E (by2 f (p + 4 + 2 * j))
          refine ps_st (S' := (159, [(7, .int (nI (tg f E (by2 f (p + 4 + 2 * j))))), (0, .ref m0), (1, .int (nI p0)), (3, .int (nI (by2 f p0))), (4, .int (nI p)), (5, .int (nI i)), (6, .int (nI j))], [], M1)) rfl rfl rfl ?_
          refine ps_st (S' := (161, [(7, .int (nI (tg f E (by2 f (p + 4 + 2 * j))))), (0, .ref m0), (1, .int (nI p0)), (3, .int (nI (by2 f p0))), (4, .int (nI p)), (5, .int (nI i)), (6, .int (nI j))], [.int (nI (tg f E (by2 f (p + 4 + 2 * j))))], M1)) rfl rfl rfl ?_
          refine ps_st (S' := (162, [(7, .int (nI (tg f E (by2 f (p + 4 + 2 * j))))), (0, .ref m0), (1, .int (nI p0)), (3, .int (nI (by2 f p0))), (4, .int (nI p)), (5, .int (nI i)), (6, .int (nI j))], [.int 3, .int (nI (tg f E (by2 f (p + 4 + 2 * j))))], M1)) rfl rfl rfl ?_
          refine ps_if2 (S1 := (172, [(0, .ref m0), (1, .int (nI p0)), (3, .int (nI (by2 f p0))), (4, .int (nI p)), (5, .int (nI i)), (6, .int (nI j)), (7, .int (nI (tg f E (by2 f (p + 4 + 2 * j)))))], [], M1)) (S2 := (165, [(7, .int (nI (tg f E (by2 f (p + 4 + 2 * j))))), (0, .ref m0), (1, .int (nI p0)), (3, .int (nI (by2 f p0))), (4, .int (nI p)), (5, .int (nI i)), (6, .int (nI j))], [], M1)) rfl rfl rfl (fun c_162 => ?_) (fun c_162 => ?_)
          · have c_162 : (nI (tg f E (by2 f (p + 4 + 2 * j)))) < 3 := of_decide_eq_true c_162
            have n_162 : tg f E (by2 f (p + 4 + 2 * j)) < 3 := (lt_nI (p := tg f E (by2 f (p + 4 + 2 * j))) (n := 3) (Nat.lt_trans (tg_lt _ _ _) (by decide)) (by decide)).mp c_162
            refine ps_st (S' := (174, [(0, .ref m0), (1, .int (nI p0)), (3, .int (nI (by2 f p0))), (4, .int (nI p)), (5, .int (nI i)), (6, .int (nI j)), (7, .int (nI (tg f E (by2 f (p + 4 + 2 * j)))))], [.int (nI (tg f E (by2 f (p + 4 + 2 * j))))], M1)) rfl rfl rfl ?_
            refine ps_st (S' := (176, [(0, .ref m0), (1, .int (nI p0)), (3, .int (nI (by2 f p0))), (4, .int (nI p)), (5, .int (nI i)), (6, .int (nI j)), (7, .int (nI (tg f E (by2 f (p + 4 + 2 * j)))))], [.int 15, .int (nI (tg f E (by2 f (p + 4 + 2 * j))))], M1)) rfl rfl rfl ?_
            refine ps_if2 (S1 := (186, [], [], M1)) (S2 := (179, [(0, .ref m0), (1, .int (nI p0)), (3, .int (nI (by2 f p0))), (4, .int (nI p)), (5, .int (nI i)), (6, .int (nI j)), (7, .int (nI (tg f E (by2 f (p + 4 + 2 * j)))))], [], M1)) rfl rfl rfl (fun c_176 => ?_) (fun c_176 => ?_)
            rotate_left
            · exact absurd ((lt_nI (p := tg f E (by2 f (p + 4 + 2 * j))) (n := 15) (Nat.lt_trans (tg_lt _ _ _) (by decide)) (by decide)).mpr (by omega)) (of_decide_eq_false c_176)
            refine ps_st (S' := (188, [], [.int 38], M1)) rfl rfl rfl ?_
            exact ps_ret rfl rfl (Or.inr (Or.inl ⟨I1, R1, hfe, by
                rw [← hs, bsA_st (i := i) (p := p) hi, if_neg (by omega), if_pos (by rw [← hd, ldA_st (i := j) (by omega), if_pos (by unfold ldN; rw [if_neg (by omega)])])], rfl, hR1, hEI1, hER1⟩))
          · have c_162 : ¬ ((nI (tg f E (by2 f (p + 4 + 2 * j)))) < 3) := of_decide_eq_false c_162
            have n_162 : ¬ (tg f E (by2 f (p + 4 + 2 * j)) < 3) := fun h9 => c_162 ((lt_nI (p := tg f E (by2 f (p + 4 + 2 * j))) (n := 3) (Nat.lt_trans (tg_lt _ _ _) (by decide)) (by decide)).mpr h9)
            refine ps_st (S' := (167, [(7, .int (nI (tg f E (by2 f (p + 4 + 2 * j))))), (0, .ref m0), (1, .int (nI p0)), (3, .int (nI (by2 f p0))), (4, .int (nI p)), (5, .int (nI i)), (6, .int (nI j))], [.int (nI (tg f E (by2 f (p + 4 + 2 * j))))], M1)) rfl rfl rfl ?_
            refine ps_st (S' := (169, [(7, .int (nI (tg f E (by2 f (p + 4 + 2 * j))))), (0, .ref m0), (1, .int (nI p0)), (3, .int (nI (by2 f p0))), (4, .int (nI p)), (5, .int (nI i)), (6, .int (nI j))], [.int 8, .int (nI (tg f E (by2 f (p + 4 + 2 * j))))], M1)) rfl rfl rfl ?_
            refine ps_if2 (S1 := (189, [(0, .ref m0), (1, .int (nI p0)), (3, .int (nI (by2 f p0))), (4, .int (nI p)), (5, .int (nI i)), (6, .int (nI j))], [], M1)) (S2 := (172, [(0, .ref m0), (1, .int (nI p0)), (3, .int (nI (by2 f p0))), (4, .int (nI p)), (5, .int (nI i)), (6, .int (nI j)), (7, .int (nI (tg f E (by2 f (p + 4 + 2 * j)))))], [], M1)) rfl rfl rfl (fun c_169 => ?_) (fun c_169 => ?_)
            · have c_169 : (nI (tg f E (by2 f (p + 4 + 2 * j)))) ≤ 8 := of_decide_eq_true c_169
              have n_169 : tg f E (by2 f (p + 4 + 2 * j)) ≤ 8 := (le_nI (p := tg f E (by2 f (p + 4 + 2 * j))) (n := 8) (Nat.lt_trans (tg_lt _ _ _) (by decide)) (by decide)).mp c_169
              refine ps_st (S' := (192, [(6, .int ((nI j) + 1)), (0, .ref m0), (1, .int (nI p0)), (3, .int (nI (by2 f p0))), (4, .int (nI p)), (5, .int (nI i))], [], M1)) rfl rfl rfl ?_
              rw [nI_add1 (p := j) (k := 1) (x := 1) rfl (by omega)]
              show pl _ _ _ (_, [(6, .int (nI (j + 1))), (0, .ref m0), (1, .int (nI p0)), (3, .int (nI (by2 f p0))), (4, .int (nI p)), (5, .int (nI i))], [], M1) _
              refine ps_st (S' := (127, [(0, .ref m0), (1, .int (nI p0)), (3, .int (nI (by2 f p0))), (4, .int (nI p)), (5, .int (nI i)), (6, .int (nI (j + 1)))], [], M1)) rfl rfl rfl ?_
              exact ih.2.2 (i) (p) (j + 1) M1 I1 R1 hR1 hEI1 hER1 hl51 hl52 hl53 hF1 hY1 hP1 (hfe) (hi) (by omega) (hle) (hf2) (h15) (hs) (by
                  rw [← hd, ldA_st (i := j) (by omega), if_neg (by unfold ldN; rw [if_pos (by omega)]; decide)]
                  rfl)
            · have c_169 : ¬ ((nI (tg f E (by2 f (p + 4 + 2 * j)))) ≤ 8) := of_decide_eq_false c_169
              have n_169 : ¬ (tg f E (by2 f (p + 4 + 2 * j)) ≤ 8) := fun h9 => c_169 ((le_nI (p := tg f E (by2 f (p + 4 + 2 * j))) (n := 8) (Nat.lt_trans (tg_lt _ _ _) (by decide)) (by decide)).mpr h9)
              refine ps_st (S' := (174, [(0, .ref m0), (1, .int (nI p0)), (3, .int (nI (by2 f p0))), (4, .int (nI p)), (5, .int (nI i)), (6, .int (nI j)), (7, .int (nI (tg f E (by2 f (p + 4 + 2 * j)))))], [.int (nI (tg f E (by2 f (p + 4 + 2 * j))))], M1)) rfl rfl rfl ?_
              refine ps_st (S' := (176, [(0, .ref m0), (1, .int (nI p0)), (3, .int (nI (by2 f p0))), (4, .int (nI p)), (5, .int (nI i)), (6, .int (nI j)), (7, .int (nI (tg f E (by2 f (p + 4 + 2 * j)))))], [.int 15, .int (nI (tg f E (by2 f (p + 4 + 2 * j))))], M1)) rfl rfl rfl ?_
              refine ps_if2 (S1 := (186, [], [], M1)) (S2 := (179, [(0, .ref m0), (1, .int (nI p0)), (3, .int (nI (by2 f p0))), (4, .int (nI p)), (5, .int (nI i)), (6, .int (nI j)), (7, .int (nI (tg f E (by2 f (p + 4 + 2 * j)))))], [], M1)) rfl rfl rfl (fun c_176 => ?_) (fun c_176 => ?_)
              · have c_176 : (nI (tg f E (by2 f (p + 4 + 2 * j)))) < 15 := of_decide_eq_true c_176
                have n_176 : tg f E (by2 f (p + 4 + 2 * j)) < 15 := (lt_nI (p := tg f E (by2 f (p + 4 + 2 * j))) (n := 15) (Nat.lt_trans (tg_lt _ _ _) (by decide)) (by decide)).mp c_176
                refine ps_st (S' := (188, [], [.int 38], M1)) rfl rfl rfl ?_
                exact ps_ret rfl rfl (Or.inr (Or.inl ⟨I1, R1, hfe, by
                    rw [← hs, bsA_st (i := i) (p := p) hi, if_neg (by omega), if_pos (by rw [← hd, ldA_st (i := j) (by omega), if_pos (by unfold ldN; rw [if_neg (by omega)])])], rfl, hR1, hEI1, hER1⟩))
              · have c_176 : ¬ ((nI (tg f E (by2 f (p + 4 + 2 * j)))) < 15) := of_decide_eq_false c_176
                have n_176 : ¬ (tg f E (by2 f (p + 4 + 2 * j)) < 15) := fun h9 => c_176 ((lt_nI (p := tg f E (by2 f (p + 4 + 2 * j))) (n := 15) (Nat.lt_trans (tg_lt _ _ _) (by decide)) (by decide)).mpr h9)
                refine ps_st (S' := (181, [(0, .ref m0), (1, .int (nI p0)), (3, .int (nI (by2 f p0))), (4, .int (nI p)), (5, .int (nI i)), (6, .int (nI j)), (7, .int (nI (tg f E (by2 f (p + 4 + 2 * j)))))], [.int (nI (tg f E (by2 f (p + 4 + 2 * j))))], M1)) rfl rfl rfl ?_
                refine ps_st (S' := (183, [(0, .ref m0), (1, .int (nI p0)), (3, .int (nI (by2 f p0))), (4, .int (nI p)), (5, .int (nI i)), (6, .int (nI j)), (7, .int (nI (tg f E (by2 f (p + 4 + 2 * j)))))], [.int 17, .int (nI (tg f E (by2 f (p + 4 + 2 * j))))], M1)) rfl rfl rfl ?_
                refine ps_if2 (S1 := (189, [(0, .ref m0), (1, .int (nI p0)), (3, .int (nI (by2 f p0))), (4, .int (nI p)), (5, .int (nI i)), (6, .int (nI j))], [], M1)) (S2 := (186, [], [], M1)) rfl rfl rfl (fun c_183 => ?_) (fun c_183 => ?_)
                · have c_183 : (nI (tg f E (by2 f (p + 4 + 2 * j)))) ≤ 17 := of_decide_eq_true c_183
                  have n_183 : tg f E (by2 f (p + 4 + 2 * j)) ≤ 17 := (le_nI (p := tg f E (by2 f (p + 4 + 2 * j))) (n := 17) (Nat.lt_trans (tg_lt _ _ _) (by decide)) (by decide)).mp c_183
                  refine ps_st (S' := (192, [(6, .int ((nI j) + 1)), (0, .ref m0), (1, .int (nI p0)), (3, .int (nI (by2 f p0))), (4, .int (nI p)), (5, .int (nI i))], [], M1)) rfl rfl rfl ?_
                  rw [nI_add1 (p := j) (k := 1) (x := 1) rfl (by omega)]
                  show pl _ _ _ (_, [(6, .int (nI (j + 1))), (0, .ref m0), (1, .int (nI p0)), (3, .int (nI (by2 f p0))), (4, .int (nI p)), (5, .int (nI i))], [], M1) _
                  refine ps_st (S' := (127, [(0, .ref m0), (1, .int (nI p0)), (3, .int (nI (by2 f p0))), (4, .int (nI p)), (5, .int (nI i)), (6, .int (nI (j + 1)))], [], M1)) rfl rfl rfl ?_
                  exact ih.2.2 (i) (p) (j + 1) M1 I1 R1 hR1 hEI1 hER1 hl51 hl52 hl53 hF1 hY1 hP1 (hfe) (hi) (by omega) (hle) (hf2) (h15) (hs) (by
                      rw [← hd, ldA_st (i := j) (by omega), if_neg (by unfold ldN; rw [if_pos (by omega)]; decide)]
                      rfl)
                · have c_183 : ¬ ((nI (tg f E (by2 f (p + 4 + 2 * j)))) ≤ 17) := of_decide_eq_false c_183
                  have n_183 : ¬ (tg f E (by2 f (p + 4 + 2 * j)) ≤ 17) := fun h9 => c_183 ((le_nI (p := tg f E (by2 f (p + 4 + 2 * j))) (n := 17) (Nat.lt_trans (tg_lt _ _ _) (by decide)) (by decide)).mpr h9)
                  refine ps_st (S' := (188, [], [.int 38], M1)) rfl rfl rfl ?_
                  exact ps_ret rfl rfl (Or.inr (Or.inl ⟨I1, R1, hfe, by
                      rw [← hs, bsA_st (i := i) (p := p) hi, if_neg (by omega), if_pos (by rw [← hd, ldA_st (i := j) (by omega), if_pos (by unfold ldN; rw [if_neg (by omega)])])], rfl, hR1, hEI1, hER1⟩))
  refine ps_st (S' := (1, [(0, .ref m0), (1, .int (nI p0)), (2, .int (nI e))], [.int (nI e)], M)) rfl rfl rfl ?_
  refine ps_st (S' := (2, [(0, .ref m0), (1, .int (nI p0)), (2, .int (nI e))], [.int (nI p0), .int (nI e)], M)) rfl rfl rfl ?_
  refine ps_st (S' := (3, [(0, .ref m0), (1, .int (nI p0)), (2, .int (nI e))], [.int ((nI e) - (nI p0))], M)) rfl rfl rfl ?_
  refine ps_st (S' := (4, [(0, .ref m0), (1, .int (nI p0)), (2, .int (nI e))], [.int 2, .int ((nI e) - (nI p0))], M)) rfl rfl rfl ?_
  refine ps_if2 (S1 := (10, [(0, .ref m0), (1, .int (nI p0)), (2, .int (nI e))], [], M)) (S2 := (7, [(0, .ref m0), (1, .int (nI p0)), (2, .int (nI e))], [], M)) rfl rfl rfl (fun c_4 => ?_) (fun c_4 => ?_)
  · have c_4 : 2 ≤ ((nI e) - (nI p0)) := of_decide_eq_true c_4
    have n_4 : 2 + p0 ≤ e := (le_sub1 (e := e) (p := p0) (k := 2) (by omega) (by omega) (by omega)).mp c_4
    refine ps_st (S' := (11, [(0, .ref m0), (1, .int (nI p0)), (2, .int (nI e))], [.ref m0], M)) rfl rfl rfl ?_
    refine ps_st (S' := (12, [(0, .ref m0), (1, .int (nI p0)), (2, .int (nI e))], [.int (nI p0), .ref m0], M)) rfl rfl rfl ?_
    refine pl_call (a := [.ref m0, .int (nI p0)]) (rest := []) rfl rfl rfl (rd_u2 (n := n) (f := f) (p := p0) hR hF (by omega)) (fun v50 M51 q52 => ?_)
    obtain ⟨rfl, rfl⟩ := q52
    show pl _ _ _ (15, [(0, .ref m0), (1, .int (nI p0)), (2, .int (nI e))], [.int (nI (by2 f p0))], M) _
    have hu_12 := by2_lt f p0
    refine ps_st (S' := (16, [(3, .int (nI (by2 f p0))), (0, .ref m0), (1, .int (nI p0)), (2, .int (nI e))], [], M)) rfl rfl rfl ?_
    refine ps_st (S' := (17, [(3, .int (nI (by2 f p0))), (0, .ref m0), (1, .int (nI p0)), (2, .int (nI e))], [.int (nI p0)], M)) rfl rfl rfl ?_
    refine ps_st (S' := (18, [(3, .int (nI (by2 f p0))), (0, .ref m0), (1, .int (nI p0)), (2, .int (nI e))], [.int 2, .int (nI p0)], M)) rfl rfl rfl ?_
    refine ps_st (S' := (19, [(3, .int (nI (by2 f p0))), (0, .ref m0), (1, .int (nI p0)), (2, .int (nI e))], [.int ((nI p0) + 2)], M)) rfl rfl rfl ?_
    rw [nI_add1 (p := p0) (k := 2) (x := 2) rfl (by omega)]
    show pl _ _ _ (_, [(3, .int (nI (by2 f p0))), (0, .ref m0), (1, .int (nI p0)), (2, .int (nI e))], [.int (nI (p0 + 2))], M) _
    refine ps_st (S' := (21, [(4, .int (nI (p0 + 2))), (3, .int (nI (by2 f p0))), (0, .ref m0), (1, .int (nI p0)), (2, .int (nI e))], [], M)) rfl rfl rfl ?_
    refine ps_st (S' := (22, [(4, .int (nI (p0 + 2))), (3, .int (nI (by2 f p0))), (0, .ref m0), (1, .int (nI p0)), (2, .int (nI e))], [.int 0], M)) rfl rfl rfl ?_
    refine ps_st (S' := (24, [(0, .ref m0), (1, .int (nI p0)), (2, .int (nI e)), (3, .int (nI (by2 f p0))), (4, .int (nI (p0 + 2))), (5, .int 0)], [], M)) rfl rfl rfl ?_
    exact (LL kf).1 (0) (p0 + 2) M I R hR hEI hER hi51 hi52 hi53 hF hY hP (by omega) (by omega) (by omega) (rfl)
  · have c_4 : ¬ (2 ≤ ((nI e) - (nI p0))) := of_decide_eq_false c_4
    have n_4 : ¬ (2 + p0 ≤ e) := fun h8 => c_4 ((le_sub1 (e := e) (p := p0) (k := 2) (by omega) (by omega) (by omega)).mpr h8)
    refine ps_st (S' := (9, [(0, .ref m0), (1, .int (nI p0)), (2, .int (nI e))], [.int 30], M)) rfl rfl rfl ?_
    exact ps_ret rfl rfl (Or.inl ⟨I, R, fe_2 (by omega), rfl, hR, hEI, hER⟩)
set_option maxHeartbeats 4000000 in
theorem rd_components {g : xe_G} {m0 : Nat} {q : Nat → Nat} {z : Nat × Nat} {I : rI} {R : rR} {M : mi_H} {n : Nat} {f : Nat → Int32} {tx : List (List Nat)} {cN : Nat} {A : Nat → Nat} {N mj : Nat} {E : List (Nat × Nat)} {p0 e t : Nat} (hR : RS g m0 q z I R M) (hi51 : I 51 = some 0) (hi52 : I 52 = some (nI N)) (hi53 : I 53 = some (nI mj)) (hF : FK n f I R) (hY : SYT tx cN A I R) (hP : RPV f n E tx N I R) (hEP : EP f n E) (hN : N < 65536) (hmj : mj < 65536) (he : p0 ≤ e ∧ e ≤ n) : pt (mT g) 197 [.ref m0, .int (nI p0), .int (nI e)] M (fun v M' => (∃  (I' : rI) (R' : rR), (¬ s_fe f 9 p0 e = some e) ∧ v = some (.int 30) ∧ RS g m0 q z I' R' M' ∧ eqI [47, 48, 72] I I' ∧ eqR [] R R') ∨ (∃  (I' : rI) (R' : rR), (s_fe f 9 p0 e = some e) ∧ (rcS f n E t (by2 f p0) (p0 + 2) = some (37, t)) ∧ v = some (.int 37) ∧ RS g m0 q z I' R' M' ∧ eqI [47, 48, 72] I I' ∧ eqR [] R R') ∨ (∃ (y : Nat) (I' : rI) (R' : rR), (s_fe f 9 p0 e = some e) ∧ (rcS f n E t (by2 f p0) (p0 + 2) = some (28, y)) ∧ v = some (.int (-1)) ∧ RS g m0 q z I' R' M' ∧ eqI [47, 48, 72] I I' ∧ eqR [] R R' ∧ I' 47 = some 28 ∧ I' 48 = some (nI y)) ∨ (∃  (I' : rI) (R' : rR), (s_fe f 9 p0 e = some e) ∧ (rcS f n E t (by2 f p0) (p0 + 2) = none) ∧ v = some (.int 0) ∧ RS g m0 q z I' R' M' ∧ eqI [47, 48, 72] I I' ∧ eqR [] R R' ∧ I' 72 = some (nI (by2 f p0)))) := by
  refine pt_in (b := mb_197 g) rfl (fun kf => ?_)
  show pl (mT g) kf (mb_197 g).2 (0, [(0, .ref m0), (1, .int (nI p0)), (2, .int (nI e))], [], M) _
  have hEI : eqI [47, 48, 72] I I := eqI.rf
  have hER : eqR [] R R := eqR.rf
  have hn := hF.1
  have LL : ∀ (kf : Nat), (∀ (i p : Nat) (M1 : mi_H) (I1 : rI) (R1 : rR), (RS g m0 q z I1 R1 M1) → (eqI [47, 48, 72] I I1) → (eqR [] R R1) → (I1 51 = some 0) → (I1 52 = some (nI N)) → (I1 53 = some (nI mj)) → (FK n f I1 R1) → (SYT tx cN A I1 R1) → (RPV f n E tx N I1 R1) → (p0 + 2 ≤ e) → (i ≤ by2 f p0) → (p0 + 2 ≤ p ∧ p ≤ e) → (s_rcE f e (by2 f p0 - i) p = s_rcE f e (by2 f p0) (p0 + 2)) →  pl (mT g) kf (mb_197 g).2 (24, [(0, .ref m0), (1, .int (nI p0)), (2, .int (nI e)), (3, .int (nI (by2 f p0))), (4, .int (nI p)), (5, .int (nI i))], [], M1) (fun v M' => (∃  (I' : rI) (R' : rR), (¬ s_fe f 9 p0 e = some e) ∧ v = some (.int 30) ∧ RS g m0 q z I' R' M' ∧ eqI [47, 48, 72] I I' ∧ eqR [] R R') ∨ (∃  (I' : rI) (R' : rR), (s_fe f 9 p0 e = some e) ∧ (rcS f n E t (by2 f p0) (p0 + 2) = some (37, t)) ∧ v = some (.int 37) ∧ RS g m0 q z I' R' M' ∧ eqI [47, 48, 72] I I' ∧ eqR [] R R') ∨ (∃ (y : Nat) (I' : rI) (R' : rR), (s_fe f 9 p0 e = some e) ∧ (rcS f n E t (by2 f p0) (p0 + 2) = some (28, y)) ∧ v = some (.int (-1)) ∧ RS g m0 q z I' R' M' ∧ eqI [47, 48, 72] I I' ∧ eqR [] R R' ∧ I' 47 = some 28 ∧ I' 48 = some (nI y)) ∨ (∃  (I' : rI) (R' : rR), (s_fe f 9 p0 e = some e) ∧ (rcS f n E t (by2 f p0) (p0 + 2) = none) ∧ v = some (.int 0) ∧ RS g m0 q z I' R' M' ∧ eqI [47, 48, 72] I I' ∧ eqR [] R R' ∧ I' 72 = some (nI (by2 f p0))))) ∧ (∀ (i p j y : Nat) (M1 : mi_H) (I1 : rI) (R1 : rR), (RS g m0 q z I1 R1 M1) → (eqI [47, 48, 72] I I1) → (eqR [] R R1) → (I1 51 = some 0) → (I1 52 = some (nI N)) → (I1 53 = some (nI mj)) → (FK n f I1 R1) → (SYT tx cN A I1 R1) → (RPV f n E tx N I1 R1) → (p0 + 2 ≤ e) → (i < by2 f p0) → (j ≤ by2 f (p + 4)) → (p0 + 2 ≤ p ∧ p + 6 ≤ y ∧ y ≤ e) → (s_rcE f e (by2 f p0 - i) p = s_rcE f e (by2 f p0) (p0 + 2)) → (s_atE f e (by2 f (p + 4) - j) y = s_atE f e (by2 f (p + 4)) (p + 6)) →  pl (mT g) kf (mb_197 g).2 (58, [(0, .ref m0), (1, .int (nI p0)), (2, .int (nI e)), (3, .int (nI (by2 f p0))), (4, .int (nI y)), (5, .int (nI i)), (6, .int (nI (by2 f (p + 4)))), (7, .int (nI j))], [], M1) (fun v M' => (∃  (I' : rI) (R' : rR), (¬ s_fe f 9 p0 e = some e) ∧ v = some (.int 30) ∧ RS g m0 q z I' R' M' ∧ eqI [47, 48, 72] I I' ∧ eqR [] R R') ∨ (∃  (I' : rI) (R' : rR), (s_fe f 9 p0 e = some e) ∧ (rcS f n E t (by2 f p0) (p0 + 2) = some (37, t)) ∧ v = some (.int 37) ∧ RS g m0 q z I' R' M' ∧ eqI [47, 48, 72] I I' ∧ eqR [] R R') ∨ (∃ (y : Nat) (I' : rI) (R' : rR), (s_fe f 9 p0 e = some e) ∧ (rcS f n E t (by2 f p0) (p0 + 2) = some (28, y)) ∧ v = some (.int (-1)) ∧ RS g m0 q z I' R' M' ∧ eqI [47, 48, 72] I I' ∧ eqR [] R R' ∧ I' 47 = some 28 ∧ I' 48 = some (nI y)) ∨ (∃  (I' : rI) (R' : rR), (s_fe f 9 p0 e = some e) ∧ (rcS f n E t (by2 f p0) (p0 + 2) = none) ∧ v = some (.int 0) ∧ RS g m0 q z I' R' M' ∧ eqI [47, 48, 72] I I' ∧ eqR [] R R' ∧ I' 72 = some (nI (by2 f p0))))) ∧ (∀ (i p : Nat) (M1 : mi_H) (I1 : rI) (R1 : rR), (RS g m0 q z I1 R1 M1) → (eqI [47, 48, 72] I I1) → (eqR [] R R1) → (I1 51 = some 0) → (I1 52 = some (nI N)) → (I1 53 = some (nI mj)) → (FK n f I1 R1) → (SYT tx cN A I1 R1) → (RPV f n E tx N I1 R1) → (s_fe f 9 p0 e = some e) → (i ≤ by2 f p0) → (s_rcE f e (by2 f p0 - i) p = some e) → (rcS f n E t (by2 f p0 - i) p = rcS f n E t (by2 f p0) (p0 + 2)) →  pl (mT g) kf (mb_197 g).2 (143, [(0, .ref m0), (3, .int (nI (by2 f p0))), (4, .int (nI p)), (5, .int (nI i))], [], M1) (fun v M' => (∃  (I' : rI) (R' : rR), (¬ s_fe f 9 p0 e = some e) ∧ v = some (.int 30) ∧ RS g m0 q z I' R' M' ∧ eqI [47, 48, 72] I I' ∧ eqR [] R R') ∨ (∃  (I' : rI) (R' : rR), (s_fe f 9 p0 e = some e) ∧ (rcS f n E t (by2 f p0) (p0 + 2) = some (37, t)) ∧ v = some (.int 37) ∧ RS g m0 q z I' R' M' ∧ eqI [47, 48, 72] I I' ∧ eqR [] R R') ∨ (∃ (y : Nat) (I' : rI) (R' : rR), (s_fe f 9 p0 e = some e) ∧ (rcS f n E t (by2 f p0) (p0 + 2) = some (28, y)) ∧ v = some (.int (-1)) ∧ RS g m0 q z I' R' M' ∧ eqI [47, 48, 72] I I' ∧ eqR [] R R' ∧ I' 47 = some 28 ∧ I' 48 = some (nI y)) ∨ (∃  (I' : rI) (R' : rR), (s_fe f 9 p0 e = some e) ∧ (rcS f n E t (by2 f p0) (p0 + 2) = none) ∧ v = some (.int 0) ∧ RS g m0 q z I' R' M' ∧ eqI [47, 48, 72] I I' ∧ eqR [] R R' ∧ I' 72 = some (nI (by2 f p0))))) ∧ (∀ (i p j y x9 : Nat) (M1 : mi_H) (I1 : rI) (R1 : rR), (RS g m0 q z I1 R1 M1) → (eqI [47, 48, 72] I I1) → (eqR [] R R1) → (I1 51 = some 0) → (I1 52 = some (nI N)) → (I1 53 = some (nI mj)) → (FK n f I1 R1) → (SYT tx cN A I1 R1) → (RPV f n E tx N I1 R1) → (s_fe f 9 p0 e = some e) → (i < by2 f p0) → (j ≤ by2 f (p + 4)) → (s_atE f e (by2 f (p + 4) - j) y = some x9) → (s_rcE f e (by2 f p0 - (i + 1)) x9 = some e) → (¬ (unqN (tX f n E (by2 f p)) = 0 ∨ fldN (tX f n E (by2 f (p + 2))) = 0)) → (rcS f n E t (by2 f p0 - i) p = rcS f n E t (by2 f p0) (p0 + 2)) → (rcA f E (by2 f (p + 4) - j) y = rcA f E (by2 f (p + 4)) (p + 6)) →  pl (mT g) kf (mb_197 g).2 (235, [(0, .ref m0), (3, .int (nI (by2 f p0))), (4, .int (nI y)), (5, .int (nI i)), (6, .int (nI (by2 f (p + 4)))), (7, .int (nI j))], [], M1) (fun v M' => (∃  (I' : rI) (R' : rR), (¬ s_fe f 9 p0 e = some e) ∧ v = some (.int 30) ∧ RS g m0 q z I' R' M' ∧ eqI [47, 48, 72] I I' ∧ eqR [] R R') ∨ (∃  (I' : rI) (R' : rR), (s_fe f 9 p0 e = some e) ∧ (rcS f n E t (by2 f p0) (p0 + 2) = some (37, t)) ∧ v = some (.int 37) ∧ RS g m0 q z I' R' M' ∧ eqI [47, 48, 72] I I' ∧ eqR [] R R') ∨ (∃ (y : Nat) (I' : rI) (R' : rR), (s_fe f 9 p0 e = some e) ∧ (rcS f n E t (by2 f p0) (p0 + 2) = some (28, y)) ∧ v = some (.int (-1)) ∧ RS g m0 q z I' R' M' ∧ eqI [47, 48, 72] I I' ∧ eqR [] R R' ∧ I' 47 = some 28 ∧ I' 48 = some (nI y)) ∨ (∃  (I' : rI) (R' : rR), (s_fe f 9 p0 e = some e) ∧ (rcS f n E t (by2 f p0) (p0 + 2) = none) ∧ v = some (.int 0) ∧ RS g m0 q z I' R' M' ∧ eqI [47, 48, 72] I I' ∧ eqR [] R R' ∧ I' 72 = some (nI (by2 f p0))))) := by
    intro kf
    induction kf with
    | zero => exact ⟨by intros; exact pl_0, by intros; exact pl_0, by intros; exact pl_0, by intros; exact pl_0⟩
    | succ kf ih =>
      refine ⟨?_, ?_, ?_, ?_⟩
      · skip
        intro i p M1 I1 R1 hR1 hEI1 hER1 hl51 hl52 hl53 hF1 hY1 hP1 h2 hi hp hs
        have hn := hF1.1
        have hu9 := by2_lt f p0
        refine ps_st1 (S' := (26, [(0, .ref m0), (1, .int (nI p0)), (2, .int (nI e)), (3, .int (nI (by2 f p0))), (4, .int (nI p)), (5, .int (nI i))], [.int (nI i)], M1)) rfl rfl rfl ?_
        refine ps_st (S' := (27, [(0, .ref m0), (1, .int (nI p0)), (2, .int (nI e)), (3, .int (nI (by2 f p0))), (4, .int (nI p)), (5, .int (nI i))], [.int (nI (by2 f p0)), .int (nI i)], M1)) rfl rfl rfl ?_
        refine ps_if2 (S1 := (126, [(0, .ref m0), (1, .int (nI p0)), (2, .int (nI e)), (3, .int (nI (by2 f p0))), (4, .int (nI p)), (5, .int (nI i))], [], M1)) (S2 := (30, [(0, .ref m0), (1, .int (nI p0)), (2, .int (nI e)), (3, .int (nI (by2 f p0))), (4, .int (nI p)), (5, .int (nI i))], [], M1)) rfl rfl rfl (fun c_27 => ?_) (fun c_27 => ?_)
        · have c_27 : (nI (by2 f p0)) ≤ (nI i) := of_decide_eq_true c_27
          have n_27 : by2 f p0 ≤ i := (le_nI (p := by2 f p0) (n := i) (Nat.lt_trans (by2_lt _ _) (by decide)) (by omega)).mp c_27
          refine ps_st (S' := (128, [(0, .ref m0), (1, .int (nI p0)), (2, .int (nI e)), (3, .int (nI (by2 f p0))), (4, .int (nI p)), (5, .int (nI i))], [.int (nI p)], M1)) rfl rfl rfl ?_
          refine ps_st (S' := (129, [(0, .ref m0), (1, .int (nI p0)), (2, .int (nI e)), (3, .int (nI (by2 f p0))), (4, .int (nI p)), (5, .int (nI i))], [.int (nI e), .int (nI p)], M1)) rfl rfl rfl ?_
          refine ps_if2 (S1 := (135, [(0, .ref m0), (1, .int (nI p0)), (2, .int (nI e)), (3, .int (nI (by2 f p0))), (4, .int (nI p)), (5, .int (nI i))], [], M1)) (S2 := (132, [(0, .ref m0), (1, .int (nI p0)), (2, .int (nI e)), (3, .int (nI (by2 f p0))), (4, .int (nI p)), (5, .int (nI i))], [], M1)) rfl rfl rfl (fun c_129 => ?_) (fun c_129 => ?_)
          · have c_129 : (nI p) = (nI e) := of_decide_eq_true c_129
            have n_129 : p = e := (eq_nI (p := p) (n := e) (by omega) (by omega)).mp c_129
            refine ps_st (S' := (136, [(0, .ref m0), (1, .int (nI p0)), (2, .int (nI e)), (3, .int (nI (by2 f p0))), (4, .int (nI p)), (5, .int (nI i))], [.int (nI p0)], M1)) rfl rfl rfl ?_
            refine ps_st (S' := (137, [(0, .ref m0), (1, .int (nI p0)), (2, .int (nI e)), (3, .int (nI (by2 f p0))), (4, .int (nI p)), (5, .int (nI i))], [.int 2, .int (nI p0)], M1)) rfl rfl rfl ?_
            refine ps_st (S' := (138, [(0, .ref m0), (1, .int (nI p0)), (2, .int (nI e)), (3, .int (nI (by2 f p0))), (4, .int (nI p)), (5, .int (nI i))], [.int ((nI p0) + 2)], M1)) rfl rfl rfl ?_
            rw [nI_add1 (p := p0) (k := 2) (x := 2) rfl (by omega)]
            show pl _ _ _ (_, [(0, .ref m0), (1, .int (nI p0)), (2, .int (nI e)), (3, .int (nI (by2 f p0))), (4, .int (nI p)), (5, .int (nI i))], [.int (nI (p0 + 2))], M1) _
            refine ps_st (S' := (140, [(4, .int (nI (p0 + 2))), (0, .ref m0), (1, .int (nI p0)), (2, .int (nI e)), (3, .int (nI (by2 f p0))), (5, .int (nI i))], [], M1)) rfl rfl rfl ?_
            refine ps_st (S' := (141, [(4, .int (nI (p0 + 2))), (0, .ref m0), (1, .int (nI p0)), (2, .int (nI e)), (3, .int (nI (by2 f p0))), (5, .int (nI i))], [.int 0], M1)) rfl rfl rfl ?_
            refine ps_st (S' := (143, [(0, .ref m0), (3, .int (nI (by2 f p0))), (4, .int (nI (p0 + 2))), (5, .int 0)], [], M1)) rfl rfl rfl ?_
            exact ih.2.2.1 (0) (p0 + 2) M1 I1 R1 hR1 hEI1 hER1 hl51 hl52 hl53 hF1 hY1 hP1 (by
                rw [fe_9 h2, ← hs, show by2 f p0 - i = 0 by omega, show p = e by omega]
                rfl) (by omega) (by
                rw [show by2 f p0 - 0 = by2 f p0 from rfl, ← hs, show by2 f p0 - i = 0 by omega, show p = e by omega]
                rfl) (rfl)
          · have c_129 : ¬ ((nI p) = (nI e)) := of_decide_eq_false c_129
            have n_129 : ¬ (p = e) := fun h9 => c_129 ((eq_nI (p := p) (n := e) (by omega) (by omega)).mpr h9)
            refine ps_st (S' := (134, [(0, .ref m0), (1, .int (nI p0)), (2, .int (nI e)), (3, .int (nI (by2 f p0))), (4, .int (nI p)), (5, .int (nI i))], [.int 30], M1)) rfl rfl rfl ?_
            exact ps_ret rfl rfl (Or.inl ⟨I1, R1, by
                rw [fe_9 h2, ← hs, show by2 f p0 - i = 0 by omega]
                exact fun h9 => n_129 (Option.some.inj h9), rfl, hR1, hEI1, hER1⟩)
        · have c_27 : ¬ ((nI (by2 f p0)) ≤ (nI i)) := of_decide_eq_false c_27
          have n_27 : ¬ (by2 f p0 ≤ i) := fun h9 => c_27 ((le_nI (p := by2 f p0) (n := i) (Nat.lt_trans (by2_lt _ _) (by decide)) (by omega)).mpr h9)
          refine ps_st (S' := (32, [(0, .ref m0), (1, .int (nI p0)), (2, .int (nI e)), (3, .int (nI (by2 f p0))), (4, .int (nI p)), (5, .int (nI i))], [.int (nI p)], M1)) rfl rfl rfl ?_
          refine ps_st (S' := (34, [(0, .ref m0), (1, .int (nI p0)), (2, .int (nI e)), (3, .int (nI (by2 f p0))), (4, .int (nI p)), (5, .int (nI i))], [.int 6, .int (nI p)], M1)) rfl rfl rfl ?_
          refine ps_st (S' := (35, [(0, .ref m0), (1, .int (nI p0)), (2, .int (nI e)), (3, .int (nI (by2 f p0))), (4, .int (nI p)), (5, .int (nI i))], [.int ((nI p) + 6)], M1)) rfl rfl rfl ?_
          rw [nI_add1 (p := p) (k := 6) (x := 6) rfl (by omega)]
          show pl _ _ _ (_, [(0, .ref m0), (1, .int (nI p0)), (2, .int (nI e)), (3, .int (nI (by2 f p0))), (4, .int (nI p)), (5, .int (nI i))], [.int (nI (p + 6))], M1) _
          refine ps_st (S' := (36, [(0, .ref m0), (1, .int (nI p0)), (2, .int (nI e)), (3, .int (nI (by2 f p0))), (4, .int (nI p)), (5, .int (nI i))], [.int (nI e), .int (nI (p + 6))], M1)) rfl rfl rfl ?_
          refine ps_if2 (S1 := (42, [(0, .ref m0), (1, .int (nI p0)), (2, .int (nI e)), (3, .int (nI (by2 f p0))), (4, .int (nI p)), (5, .int (nI i))], [], M1)) (S2 := (39, [(0, .ref m0), (1, .int (nI p0)), (2, .int (nI e)), (3, .int (nI (by2 f p0))), (4, .int (nI p)), (5, .int (nI i))], [], M1)) rfl rfl rfl (fun c_36 => ?_) (fun c_36 => ?_)
          · have c_36 : (nI (p + 6)) ≤ (nI e) := of_decide_eq_true c_36
            have n_36 : p + 6 ≤ e := (le_nI (p := p + 6) (n := e) (by omega) (by omega)).mp c_36
            refine ps_st (S' := (43, [(0, .ref m0), (1, .int (nI p0)), (2, .int (nI e)), (3, .int (nI (by2 f p0))), (4, .int (nI p)), (5, .int (nI i))], [.ref m0], M1)) rfl rfl rfl ?_
            refine ps_st (S' := (45, [(0, .ref m0), (1, .int (nI p0)), (2, .int (nI e)), (3, .int (nI (by2 f p0))), (4, .int (nI p)), (5, .int (nI i))], [.int (nI p), .ref m0], M1)) rfl rfl rfl ?_
            refine ps_st (S' := (46, [(0, .ref m0), (1, .int (nI p0)), (2, .int (nI e)), (3, .int (nI (by2 f p0))), (4, .int (nI p)), (5, .int (nI i))], [.int 4, .int (nI p), .ref m0], M1)) rfl rfl rfl ?_
            refine ps_st (S' := (47, [(0, .ref m0), (1, .int (nI p0)), (2, .int (nI e)), (3, .int (nI (by2 f p0))), (4, .int (nI p)), (5, .int (nI i))], [.int ((nI p) + 4), .ref m0], M1)) rfl rfl rfl ?_
            rw [nI_add1 (p := p) (k := 4) (x := 4) rfl (by omega)]
            show pl _ _ _ (_, [(0, .ref m0), (1, .int (nI p0)), (2, .int (nI e)), (3, .int (nI (by2 f p0))), (4, .int (nI p)), (5, .int (nI i))], [.int (nI (p + 4)), .ref m0], M1) _
            refine pl_call (a := [.ref m0, .int (nI (p + 4))]) (rest := []) rfl rfl rfl (rd_u2 (n := n) (f := f) (p := (p + 4)) hR1 hF1 (by omega)) (fun v1 M2 q3 => ?_)
            obtain ⟨rfl, rfl⟩ := q3
            show pl _ _ _ (50, [(0, .ref m0), (1, .int (nI p0)), (2, .int (nI e)), (3, .int (nI (by2 f p0))), (4, .int (nI p)), (5, .int (nI i))], [.int (nI (by2 f (p + 4)))], M1) _
            have hu_47 := by2_lt f (p + 4)
            refine ps_st (S' := (52, [(6, .int (nI (by2 f (p + 4)))), (0, .ref m0), (1, .int (nI p0)), (2, .int (nI e)), (3, .int (nI (by2 f p0))), (4, .int (nI p)), (5, .int (nI i))], [], M1)) rfl rfl rfl ?_
            refine ps_st (S' := (55, [(4, .int ((nI p) + 6)), (6, .int (nI (by2 f (p + 4)))), (0, .ref m0), (1, .int (nI p0)), (2, .int (nI e)), (3, .int (nI (by2 f p0))), (5, .int (nI i))], [], M1)) rfl rfl rfl ?_
            rw [nI_add1 (p := p) (k := 6) (x := 6) rfl (by omega)]
            show pl _ _ _ (_, [(4, .int (nI (p + 6))), (6, .int (nI (by2 f (p + 4)))), (0, .ref m0), (1, .int (nI p0)), (2, .int (nI e)), (3, .int (nI (by2 f p0))), (5, .int (nI i))], [], M1) _
            refine ps_st (S' := (56, [(4, .int (nI (p + 6))), (6, .int (nI (by2 f (p + 4)))), (0, .ref m0), (1, .int (nI p0)), (2, .int (nI e)), (3, .int (nI (by2 f p0))), (5, .int (nI i))], [.int 0], M1)) rfl rfl rfl ?_
            refine ps_st (S' := (58, [(0, .ref m0), (1, .int (nI p0)), (2, .int (nI e)), (3, .int (nI (by2 f p0))), (4, .int (nI (p + 6))), (5, .int (nI i)), (6, .int (nI (by2 f (p + 4)))), (7, .int 0)], [], M1)) rfl rfl rfl ?_
            exact ih.2.1 (i) (p) (0) (p + 6) M1 I1 R1 hR1 hEI1 hER1 hl51 hl52 hl53 hF1 hY1 hP1 (h2) (by omega) (by omega) (by omega) (hs) (rfl)
          · have c_36 : ¬ ((nI (p + 6)) ≤ (nI e)) := of_decide_eq_false c_36
            have n_36 : ¬ (p + 6 ≤ e) := fun h9 => c_36 ((le_nI (p := p + 6) (n := e) (by omega) (by omega)).mpr h9)
            refine ps_st (S' := (41, [(0, .ref m0), (1, .int (nI p0)), (2, .int (nI e)), (3, .int (nI (by2 f p0))), (4, .int (nI p)), (5, .int (nI i))], [.int 30], M1)) rfl rfl rfl ?_
            exact ps_ret rfl rfl (Or.inl ⟨I1, R1, by
                rw [fe_9 h2, ← hs, s_rcE_st (i := i) (p := p) (by omega), if_pos (by omega)]
                exact (fun h9 => (by cases h9)), rfl, hR1, hEI1, hER1⟩)
      · skip
        intro i p j y M1 I1 R1 hR1 hEI1 hER1 hl51 hl52 hl53 hF1 hY1 hP1 h2 hi hj hp hs hg
        have hn := hF1.1
        have hu9 := by2_lt f p0
        have hu8 := by2_lt f (p + 4)
        refine ps_st1 (S' := (60, [(0, .ref m0), (1, .int (nI p0)), (2, .int (nI e)), (3, .int (nI (by2 f p0))), (4, .int (nI y)), (5, .int (nI i)), (6, .int (nI (by2 f (p + 4)))), (7, .int (nI j))], [.int (nI j)], M1)) rfl rfl rfl ?_
        refine ps_st (S' := (62, [(0, .ref m0), (1, .int (nI p0)), (2, .int (nI e)), (3, .int (nI (by2 f p0))), (4, .int (nI y)), (5, .int (nI i)), (6, .int (nI (by2 f (p + 4)))), (7, .int (nI j))], [.int (nI (by2 f (p + 4))), .int (nI j)], M1)) rfl rfl rfl ?_
        refine ps_if2 (S1 := (120, [(0, .ref m0), (1, .int (nI p0)), (2, .int (nI e)), (3, .int (nI (by2 f p0))), (4, .int (nI y)), (5, .int (nI i)), (6, .int (nI (by2 f (p + 4)))), (7, .int (nI j))], [], M1)) (S2 := (65, [(0, .ref m0), (1, .int (nI p0)), (2, .int (nI e)), (3, .int (nI (by2 f p0))), (4, .int (nI y)), (5, .int (nI i)), (6, .int (nI (by2 f (p + 4)))), (7, .int (nI j))], [], M1)) rfl rfl rfl (fun c_62 => ?_) (fun c_62 => ?_)
        · have c_62 : (nI (by2 f (p + 4))) ≤ (nI j) := of_decide_eq_true c_62
          have n_62 : by2 f (p + 4) ≤ j := (le_nI (p := by2 f (p + 4)) (n := j) (Nat.lt_trans (by2_lt _ _) (by decide)) (by omega)).mp c_62
          refine ps_st (S' := (123, [(5, .int ((nI i) + 1)), (0, .ref m0), (1, .int (nI p0)), (2, .int (nI e)), (3, .int (nI (by2 f p0))), (4, .int (nI y)), (6, .int (nI (by2 f (p + 4)))), (7, .int (nI j))], [], M1)) rfl rfl rfl ?_
          rw [nI_add1 (p := i) (k := 1) (x := 1) rfl (by omega)]
          show pl _ _ _ (_, [(5, .int (nI (i + 1))), (0, .ref m0), (1, .int (nI p0)), (2, .int (nI e)), (3, .int (nI (by2 f p0))), (4, .int (nI y)), (6, .int (nI (by2 f (p + 4)))), (7, .int (nI j))], [], M1) _
          refine ps_st (S' := (24, [(0, .ref m0), (1, .int (nI p0)), (2, .int (nI e)), (3, .int (nI (by2 f p0))), (4, .int (nI y)), (5, .int (nI (i + 1)))], [], M1)) rfl rfl rfl ?_
          exact ih.1 (i + 1) (y) M1 I1 R1 hR1 hEI1 hER1 hl51 hl52 hl53 hF1 hY1 hP1 (h2) (by omega) (by omega) (by
              rw [← hs, s_rcE_st (i := i) (p := p) (by omega), if_neg (by omega), ← hg, show by2 f (p + 4) - j = 0 by omega]
              rfl)
        · have c_62 : ¬ ((nI (by2 f (p + 4))) ≤ (nI j)) := of_decide_eq_false c_62
          have n_62 : ¬ (by2 f (p + 4) ≤ j) := fun h9 => c_62 ((le_nI (p := by2 f (p + 4)) (n := j) (Nat.lt_trans (by2_lt _ _) (by decide)) (by omega)).mpr h9)
          refine ps_st (S' := (67, [(0, .ref m0), (1, .int (nI p0)), (2, .int (nI e)), (3, .int (nI (by2 f p0))), (4, .int (nI y)), (5, .int (nI i)), (6, .int (nI (by2 f (p + 4)))), (7, .int (nI j))], [.int (nI y)], M1)) rfl rfl rfl ?_
          refine ps_st (S' := (69, [(0, .ref m0), (1, .int (nI p0)), (2, .int (nI e)), (3, .int (nI (by2 f p0))), (4, .int (nI y)), (5, .int (nI i)), (6, .int (nI (by2 f (p + 4)))), (7, .int (nI j))], [.int 6, .int (nI y)], M1)) rfl rfl rfl ?_
          refine ps_st (S' := (70, [(0, .ref m0), (1, .int (nI p0)), (2, .int (nI e)), (3, .int (nI (by2 f p0))), (4, .int (nI y)), (5, .int (nI i)), (6, .int (nI (by2 f (p + 4)))), (7, .int (nI j))], [.int ((nI y) + 6)], M1)) rfl rfl rfl ?_
          rw [nI_add1 (p := y) (k := 6) (x := 6) rfl (by omega)]
          show pl _ _ _ (_, [(0, .ref m0), (1, .int (nI p0)), (2, .int (nI e)), (3, .int (nI (by2 f p0))), (4, .int (nI y)), (5, .int (nI i)), (6, .int (nI (by2 f (p + 4)))), (7, .int (nI j))], [.int (nI (y + 6))], M1) _
          refine ps_st (S' := (71, [(0, .ref m0), (1, .int (nI p0)), (2, .int (nI e)), (3, .int (nI (by2 f p0))), (4, .int (nI y)), (5, .int (nI i)), (6, .int (nI (by2 f (p + 4)))), (7, .int (nI j))], [.int (nI e), .int (nI (y + 6))], M1)) rfl rfl rfl ?_
          refine ps_if2 (S1 := (94, [], [], M1)) (S2 := (74, [(0, .ref m0), (1, .int (nI p0)), (2, .int (nI e)), (3, .int (nI (by2 f p0))), (4, .int (nI y)), (5, .int (nI i)), (6, .int (nI (by2 f (p + 4)))), (7, .int (nI j))], [], M1)) rfl rfl rfl (fun c_71 => ?_) (fun c_71 => ?_)
          · have c_71 : (nI e) < (nI (y + 6)) := of_decide_eq_true c_71
            have n_71 : e < y + 6 := (lt_nI (p := e) (n := y + 6) (by omega) (by omega)).mp c_71
            refine ps_st (S' := (96, [], [.int 30], M1)) rfl rfl rfl ?_
            exact ps_ret rfl rfl (Or.inl ⟨I1, R1, by
                rw [fe_9 h2, ← hs, s_rcE_st (i := i) (p := p) (by omega), if_neg (by omega), ← hg, s_atE_st (i := j) (p := y) (by omega)]
                rw [if_pos (by omega)]
                exact (fun h9 => (by cases h9)), rfl, hR1, hEI1, hER1⟩)
          · have c_71 : ¬ ((nI e) < (nI (y + 6))) := of_decide_eq_false c_71
            have n_71 : ¬ (e < y + 6) := fun h9 => c_71 ((lt_nI (p := e) (n := y + 6) (by omega) (by omega)).mpr h9)
            refine ps_st (S' := (75, [(0, .ref m0), (1, .int (nI p0)), (2, .int (nI e)), (3, .int (nI (by2 f p0))), (4, .int (nI y)), (5, .int (nI i)), (6, .int (nI (by2 f (p + 4)))), (7, .int (nI j))], [.ref m0], M1)) rfl rfl rfl ?_
            refine ps_st (S' := (77, [(0, .ref m0), (1, .int (nI p0)), (2, .int (nI e)), (3, .int (nI (by2 f p0))), (4, .int (nI y)), (5, .int (nI i)), (6, .int (nI (by2 f (p + 4)))), (7, .int (nI j))], [.int (nI y), .ref m0], M1)) rfl rfl rfl ?_
            refine ps_st (S' := (78, [(0, .ref m0), (1, .int (nI p0)), (2, .int (nI e)), (3, .int (nI (by2 f p0))), (4, .int (nI y)), (5, .int (nI i)), (6, .int (nI (by2 f (p + 4)))), (7, .int (nI j))], [.int 2, .int (nI y), .ref m0], M1)) rfl rfl rfl ?_
            refine ps_st (S' := (79, [(0, .ref m0), (1, .int (nI p0)), (2, .int (nI e)), (3, .int (nI (by2 f p0))), (4, .int (nI y)), (5, .int (nI i)), (6, .int (nI (by2 f (p + 4)))), (7, .int (nI j))], [.int ((nI y) + 2), .ref m0], M1)) rfl rfl rfl ?_
            rw [nI_add1 (p := y) (k := 2) (x := 2) rfl (by omega)]
            show pl _ _ _ (_, [(0, .ref m0), (1, .int (nI p0)), (2, .int (nI e)), (3, .int (nI (by2 f p0))), (4, .int (nI y)), (5, .int (nI i)), (6, .int (nI (by2 f (p + 4)))), (7, .int (nI j))], [.int (nI (y + 2)), .ref m0], M1) _
            refine pl_call (a := [.ref m0, .int (nI (y + 2))]) (rest := []) rfl rfl rfl (rd_u4 (n := n) (f := f) (p := (y + 2)) hR1 hF1 (by omega)) (fun v4 M5 q6 => ?_)
            obtain ⟨rfl, rfl⟩ := q6
            show pl _ _ _ (82, [(0, .ref m0), (1, .int (nI p0)), (2, .int (nI e)), (3, .int (nI (by2 f p0))), (4, .int (nI y)), (5, .int (nI i)), (6, .int (nI (by2 f (p + 4)))), (7, .int (nI j))], [.long (nL (by4 f (y + 2)))], M1) _
            have hu_79 := by4_lt f (y + 2)
            refine ps_st (S' := (83, [(0, .ref m0), (1, .int (nI p0)), (2, .int (nI e)), (3, .int (nI (by2 f p0))), (4, .int (nI y)), (5, .int (nI i)), (6, .int (nI (by2 f (p + 4)))), (7, .int (nI j))], [.int (nI e), .long (nL (by4 f (y + 2)))], M1)) rfl rfl rfl ?_
            refine ps_st (S' := (85, [(0, .ref m0), (1, .int (nI p0)), (2, .int (nI e)), (3, .int (nI (by2 f p0))), (4, .int (nI y)), (5, .int (nI i)), (6, .int (nI (by2 f (p + 4)))), (7, .int (nI j))], [.int (nI y), .int (nI e), .long (nL (by4 f (y + 2)))], M1)) rfl rfl rfl ?_
            refine ps_st (S' := (86, [(0, .ref m0), (1, .int (nI p0)), (2, .int (nI e)), (3, .int (nI (by2 f p0))), (4, .int (nI y)), (5, .int (nI i)), (6, .int (nI (by2 f (p + 4)))), (7, .int (nI j))], [.int ((nI e) - (nI y)), .long (nL (by4 f (y + 2)))], M1)) rfl rfl rfl ?_
            rw [nI_sub1 (p := e) (k := y) (x := (nI y)) rfl (by omega) (by omega)]
            show pl _ _ _ (_, [(0, .ref m0), (1, .int (nI p0)), (2, .int (nI e)), (3, .int (nI (by2 f p0))), (4, .int (nI y)), (5, .int (nI i)), (6, .int (nI (by2 f (p + 4)))), (7, .int (nI j))], [.int (nI (e - y)), .long (nL (by4 f (y + 2)))], M1) _
            refine ps_st (S' := (88, [(0, .ref m0), (1, .int (nI p0)), (2, .int (nI e)), (3, .int (nI (by2 f p0))), (4, .int (nI y)), (5, .int (nI i)), (6, .int (nI (by2 f (p + 4)))), (7, .int (nI j))], [.int 6, .int (nI (e - y)), .long (nL (by4 f (y + 2)))], M1)) rfl rfl rfl ?_
            refine ps_st (S' := (89, [(0, .ref m0), (1, .int (nI p0)), (2, .int (nI e)), (3, .int (nI (by2 f p0))), (4, .int (nI y)), (5, .int (nI i)), (6, .int (nI (by2 f (p + 4)))), (7, .int (nI j))], [.int ((nI (e - y)) - 6), .long (nL (by4 f (y + 2)))], M1)) rfl rfl rfl ?_
            rw [nI_sub1 (p := e - y) (k := 6) (x := 6) rfl (by omega) (by omega)]
            show pl _ _ _ (_, [(0, .ref m0), (1, .int (nI p0)), (2, .int (nI e)), (3, .int (nI (by2 f p0))), (4, .int (nI y)), (5, .int (nI i)), (6, .int (nI (by2 f (p + 4)))), (7, .int (nI j))], [.int (nI ((e - y) - 6)), .long (nL (by4 f (y + 2)))], M1) _
            refine ps_st (S' := (90, [(0, .ref m0), (1, .int (nI p0)), (2, .int (nI e)), (3, .int (nI (by2 f p0))), (4, .int (nI y)), (5, .int (nI i)), (6, .int (nI (by2 f (p + 4)))), (7, .int (nI j))], [.long (Int32.toInt64 (nI ((e - y) - 6))), .long (nL (by4 f (y + 2)))], M1)) rfl rfl rfl ?_
            rw [i2l_nL (p := (e - y) - 6) (by omega)]
            show pl _ _ _ (_, [(0, .ref m0), (1, .int (nI p0)), (2, .int (nI e)), (3, .int (nI (by2 f p0))), (4, .int (nI y)), (5, .int (nI i)), (6, .int (nI (by2 f (p + 4)))), (7, .int (nI j))], [.long (nL ((e - y) - 6)), .long (nL (by4 f (y + 2)))], M1) _
            refine ps_st (S' := (91, [(0, .ref m0), (1, .int (nI p0)), (2, .int (nI e)), (3, .int (nI (by2 f p0))), (4, .int (nI y)), (5, .int (nI i)), (6, .int (nI (by2 f (p + 4)))), (7, .int (nI j))], [.int (lg_cmp (nL (by4 f (y + 2))) (nL ((e - y) - 6)))], M1)) rfl rfl rfl ?_
            refine ps_if (S1 := (97, [(0, .ref m0), (1, .int (nI p0)), (2, .int (nI e)), (3, .int (nI (by2 f p0))), (4, .int (nI y)), (5, .int (nI i)), (6, .int (nI (by2 f (p + 4)))), (7, .int (nI j))], [], M1)) (S2 := (94, [], [], M1)) rfl rfl rfl (fun c_91 => ?_) (fun c_91 => ?_)
            · have n_91 : by4 f (y + 2) ≤ (e - y) - 6 := (cL_le (p := by4 f (y + 2)) (k := (e - y) - 6) (x := (nL (by4 f (y + 2)))) (y := (nL ((e - y) - 6))) rfl rfl (by omega) (by omega)).mp (of_decide_eq_true c_91)
              refine ps_st (S' := (99, [(0, .ref m0), (1, .int (nI p0)), (2, .int (nI e)), (3, .int (nI (by2 f p0))), (4, .int (nI y)), (5, .int (nI i)), (6, .int (nI (by2 f (p + 4)))), (7, .int (nI j))], [.int (nI y)], M1)) rfl rfl rfl ?_
              refine ps_st (S' := (101, [(0, .ref m0), (1, .int (nI p0)), (2, .int (nI e)), (3, .int (nI (by2 f p0))), (4, .int (nI y)), (5, .int (nI i)), (6, .int (nI (by2 f (p + 4)))), (7, .int (nI j))], [.int 6, .int (nI y)], M1)) rfl rfl rfl ?_
              refine ps_st (S' := (102, [(0, .ref m0), (1, .int (nI p0)), (2, .int (nI e)), (3, .int (nI (by2 f p0))), (4, .int (nI y)), (5, .int (nI i)), (6, .int (nI (by2 f (p + 4)))), (7, .int (nI j))], [.ref m0, .int 6, .int (nI y)], M1)) rfl rfl rfl ?_
              refine ps_st (S' := (104, [(0, .ref m0), (1, .int (nI p0)), (2, .int (nI e)), (3, .int (nI (by2 f p0))), (4, .int (nI y)), (5, .int (nI i)), (6, .int (nI (by2 f (p + 4)))), (7, .int (nI j))], [.int (nI y), .ref m0, .int 6, .int (nI y)], M1)) rfl rfl rfl ?_
              refine ps_st (S' := (105, [(0, .ref m0), (1, .int (nI p0)), (2, .int (nI e)), (3, .int (nI (by2 f p0))), (4, .int (nI y)), (5, .int (nI i)), (6, .int (nI (by2 f (p + 4)))), (7, .int (nI j))], [.int 2, .int (nI y), .ref m0, .int 6, .int (nI y)], M1)) rfl rfl rfl ?_
              refine ps_st (S' := (106, [(0, .ref m0), (1, .int (nI p0)), (2, .int (nI e)), (3, .int (nI (by2 f p0))), (4, .int (nI y)), (5, .int (nI i)), (6, .int (nI (by2 f (p + 4)))), (7, .int (nI j))], [.int ((nI y) + 2), .ref m0, .int 6, .int (nI y)], M1)) rfl rfl rfl ?_
              rw [nI_add1 (p := y) (k := 2) (x := 2) rfl (by omega)]
              show pl _ _ _ (_, [(0, .ref m0), (1, .int (nI p0)), (2, .int (nI e)), (3, .int (nI (by2 f p0))), (4, .int (nI y)), (5, .int (nI i)), (6, .int (nI (by2 f (p + 4)))), (7, .int (nI j))], [.int (nI (y + 2)), .ref m0, .int 6, .int (nI y)], M1) _
              refine pl_call (a := [.ref m0, .int (nI (y + 2))]) (rest := [.int 6, .int (nI y)]) rfl rfl rfl (rd_u4 (n := n) (f := f) (p := (y + 2)) hR1 hF1 (by omega)) (fun v7 M8 q9 => ?_)
              obtain ⟨rfl, rfl⟩ := q9
              show pl _ _ _ (109, [(0, .ref m0), (1, .int (nI p0)), (2, .int (nI e)), (3, .int (nI (by2 f p0))), (4, .int (nI y)), (5, .int (nI i)), (6, .int (nI (by2 f (p + 4)))), (7, .int (nI j))], [.long (nL (by4 f (y + 2))), .int 6, .int (nI y)], M1) _
              have hu_106 := by4_lt f (y + 2)
              refine ps_st (S' := (110, [(0, .ref m0), (1, .int (nI p0)), (2, .int (nI e)), (3, .int (nI (by2 f p0))), (4, .int (nI y)), (5, .int (nI i)), (6, .int (nI (by2 f (p + 4)))), (7, .int (nI j))], [.int (Int64.toInt32 (nL (by4 f (y + 2)))), .int 6, .int (nI y)], M1)) rfl rfl rfl ?_
              rw [l2i_nL (p := by4 f (y + 2)) (by omega)]
              show pl _ _ _ (_, [(0, .ref m0), (1, .int (nI p0)), (2, .int (nI e)), (3, .int (nI (by2 f p0))), (4, .int (nI y)), (5, .int (nI i)), (6, .int (nI (by2 f (p + 4)))), (7, .int (nI j))], [.int (nI (by4 f (y + 2))), .int 6, .int (nI y)], M1) _
              refine ps_st (S' := (111, [(0, .ref m0), (1, .int (nI p0)), (2, .int (nI e)), (3, .int (nI (by2 f p0))), (4, .int (nI y)), (5, .int (nI i)), (6, .int (nI (by2 f (p + 4)))), (7, .int (nI j))], [.int (6 + (nI (by4 f (y + 2)))), .int (nI y)], M1)) rfl rfl rfl ?_
              rw [nI_add2 (p := 6) (k := by4 f (y + 2)) (x := 6) (y := (nI (by4 f (y + 2)))) rfl rfl (by omega)]
              show pl _ _ _ (_, [(0, .ref m0), (1, .int (nI p0)), (2, .int (nI e)), (3, .int (nI (by2 f p0))), (4, .int (nI y)), (5, .int (nI i)), (6, .int (nI (by2 f (p + 4)))), (7, .int (nI j))], [.int (nI (6 + by4 f (y + 2))), .int (nI y)], M1) _
              refine ps_st (S' := (112, [(0, .ref m0), (1, .int (nI p0)), (2, .int (nI e)), (3, .int (nI (by2 f p0))), (4, .int (nI y)), (5, .int (nI i)), (6, .int (nI (by2 f (p + 4)))), (7, .int (nI j))], [.int ((nI y) + (nI (6 + by4 f (y + 2))))], M1)) rfl rfl rfl ?_
              rw [nI_add1 (p := y) (k := 6 + by4 f (y + 2)) (x := (nI (6 + by4 f (y + 2)))) rfl (by omega)]
              rw [show nI (y + (6 + by4 f (y + 2))) = nI (y + 6 + by4 f (y + 2)) from congrArg nI (by omega)]
              show pl _ _ _ (_, [(0, .ref m0), (1, .int (nI p0)), (2, .int (nI e)), (3, .int (nI (by2 f p0))), (4, .int (nI y)), (5, .int (nI i)), (6, .int (nI (by2 f (p + 4)))), (7, .int (nI j))], [.int (nI (y + 6 + by4 f (y + 2)))], M1) _
              refine ps_st (S' := (114, [(4, .int (nI (y + 6 + by4 f (y + 2)))), (0, .ref m0), (1, .int (nI p0)), (2, .int (nI e)), (3, .int (nI (by2 f p0))), (5, .int (nI i)), (6, .int (nI (by2 f (p + 4)))), (7, .int (nI j))], [], M1)) rfl rfl rfl ?_
              refine ps_st (S' := (117, [(7, .int ((nI j) + 1)), (4, .int (nI (y + 6 + by4 f (y + 2)))), (0, .ref m0), (1, .int (nI p0)), (2, .int (nI e)), (3, .int (nI (by2 f p0))), (5, .int (nI i)), (6, .int (nI (by2 f (p + 4))))], [], M1)) rfl rfl rfl ?_
              rw [nI_add1 (p := j) (k := 1) (x := 1) rfl (by omega)]
              show pl _ _ _ (_, [(7, .int (nI (j + 1))), (4, .int (nI (y + 6 + by4 f (y + 2)))), (0, .ref m0), (1, .int (nI p0)), (2, .int (nI e)), (3, .int (nI (by2 f p0))), (5, .int (nI i)), (6, .int (nI (by2 f (p + 4))))], [], M1) _
              refine ps_st (S' := (58, [(0, .ref m0), (1, .int (nI p0)), (2, .int (nI e)), (3, .int (nI (by2 f p0))), (4, .int (nI (y + 6 + by4 f (y + 2)))), (5, .int (nI i)), (6, .int (nI (by2 f (p + 4)))), (7, .int (nI (j + 1)))], [], M1)) rfl rfl rfl ?_
              exact ih.2.1 (i) (p) (j + 1) (y + 6 + by4 f (y + 2)) M1 I1 R1 hR1 hEI1 hER1 hl51 hl52 hl53 hF1 hY1 hP1 (h2) (hi) (by omega) (by omega) (hs) (by
                  rw [← hg, s_atE_st (i := j) (p := y) (by omega), if_neg (by omega), if_neg (by omega)])
            · have n_91 : ¬ (by4 f (y + 2) ≤ (e - y) - 6) := fun h9 => of_decide_eq_false c_91 ((cL_le (p := by4 f (y + 2)) (k := (e - y) - 6) (x := (nL (by4 f (y + 2)))) (y := (nL ((e - y) - 6))) rfl rfl (by omega) (by omega)).mpr h9)
              refine ps_st (S' := (96, [], [.int 30], M1)) rfl rfl rfl ?_
              exact ps_ret rfl rfl (Or.inl ⟨I1, R1, by
                  rw [fe_9 h2, ← hs, s_rcE_st (i := i) (p := p) (by omega), if_neg (by omega), ← hg, s_atE_st (i := j) (p := y) (by omega)]
                  rw [if_neg (by omega), if_pos (by omega)]
                  exact (fun h9 => (by cases h9)), rfl, hR1, hEI1, hER1⟩)
      · skip
        intro i p M1 I1 R1 hR1 hEI1 hER1 hl51 hl52 hl53 hF1 hY1 hP1 hfe hi hf hs
        have hn := hF1.1
        have hu9 := by2_lt f p0
        refine ps_st1 (S' := (145, [(0, .ref m0), (3, .int (nI (by2 f p0))), (4, .int (nI p)), (5, .int (nI i))], [.int (nI i)], M1)) rfl rfl rfl ?_
        refine ps_st (S' := (146, [(0, .ref m0), (3, .int (nI (by2 f p0))), (4, .int (nI p)), (5, .int (nI i))], [.int (nI (by2 f p0)), .int (nI i)], M1)) rfl rfl rfl ?_
        refine ps_if2 (S1 := (296, [(0, .ref m0), (3, .int (nI (by2 f p0))), (4, .int (nI p)), (5, .int (nI i))], [], M1)) (S2 := (149, [(0, .ref m0), (3, .int (nI (by2 f p0))), (4, .int (nI p)), (5, .int (nI i))], [], M1)) rfl rfl rfl (fun c_146 => ?_) (fun c_146 => ?_)
        · have c_146 : (nI (by2 f p0)) ≤ (nI i) := of_decide_eq_true c_146
          have n_146 : by2 f p0 ≤ i := (le_nI (p := by2 f p0) (n := i) (Nat.lt_trans (by2_lt _ _) (by decide)) (by omega)).mp c_146
          refine ps_st (S' := (297, [(0, .ref m0), (3, .int (nI (by2 f p0))), (4, .int (nI p)), (5, .int (nI i))], [.ref m0], M1)) rfl rfl rfl ?_
          refine ps_st (S' := (298, [(0, .ref m0), (3, .int (nI (by2 f p0))), (4, .int (nI p)), (5, .int (nI i))], [.int (nI (by2 f p0)), .ref m0], M1)) rfl rfl rfl ?_
          refine pr_put (j := 72) rfl hR1 rfl (fun M10 I11 hR12 hi13 hI14 => ?_)
          have hi15 := (hI14 51 (by decide)).trans hl51
          have hi16 := (hI14 52 (by decide)).trans hl52
          have hi17 := (hI14 53 (by decide)).trans hl53
          have hF_18 := hF1.mono (pIx hI14 (by decide)) (fun _ _ => rfl)
          have hY_19 := hY1.mono (pIx hI14 (by decide)) (fun _ _ => rfl)
          have hP_20 := hP1.mono (pIx hI14 (by decide)) (fun _ _ => rfl)
          have hEI21 := hEI1.put hI14 (by decide)
          show pl _ _ _ (301, [(0, .ref m0), (3, .int (nI (by2 f p0))), (4, .int (nI p)), (5, .int (nI i))], [], M10) _
          refine ps_st (S' := (302, [(0, .ref m0), (3, .int (nI (by2 f p0))), (4, .int (nI p)), (5, .int (nI i))], [.int 0], M10)) rfl rfl rfl ?_
          exact ps_ret rfl rfl (Or.inr (Or.inr (Or.inr ⟨I11, R1, hfe, by
              rw [← hs, show by2 f p0 - i = 0 by omega]
              rfl, rfl, hR12, hEI21, hER1, hi13⟩)))
        · have c_146 : ¬ ((nI (by2 f p0)) ≤ (nI i)) := of_decide_eq_false c_146
          have n_146 : ¬ (by2 f p0 ≤ i) := fun h9 => c_146 ((le_nI (p := by2 f p0) (n := i) (Nat.lt_trans (by2_lt _ _) (by decide)) (by omega)).mpr h9)
          obtain ⟨hq5, y9, hq6, hq7⟩ := s_rcE_in (i := i) (p := p) hf (by omega)
          refine ps_st (S' := (150, [(0, .ref m0), (3, .int (nI (by2 f p0))), (4, .int (nI p)), (5, .int (nI i))], [.ref m0], M1)) rfl rfl rfl ?_
          refine ps_st (S' := (151, [(0, .ref m0), (3, .int (nI (by2 f p0))), (4, .int (nI p)), (5, .int (nI i))], [.ref m0, .ref m0], M1)) rfl rfl rfl ?_
          refine ps_st (S' := (153, [(0, .ref m0), (3, .int (nI (by2 f p0))), (4, .int (nI p)), (5, .int (nI i))], [.int (nI p), .ref m0, .ref m0], M1)) rfl rfl rfl ?_
          refine pl_call (a := [.ref m0, .int (nI p)]) (rest := [.ref m0]) rfl rfl rfl (rd_u2 (n := n) (f := f) (p := p) hR1 hF1 (by omega)) (fun v22 M23 q24 => ?_)
          obtain ⟨rfl, rfl⟩ := q24
          show pl _ _ _ (156, [(0, .ref m0), (3, .int (nI (by2 f p0))), (4, .int (nI p)), (5, .int (nI i))], [.int (nI (by2 f p)), .ref m0], M1) _
          have hu_153 := by2_lt f p
          refine pl_call (a := [.ref m0, .int (nI (by2 f p))]) (rest := []) rfl rfl rfl (rd_tag (n := n) (f := f) (tx := tx) (cN := cN) (A := A) (N := N) (mj := mj) (E := E) (k := (by2 f p)) hR1 hl51 hl52 hl53 hF1 hY1 hP1 (hEP) (hN) (hmj) (by2_lt _ _)) (fun v25 M26 q27 => ?_)
          obtain ⟨rfl, rfl⟩ := q27
          show pl _ _ _ (159, [(0, .ref m0), (3, .int (nI (by2 f p0))), (4, .int (nI p)), (5, .int (nI i))], [.int (nI (tg f E (by2 f p)))], M1) _
          have htg_156 := tg_lt f E (by2 f p)
          refine ps_st (S' := (160, [(0, .ref m0), (3, .int (nI (by2 f p0))), (4, .int (nI p)), (5, .int (nI i))], [.int 1, .int (nI (tg f E (by2 f p)))], M1)) rfl rfl rfl ?_
          refine ps_if2 (S1 := (216, [], [], M1)) (S2 := (163, [(0, .ref m0), (3, .int (nI (by2 f p0))), (4, .int (nI p)), (5, .int (nI i))], [], M1)) rfl rfl rfl (fun c_160 => ?_) (fun c_160 => ?_)
          · have c_160 : ¬ (nI (tg f E (by2 f p))) = 1 := of_decide_eq_true c_160
            have n_160 : ¬ (tg f E (by2 f p) = 1) := fun h9 => c_160 ((eq_nI (p := tg f E (by2 f p)) (n := 1) (Nat.lt_trans (tg_lt _ _ _) (by decide)) (by decide)).mpr h9)
            refine ps_st (S' := (218, [], [.int 37], M1)) rfl rfl rfl ?_
            exact ps_ret rfl rfl (Or.inr (Or.inl ⟨I1, R1, hfe, by
                rw [← hs, rcS_st (i := i) (by omega), if_pos (Or.inl (by rw [tx_no (by omega)]; decide))], rfl, hR1, hEI1, hER1⟩))
          · have c_160 : ¬ (¬ (nI (tg f E (by2 f p))) = 1) := of_decide_eq_false c_160
            have n_160 : tg f E (by2 f p) = 1 := (eq_nI (p := tg f E (by2 f p)) (n := 1) (Nat.lt_trans (tg_lt _ _ _) (by decide)) (by decide)).mp (Decidable.not_not.mp c_160)
            refine ps_st (S' := (164, [(0, .ref m0), (3, .int (nI (by2 f p0))), (4, .int (nI p)), (5, .int (nI i))], [.ref m0], M1)) rfl rfl rfl ?_
            refine ps_st (S' := (165, [(0, .ref m0), (3, .int (nI (by2 f p0))), (4, .int (nI p)), (5, .int (nI i))], [.ref m0, .ref m0], M1)) rfl rfl rfl ?_
            refine ps_st (S' := (166, [(0, .ref m0), (3, .int (nI (by2 f p0))), (4, .int (nI p)), (5, .int (nI i))], [.ref m0, .ref m0, .ref m0], M1)) rfl rfl rfl ?_
            refine ps_st (S' := (168, [(0, .ref m0), (3, .int (nI (by2 f p0))), (4, .int (nI p)), (5, .int (nI i))], [.int (nI p), .ref m0, .ref m0, .ref m0], M1)) rfl rfl rfl ?_
            refine pl_call (a := [.ref m0, .int (nI p)]) (rest := [.ref m0, .ref m0]) rfl rfl rfl (rd_u2 (n := n) (f := f) (p := p) hR1 hF1 (by omega)) (fun v28 M29 q30 => ?_)
            obtain ⟨rfl, rfl⟩ := q30
            show pl _ _ _ (171, [(0, .ref m0), (3, .int (nI (by2 f p0))), (4, .int (nI p)), (5, .int (nI i))], [.int (nI (by2 f p)), .ref m0, .ref m0], M1) _
            have hu_168 := by2_lt f p
            refine pl_call (a := [.ref m0, .int (nI (by2 f p))]) (rest := [.ref m0]) rfl rfl rfl (rd_symOf (n := n) (f := f) (tx := tx) (cN := cN) (A := A) (N := N) (mj := mj) (E := E) (k := (by2 f p)) hR1 hl51 hl52 hl53 hF1 hY1 hP1 (hEP) (hN) (hmj) (by omega)) (fun v31 M32 q33 => ?_)
            obtain ⟨s34, q171_s, rfl, rfl⟩ := q33
            show pl _ _ _ (174, [(0, .ref m0), (3, .int (nI (by2 f p0))), (4, .int (nI p)), (5, .int (nI i))], [.int (nI s34), .ref m0], M1) _
            have hsl_171 := q171_s.1
            have htl_171 := hY1.1.2.2.1
            refine ps_st (S' := (175, [(0, .ref m0), (3, .int (nI (by2 f p0))), (4, .int (nI p)), (5, .int (nI i))], [.int 1, .int (nI s34), .ref m0], M1)) rfl rfl rfl ?_
            refine pl_call (a := [.ref m0, .int (nI s34), .int 1]) (rest := []) rfl rfl rfl (rd_unq1 (tx := tx) (cN := cN) (A := A) (s := s34) (l := (tX f n E (by2 f p))) hR1 hY1 (q171_s)) (fun v35 M36 q37 => ?_)
            obtain ⟨rfl, rfl⟩ := q37
            show pl _ _ _ (178, [(0, .ref m0), (3, .int (nI (by2 f p0))), (4, .int (nI p)), (5, .int (nI i))], [.int (nI (unqN (tX f n E (by2 f p))))], M1) _
            refine ps_if (S1 := (216, [], [], M1)) (S2 := (181, [(0, .ref m0), (3, .int (nI (by2 f p0))), (4, .int (nI p)), (5, .int (nI i))], [], M1)) rfl rfl rfl (fun c_178 => ?_) (fun c_178 => ?_)
            · have c_178 : (nI (unqN (tX f n E (by2 f p)))) = 0 := of_decide_eq_true c_178
              have n_178 : unqN (tX f n E (by2 f p)) = 0 := (eq_nI (p := unqN (tX f n E (by2 f p))) (n := 0) (Nat.lt_trans (le1_unq _) (by decide)) (by decide)).mp c_178
              refine ps_st (S' := (218, [], [.int 37], M1)) rfl rfl rfl ?_
              exact ps_ret rfl rfl (Or.inr (Or.inl ⟨I1, R1, hfe, by
                  rw [← hs, rcS_st (i := i) (by omega), if_pos (by omega)], rfl, hR1, hEI1, hER1⟩))
            · have c_178 : ¬ ((nI (unqN (tX f n E (by2 f p)))) = 0) := of_decide_eq_false c_178
              have n_178 : ¬ (unqN (tX f n E (by2 f p)) = 0) := fun h9 => c_178 ((eq_nI (p := unqN (tX f n E (by2 f p))) (n := 0) (Nat.lt_trans (le1_unq _) (by decide)) (by decide)).mpr h9)
              refine ps_st (S' := (182, [(0, .ref m0), (3, .int (nI (by2 f p0))), (4, .int (nI p)), (5, .int (nI i))], [.ref m0], M1)) rfl rfl rfl ?_
              refine ps_st (S' := (183, [(0, .ref m0), (3, .int (nI (by2 f p0))), (4, .int (nI p)), (5, .int (nI i))], [.ref m0, .ref m0], M1)) rfl rfl rfl ?_
              refine ps_st (S' := (185, [(0, .ref m0), (3, .int (nI (by2 f p0))), (4, .int (nI p)), (5, .int (nI i))], [.int (nI p), .ref m0, .ref m0], M1)) rfl rfl rfl ?_
              refine ps_st (S' := (186, [(0, .ref m0), (3, .int (nI (by2 f p0))), (4, .int (nI p)), (5, .int (nI i))], [.int 2, .int (nI p), .ref m0, .ref m0], M1)) rfl rfl rfl ?_
              refine ps_st (S' := (187, [(0, .ref m0), (3, .int (nI (by2 f p0))), (4, .int (nI p)), (5, .int (nI i))], [.int ((nI p) + 2), .ref m0, .ref m0], M1)) rfl rfl rfl ?_
              rw [nI_add1 (p := p) (k := 2) (x := 2) rfl (by omega)]
              show pl _ _ _ (_, [(0, .ref m0), (3, .int (nI (by2 f p0))), (4, .int (nI p)), (5, .int (nI i))], [.int (nI (p + 2)), .ref m0, .ref m0], M1) _
              refine pl_call (a := [.ref m0, .int (nI (p + 2))]) (rest := [.ref m0]) rfl rfl rfl (rd_u2 (n := n) (f := f) (p := (p + 2)) hR1 hF1 (by omega)) (fun v38 M39 q40 => ?_)
              obtain ⟨rfl, rfl⟩ := q40
              show pl _ _ _ (190, [(0, .ref m0), (3, .int (nI (by2 f p0))), (4, .int (nI p)), (5, .int (nI i))], [.int (nI (by2 f (p + 2))), .ref m0], M1) _
              have hu_187 := by2_lt f (p + 2)
              refine pl_call (a := [.ref m0, .int (nI (by2 f (p + 2)))]) (rest := []) rfl rfl rfl (rd_tag (n := n) (f := f) (tx := tx) (cN := cN) (A := A) (N := N) (mj := mj) (E := E) (k := (by2 f (p + 2))) hR1 hl51 hl52 hl53 hF1 hY1 hP1 (hEP) (hN) (hmj) (by2_lt _ _)) (fun v41 M42 q43 => ?_)
              obtain ⟨rfl, rfl⟩ := q43
              show pl _ _ _ (193, [(0, .ref m0), (3, .int (nI (by2 f p0))), (4, .int (nI p)), (5, .int (nI i))], [.int (nI (tg f E (by2 f (p + 2))))], M1) _
              have htg_190 := tg_lt f E (by2 f (p + 2))
              refine ps_st (S' := (194, [(0, .ref m0), (3, .int (nI (by2 f p0))), (4, .int (nI p)), (5, .int (nI i))], [.int 1, .int (nI (tg f E (by2 f (p + 2))))], M1)) rfl rfl rfl ?_
              refine ps_if2 (S1 := (216, [], [], M1)) (S2 := (197, [(0, .ref m0), (3, .int (nI (by2 f p0))), (4, .int (nI p)), (5, .int (nI i))], [], M1)) rfl rfl rfl (fun c_194 => ?_) (fun c_194 => ?_)
              · have c_194 : ¬ (nI (tg f E (by2 f (p + 2)))) = 1 := of_decide_eq_true c_194
                have n_194 : ¬ (tg f E (by2 f (p + 2)) = 1) := fun h9 => c_194 ((eq_nI (p := tg f E (by2 f (p + 2))) (n := 1) (Nat.lt_trans (tg_lt _ _ _) (by decide)) (by decide)).mpr h9)
                refine ps_st (S' := (218, [], [.int 37], M1)) rfl rfl rfl ?_
                exact ps_ret rfl rfl (Or.inr (Or.inl ⟨I1, R1, hfe, by
                    rw [← hs, rcS_st (i := i) (by omega), if_pos (Or.inr (by rw [tx_no (by omega)]; decide))], rfl, hR1, hEI1, hER1⟩))
              · have c_194 : ¬ (¬ (nI (tg f E (by2 f (p + 2)))) = 1) := of_decide_eq_false c_194
                have n_194 : tg f E (by2 f (p + 2)) = 1 := (eq_nI (p := tg f E (by2 f (p + 2))) (n := 1) (Nat.lt_trans (tg_lt _ _ _) (by decide)) (by decide)).mp (Decidable.not_not.mp c_194)
                refine ps_st (S' := (198, [(0, .ref m0), (3, .int (nI (by2 f p0))), (4, .int (nI p)), (5, .int (nI i))], [.ref m0], M1)) rfl rfl rfl ?_
                refine ps_st (S' := (199, [(0, .ref m0), (3, .int (nI (by2 f p0))), (4, .int (nI p)), (5, .int (nI i))], [.ref m0, .ref m0], M1)) rfl rfl rfl ?_
                refine ps_st (S' := (200, [(0, .ref m0), (3, .int (nI (by2 f p0))), (4, .int (nI p)), (5, .int (nI i))], [.ref m0, .ref m0, .ref m0], M1)) rfl rfl rfl ?_
                refine ps_st (S' := (202, [(0, .ref m0), (3, .int (nI (by2 f p0))), (4, .int (nI p)), (5, .int (nI i))], [.int (nI p), .ref m0, .ref m0, .ref m0], M1)) rfl rfl rfl ?_
                refine ps_st (S' := (203, [(0, .ref m0), (3, .int (nI (by2 f p0))), (4, .int (nI p)), (5, .int (nI i))], [.int 2, .int (nI p), .ref m0, .ref m0, .ref m0], M1)) rfl rfl rfl ?_
                refine ps_st (S' := (204, [(0, .ref m0), (3, .int (nI (by2 f p0))), (4, .int (nI p)), (5, .int (nI i))], [.int ((nI p) + 2), .ref m0, .ref m0, .ref m0], M1)) rfl rfl rfl ?_
                rw [nI_add1 (p := p) (k := 2) (x := 2) rfl (by omega)]
                show pl _ _ _ (_, [(0, .ref m0), (3, .int (nI (by2 f p0))), (4, .int (nI p)), (5, .int (nI i))], [.int (nI (p + 2)), .ref m0, .ref m0, .ref m0], M1) _
                refine pl_call (a := [.ref m0, .int (nI (p + 2))]) (rest := [.ref m0, .ref m0]) rfl rfl rfl (rd_u2 (n := n) (f := f) (p := (p + 2)) hR1 hF1 (by omega)) (fun v44 M45 q46 => ?_)
                obtain ⟨rfl, rfl⟩ := q46
                show pl _ _ _ (207, [(0, .ref m0), (3, .int (nI (by2 f p0))), (4, .int (nI p)), (5, .int (nI i))], [.int (nI (by2 f (p + 2))), .ref m0, .ref m0], M1) _
                have hu_204 := by2_lt f (p + 2)
                refine pl_call (a := [.ref m0, .int (nI (by2 f (p + 2)))]) (rest := [.ref m0]) rfl rfl rfl (rd_symOf (n := n) (f := f) (tx := tx) (cN := cN) (A := A) (N := N) (mj := mj) (E := E) (k := (by2 f (p + 2))) hR1 hl51 hl52 hl53 hF1 hY1 hP1 (hEP) (hN) (hmj) (by omega)) (fun v47 M48 q49 => ?_)
                obtain ⟨s50, q207_s, rfl, rfl⟩ := q49
                show pl _ _ _ (210, [(0, .ref m0), (3, .int (nI (by2 f p0))), (4, .int (nI p)), (5, .int (nI i))], [.int (nI s50), .ref m0], M1) _
                have hsl_207 := q207_s.1
                have htl_207 := hY1.1.2.2.1
                refine pl_call (a := [.ref m0, .int (nI s50)]) (rest := []) rfl rfl rfl (rd_isField (tx := tx) (cN := cN) (A := A) (s := s50) (l := (tX f n E (by2 f (p + 2)))) hR1 hY1 (q207_s)) (fun v51 M52 q53 => ?_)
                obtain ⟨rfl, rfl⟩ := q53
                show pl _ _ _ (213, [(0, .ref m0), (3, .int (nI (by2 f p0))), (4, .int (nI p)), (5, .int (nI i))], [.int (nI (fldN (tX f n E (by2 f (p + 2)))))], M1) _
                refine ps_if (S1 := (219, [(0, .ref m0), (3, .int (nI (by2 f p0))), (4, .int (nI p)), (5, .int (nI i))], [], M1)) (S2 := (216, [], [], M1)) rfl rfl rfl (fun c_213 => ?_) (fun c_213 => ?_)
                · have c_213 : ¬ (nI (fldN (tX f n E (by2 f (p + 2))))) = 0 := of_decide_eq_true c_213
                  have n_213 : ¬ (fldN (tX f n E (by2 f (p + 2))) = 0) := fun h9 => c_213 ((eq_nI (p := fldN (tX f n E (by2 f (p + 2)))) (n := 0) (Nat.lt_trans (le1_fld _) (by decide)) (by decide)).mpr h9)
                  refine ps_st (S' := (220, [(0, .ref m0), (3, .int (nI (by2 f p0))), (4, .int (nI p)), (5, .int (nI i))], [.ref m0], M1)) rfl rfl rfl ?_
                  refine ps_st (S' := (222, [(0, .ref m0), (3, .int (nI (by2 f p0))), (4, .int (nI p)), (5, .int (nI i))], [.int (nI p), .ref m0], M1)) rfl rfl rfl ?_
                  refine ps_st (S' := (223, [(0, .ref m0), (3, .int (nI (by2 f p0))), (4, .int (nI p)), (5, .int (nI i))], [.int 4, .int (nI p), .ref m0], M1)) rfl rfl rfl ?_
                  refine ps_st (S' := (224, [(0, .ref m0), (3, .int (nI (by2 f p0))), (4, .int (nI p)), (5, .int (nI i))], [.int ((nI p) + 4), .ref m0], M1)) rfl rfl rfl ?_
                  rw [nI_add1 (p := p) (k := 4) (x := 4) rfl (by omega)]
                  show pl _ _ _ (_, [(0, .ref m0), (3, .int (nI (by2 f p0))), (4, .int (nI p)), (5, .int (nI i))], [.int (nI (p + 4)), .ref m0], M1) _
                  refine pl_call (a := [.ref m0, .int (nI (p + 4))]) (rest := []) rfl rfl rfl (rd_u2 (n := n) (f := f) (p := (p + 4)) hR1 hF1 (by omega)) (fun v54 M55 q56 => ?_)
                  obtain ⟨rfl, rfl⟩ := q56
                  show pl _ _ _ (227, [(0, .ref m0), (3, .int (nI (by2 f p0))), (4, .int (nI p)), (5, .int (nI i))], [.int (nI (by2 f (p + 4)))], M1) _
                  have hu_224 := by2_lt f (p + 4)
                  refine ps_st (S' := (229, [(6, .int (nI (by2 f (p + 4)))), (0, .ref m0), (3, .int (nI (by2 f p0))), (4, .int (nI p)), (5, .int (nI i))], [], M1)) rfl rfl rfl ?_
                  refine ps_st (S' := (232, [(4, .int ((nI p) + 6)), (6, .int (nI (by2 f (p + 4)))), (0, .ref m0), (3, .int (nI (by2 f p0))), (5, .int (nI i))], [], M1)) rfl rfl rfl ?_
                  rw [nI_add1 (p := p) (k := 6) (x := 6) rfl (by omega)]
                  show pl _ _ _ (_, [(4, .int (nI (p + 6))), (6, .int (nI (by2 f (p + 4)))), (0, .ref m0), (3, .int (nI (by2 f p0))), (5, .int (nI i))], [], M1) _
                  refine ps_st (S' := (233, [(4, .int (nI (p + 6))), (6, .int (nI (by2 f (p + 4)))), (0, .ref m0), (3, .int (nI (by2 f p0))), (5, .int (nI i))], [.int 0], M1)) rfl rfl rfl ?_
                  refine ps_st (S' := (235, [(0, .ref m0), (3, .int (nI (by2 f p0))), (4, .int (nI (p + 6))), (5, .int (nI i)), (6, .int (nI (by2 f (p + 4)))), (7, .int 0)], [], M1)) rfl rfl rfl ?_
                  exact ih.2.2.2 (i) (p) (0) (p + 6) (y9) M1 I1 R1 hR1 hEI1 hER1 hl51 hl52 hl53 hF1 hY1 hP1 (hfe) (by omega) (by omega) (hq6) (hq7) (by omega) (hs) (rfl)
                · have c_213 : ¬ (¬ (nI (fldN (tX f n E (by2 f (p + 2))))) = 0) := of_decide_eq_false c_213
                  have n_213 : fldN (tX f n E (by2 f (p + 2))) = 0 := (eq_nI (p := fldN (tX f n E (by2 f (p + 2)))) (n := 0) (Nat.lt_trans (le1_fld _) (by decide)) (by decide)).mp (Decidable.not_not.mp c_213)
                  refine ps_st (S' := (218, [], [.int 37], M1)) rfl rfl rfl ?_
                  exact ps_ret rfl rfl (Or.inr (Or.inl ⟨I1, R1, hfe, by
                      rw [← hs, rcS_st (i := i) (by omega), if_pos (by omega)], rfl, hR1, hEI1, hER1⟩))
      · skip
        intro i p j y x9 M1 I1 R1 hR1 hEI1 hER1 hl51 hl52 hl53 hF1 hY1 hP1 hfe hi hj hg hf2 h37 hs hd
        have hn := hF1.1
        have hu9 := by2_lt f p0
        have hu8 := by2_lt f (p + 4)
        refine ps_st1 (S' := (237, [(0, .ref m0), (3, .int (nI (by2 f p0))), (4, .int (nI y)), (5, .int (nI i)), (6, .int (nI (by2 f (p + 4)))), (7, .int (nI j))], [.int (nI j)], M1)) rfl rfl rfl ?_
        refine ps_st (S' := (239, [(0, .ref m0), (3, .int (nI (by2 f p0))), (4, .int (nI y)), (5, .int (nI i)), (6, .int (nI (by2 f (p + 4)))), (7, .int (nI j))], [.int (nI (by2 f (p + 4))), .int (nI j)], M1)) rfl rfl rfl ?_
        refine ps_if2 (S1 := (290, [(0, .ref m0), (3, .int (nI (by2 f p0))), (4, .int (nI y)), (5, .int (nI i)), (6, .int (nI (by2 f (p + 4)))), (7, .int (nI j))], [], M1)) (S2 := (242, [(0, .ref m0), (3, .int (nI (by2 f p0))), (4, .int (nI y)), (5, .int (nI i)), (6, .int (nI (by2 f (p + 4)))), (7, .int (nI j))], [], M1)) rfl rfl rfl (fun c_239 => ?_) (fun c_239 => ?_)
        · have c_239 : (nI (by2 f (p + 4))) ≤ (nI j) := of_decide_eq_true c_239
          have n_239 : by2 f (p + 4) ≤ j := (le_nI (p := by2 f (p + 4)) (n := j) (Nat.lt_trans (by2_lt _ _) (by decide)) (by omega)).mp c_239
          refine ps_st (S' := (293, [(5, .int ((nI i) + 1)), (0, .ref m0), (3, .int (nI (by2 f p0))), (4, .int (nI y)), (6, .int (nI (by2 f (p + 4)))), (7, .int (nI j))], [], M1)) rfl rfl rfl ?_
          rw [nI_add1 (p := i) (k := 1) (x := 1) rfl (by omega)]
          show pl _ _ _ (_, [(5, .int (nI (i + 1))), (0, .ref m0), (3, .int (nI (by2 f p0))), (4, .int (nI y)), (6, .int (nI (by2 f (p + 4)))), (7, .int (nI j))], [], M1) _
          refine ps_st (S' := (143, [(0, .ref m0), (3, .int (nI (by2 f p0))), (4, .int (nI y)), (5, .int (nI (i + 1)))], [], M1)) rfl rfl rfl ?_
          exact ih.2.2.1 (i + 1) (y) M1 I1 R1 hR1 hEI1 hER1 hl51 hl52 hl53 hF1 hY1 hP1 (hfe) (by omega) (by
              rw [show by2 f (p + 4) - j = 0 by omega] at hg
              have e9 : y = x9 := Option.some.inj (show some y = some x9 from hg)
              rw [e9]
              exact hf2) (by
              rw [← hs, rcS_st (i := i) (by omega), if_neg h37, ← hd, show by2 f (p + 4) - j = 0 by omega]
              rfl)
        · have c_239 : ¬ ((nI (by2 f (p + 4))) ≤ (nI j)) := of_decide_eq_false c_239
          have n_239 : ¬ (by2 f (p + 4) ≤ j) := fun h9 => c_239 ((le_nI (p := by2 f (p + 4)) (n := j) (Nat.lt_trans (by2_lt _ _) (by decide)) (by omega)).mpr h9)
          obtain ⟨hw5, hw6, hw7⟩ := s_atE_in (i := j) (p := y) hg (by omega)
          refine ps_st (S' := (243, [(0, .ref m0), (3, .int (nI (by2 f p0))), (4, .int (nI y)), (5, .int (nI i)), (6, .int (nI (by2 f (p + 4)))), (7, .int (nI j))], [.ref m0], M1)) rfl rfl rfl ?_
          refine ps_st (S' := (244, [(0, .ref m0), (3, .int (nI (by2 f p0))), (4, .int (nI y)), (5, .int (nI i)), (6, .int (nI (by2 f (p + 4)))), (7, .int (nI j))], [.ref m0, .ref m0], M1)) rfl rfl rfl ?_
          refine ps_st (S' := (246, [(0, .ref m0), (3, .int (nI (by2 f p0))), (4, .int (nI y)), (5, .int (nI i)), (6, .int (nI (by2 f (p + 4)))), (7, .int (nI j))], [.int (nI y), .ref m0, .ref m0], M1)) rfl rfl rfl ?_
          refine pl_call (a := [.ref m0, .int (nI y)]) (rest := [.ref m0]) rfl rfl rfl (rd_u2 (n := n) (f := f) (p := y) hR1 hF1 (by omega)) (fun v57 M58 q59 => ?_)
          obtain ⟨rfl, rfl⟩ := q59
          show pl _ _ _ (249, [(0, .ref m0), (3, .int (nI (by2 f p0))), (4, .int (nI y)), (5, .int (nI i)), (6, .int (nI (by2 f (p + 4)))), (7, .int (nI j))], [.int (nI (by2 f y)), .ref m0], M1) _
          have hu_246 := by2_lt f y
          refine pl_call (a := [.ref m0, .int (nI (by2 f y))]) (rest := []) rfl rfl rfl (rd_tag (n := n) (f := f) (tx := tx) (cN := cN) (A := A) (N := N) (mj := mj) (E := E) (k := (by2 f y)) hR1 hl51 hl52 hl53 hF1 hY1 hP1 (hEP) (hN) (hmj) (by2_lt _ _)) (fun v60 M61 q62 => ?_)
          obtain ⟨rfl, rfl⟩ := q62
          show pl _ _ _ (252, [(0, .ref m0), (3, .int (nI (by2 f p0))), (4, .int (nI y)), (5, .int (nI i)), (6, .int (nI (by2 f (p + 4)))), (7, .int (nI j))], [.int (nI (tg f E (by2 f y)))], M1) _
          have htg_249 := tg_lt f E (by2 f y)
          refine ps_st (S' := (253, [(0, .ref m0), (3, .int (nI (by2 f p0))), (4, .int (nI y)), (5, .int (nI i)), (6, .int (nI (by2 f (p + 4)))), (7, .int (nI j))], [.int 1, .int (nI (tg f E (by2 f y)))], M1)) rfl rfl rfl ?_
          refine ps_if2 (S1 := (267, [(0, .ref m0), (3, .int (nI (by2 f p0))), (4, .int (nI y)), (5, .int (nI i)), (6, .int (nI (by2 f (p + 4)))), (7, .int (nI j))], [], M1)) (S2 := (256, [(0, .ref m0), (3, .int (nI (by2 f p0))), (4, .int (nI y)), (5, .int (nI i)), (6, .int (nI (by2 f (p + 4)))), (7, .int (nI j))], [], M1)) rfl rfl rfl (fun c_253 => ?_) (fun c_253 => ?_)
          · have c_253 : (nI (tg f E (by2 f y))) = 1 := of_decide_eq_true c_253
            have n_253 : tg f E (by2 f y) = 1 := (eq_nI (p := tg f E (by2 f y)) (n := 1) (Nat.lt_trans (tg_lt _ _ _) (by decide)) (by decide)).mp c_253
            refine ps_st (S' := (269, [(0, .ref m0), (3, .int (nI (by2 f p0))), (4, .int (nI y)), (5, .int (nI i)), (6, .int (nI (by2 f (p + 4)))), (7, .int (nI j))], [.int (nI y)], M1)) rfl rfl rfl ?_
            refine ps_st (S' := (271, [(0, .ref m0), (3, .int (nI (by2 f p0))), (4, .int (nI y)), (5, .int (nI i)), (6, .int (nI (by2 f (p + 4)))), (7, .int (nI j))], [.int 6, .int (nI y)], M1)) rfl rfl rfl ?_
            refine ps_st (S' := (272, [(0, .ref m0), (3, .int (nI (by2 f p0))), (4, .int (nI y)), (5, .int (nI i)), (6, .int (nI (by2 f (p + 4)))), (7, .int (nI j))], [.ref m0, .int 6, .int (nI y)], M1)) rfl rfl rfl ?_
            refine ps_st (S' := (274, [(0, .ref m0), (3, .int (nI (by2 f p0))), (4, .int (nI y)), (5, .int (nI i)), (6, .int (nI (by2 f (p + 4)))), (7, .int (nI j))], [.int (nI y), .ref m0, .int 6, .int (nI y)], M1)) rfl rfl rfl ?_
            refine ps_st (S' := (275, [(0, .ref m0), (3, .int (nI (by2 f p0))), (4, .int (nI y)), (5, .int (nI i)), (6, .int (nI (by2 f (p + 4)))), (7, .int (nI j))], [.int 2, .int (nI y), .ref m0, .int 6, .int (nI y)], M1)) rfl rfl rfl ?_
            refine ps_st (S' := (276, [(0, .ref m0), (3, .int (nI (by2 f p0))), (4, .int (nI y)), (5, .int (nI i)), (6, .int (nI (by2 f (p + 4)))), (7, .int (nI j))], [.int ((nI y) + 2), .ref m0, .int 6, .int (nI y)], M1)) rfl rfl rfl ?_
            rw [nI_add1 (p := y) (k := 2) (x := 2) rfl (by omega)]
            show pl _ _ _ (_, [(0, .ref m0), (3, .int (nI (by2 f p0))), (4, .int (nI y)), (5, .int (nI i)), (6, .int (nI (by2 f (p + 4)))), (7, .int (nI j))], [.int (nI (y + 2)), .ref m0, .int 6, .int (nI y)], M1) _
            refine pl_call (a := [.ref m0, .int (nI (y + 2))]) (rest := [.int 6, .int (nI y)]) rfl rfl rfl (rd_u4 (n := n) (f := f) (p := (y + 2)) hR1 hF1 (by omega)) (fun v63 M64 q65 => ?_)
            obtain ⟨rfl, rfl⟩ := q65
            show pl _ _ _ (279, [(0, .ref m0), (3, .int (nI (by2 f p0))), (4, .int (nI y)), (5, .int (nI i)), (6, .int (nI (by2 f (p + 4)))), (7, .int (nI j))], [.long (nL (by4 f (y + 2))), .int 6, .int (nI y)], M1) _
            have hu_276 := by4_lt f (y + 2)
            refine ps_st (S' := (280, [(0, .ref m0), (3, .int (nI (by2 f p0))), (4, .int (nI y)), (5, .int (nI i)), (6, .int (nI (by2 f (p + 4)))), (7, .int (nI j))], [.int (Int64.toInt32 (nL (by4 f (y + 2)))), .int 6, .int (nI y)], M1)) rfl rfl rfl ?_
            rw [l2i_nL (p := by4 f (y + 2)) (by omega)]
            show pl _ _ _ (_, [(0, .ref m0), (3, .int (nI (by2 f p0))), (4, .int (nI y)), (5, .int (nI i)), (6, .int (nI (by2 f (p + 4)))), (7, .int (nI j))], [.int (nI (by4 f (y + 2))), .int 6, .int (nI y)], M1) _
            refine ps_st (S' := (281, [(0, .ref m0), (3, .int (nI (by2 f p0))), (4, .int (nI y)), (5, .int (nI i)), (6, .int (nI (by2 f (p + 4)))), (7, .int (nI j))], [.int (6 + (nI (by4 f (y + 2)))), .int (nI y)], M1)) rfl rfl rfl ?_
            rw [nI_add2 (p := 6) (k := by4 f (y + 2)) (x := 6) (y := (nI (by4 f (y + 2)))) rfl rfl (by omega)]
            show pl _ _ _ (_, [(0, .ref m0), (3, .int (nI (by2 f p0))), (4, .int (nI y)), (5, .int (nI i)), (6, .int (nI (by2 f (p + 4)))), (7, .int (nI j))], [.int (nI (6 + by4 f (y + 2))), .int (nI y)], M1) _
            refine ps_st (S' := (282, [(0, .ref m0), (3, .int (nI (by2 f p0))), (4, .int (nI y)), (5, .int (nI i)), (6, .int (nI (by2 f (p + 4)))), (7, .int (nI j))], [.int ((nI y) + (nI (6 + by4 f (y + 2))))], M1)) rfl rfl rfl ?_
            rw [nI_add1 (p := y) (k := 6 + by4 f (y + 2)) (x := (nI (6 + by4 f (y + 2)))) rfl (by omega)]
            rw [show nI (y + (6 + by4 f (y + 2))) = nI (y + 6 + by4 f (y + 2)) from congrArg nI (by omega)]
            show pl _ _ _ (_, [(0, .ref m0), (3, .int (nI (by2 f p0))), (4, .int (nI y)), (5, .int (nI i)), (6, .int (nI (by2 f (p + 4)))), (7, .int (nI j))], [.int (nI (y + 6 + by4 f (y + 2)))], M1) _
            refine ps_st (S' := (284, [(4, .int (nI (y + 6 + by4 f (y + 2)))), (0, .ref m0), (3, .int (nI (by2 f p0))), (5, .int (nI i)), (6, .int (nI (by2 f (p + 4)))), (7, .int (nI j))], [], M1)) rfl rfl rfl ?_
            refine ps_st (S' := (287, [(7, .int ((nI j) + 1)), (4, .int (nI (y + 6 + by4 f (y + 2)))), (0, .ref m0), (3, .int (nI (by2 f p0))), (5, .int (nI i)), (6, .int (nI (by2 f (p + 4))))], [], M1)) rfl rfl rfl ?_
            rw [nI_add1 (p := j) (k := 1) (x := 1) rfl (by omega)]
            show pl _ _ _ (_, [(7, .int (nI (j + 1))), (4, .int (nI (y + 6 + by4 f (y + 2)))), (0, .ref m0), (3, .int (nI (by2 f p0))), (5, .int (nI i)), (6, .int (nI (by2 f (p + 4))))], [], M1) _
            refine ps_st (S' := (235, [(0, .ref m0), (3, .int (nI (by2 f p0))), (4, .int (nI (y + 6 + by4 f (y + 2)))), (5, .int (nI i)), (6, .int (nI (by2 f (p + 4)))), (7, .int (nI (j + 1)))], [], M1)) rfl rfl rfl ?_
            exact ih.2.2.2 (i) (p) (j + 1) (y + 6 + by4 f (y + 2)) (x9) M1 I1 R1 hR1 hEI1 hER1 hl51 hl52 hl53 hF1 hY1 hP1 (hfe) (hi) (by omega) (hw7) (hf2) (h37) (hs) (by
                rw [← hd, rcA_st (i := j) (by omega), if_neg (by omega)])
          · have c_253 : ¬ ((nI (tg f E (by2 f y))) = 1) := of_decide_eq_false c_253
            have n_253 : ¬ (tg f E (by2 f y) = 1) := fun h9 => c_253 ((eq_nI (p := tg f E (by2 f y)) (n := 1) (Nat.lt_trans (tg_lt _ _ _) (by decide)) (by decide)).mpr h9)
            refine ps_st (S' := (257, [(0, .ref m0), (3, .int (nI (by2 f p0))), (4, .int (nI y)), (5, .int (nI i)), (6, .int (nI (by2 f (p + 4)))), (7, .int (nI j))], [.ref m0], M1)) rfl rfl rfl ?_
            refine ps_st (S' := (259, [(0, .ref m0), (3, .int (nI (by2 f p0))), (4, .int (nI y)), (5, .int (nI i)), (6, .int (nI (by2 f (p + 4)))), (7, .int (nI j))], [.int 28, .ref m0], M1)) rfl rfl rfl ?_
            refine ps_st (S' := (261, [(0, .ref m0), (3, .int (nI (by2 f p0))), (4, .int (nI y)), (5, .int (nI i)), (6, .int (nI (by2 f (p + 4)))), (7, .int (nI j))], [.int (nI y), .int 28, .ref m0], M1)) rfl rfl rfl ?_
            refine pl_call (a := [.ref m0, .int 28, .int (nI y)]) (rest := []) rfl rfl rfl (rd_wrong (x1 := 28) (x2 := (nI y)) hR1) (fun v66 M67 q68 => ?_)
            obtain ⟨I69, R70, rfl, hR71, hI72, hX73, hi74, hi75⟩ := q68
            have hi76 := (hI72 51 (by decide)).trans hl51
            have hi77 := (hI72 52 (by decide)).trans hl52
            have hi78 := (hI72 53 (by decide)).trans hl53
            have hF_79 := hF1.mono (cIx hI72 (by decide)) (cRx hX73 (by decide))
            have hY_80 := hY1.mono (cIx hI72 (by decide)) (cRx hX73 (by decide))
            have hP_81 := hP1.mono (cIx hI72 (by decide)) (cRx hX73 (by decide))
            have hEI82 := hEI1.tr hI72 (by decide)
            have hER83 := hER1.tr hX73 (by decide)
            show pl _ _ _ (264, [(0, .ref m0), (3, .int (nI (by2 f p0))), (4, .int (nI y)), (5, .int (nI i)), (6, .int (nI (by2 f (p + 4)))), (7, .int (nI j))], [.int 0], M67) _
            refine ps_st (S' := (265, [(0, .ref m0), (3, .int (nI (by2 f p0))), (4, .int (nI y)), (5, .int (nI i)), (6, .int (nI (by2 f (p + 4)))), (7, .int (nI j))], [], M67)) rfl rfl rfl ?_
            refine ps_st (S' := (266, [(0, .ref m0), (3, .int (nI (by2 f p0))), (4, .int (nI y)), (5, .int (nI i)), (6, .int (nI (by2 f (p + 4)))), (7, .int (nI j))], [.int (-1)], M67)) rfl rfl rfl ?_
            exact ps_ret rfl rfl (Or.inr (Or.inr (Or.inl ⟨y, I69, R70, hfe, by
                rw [← hs, rcS_st (i := i) (by omega), if_neg h37, ← hd, rcA_st (i := j) (by omega), if_pos (by omega)], rfl, hR71, hEI82, hER83, hi74, hi75⟩)))
  refine ps_st (S' := (1, [(0, .ref m0), (1, .int (nI p0)), (2, .int (nI e))], [.int (nI e)], M)) rfl rfl rfl ?_
  refine ps_st (S' := (2, [(0, .ref m0), (1, .int (nI p0)), (2, .int (nI e))], [.int (nI p0), .int (nI e)], M)) rfl rfl rfl ?_
  refine ps_st (S' := (3, [(0, .ref m0), (1, .int (nI p0)), (2, .int (nI e))], [.int ((nI e) - (nI p0))], M)) rfl rfl rfl ?_
  refine ps_st (S' := (4, [(0, .ref m0), (1, .int (nI p0)), (2, .int (nI e))], [.int 2, .int ((nI e) - (nI p0))], M)) rfl rfl rfl ?_
  refine ps_if2 (S1 := (10, [(0, .ref m0), (1, .int (nI p0)), (2, .int (nI e))], [], M)) (S2 := (7, [(0, .ref m0), (1, .int (nI p0)), (2, .int (nI e))], [], M)) rfl rfl rfl (fun c_4 => ?_) (fun c_4 => ?_)
  · have c_4 : 2 ≤ ((nI e) - (nI p0)) := of_decide_eq_true c_4
    have n_4 : 2 + p0 ≤ e := (le_sub1 (e := e) (p := p0) (k := 2) (by omega) (by omega) (by omega)).mp c_4
    refine ps_st (S' := (11, [(0, .ref m0), (1, .int (nI p0)), (2, .int (nI e))], [.ref m0], M)) rfl rfl rfl ?_
    refine ps_st (S' := (12, [(0, .ref m0), (1, .int (nI p0)), (2, .int (nI e))], [.int (nI p0), .ref m0], M)) rfl rfl rfl ?_
    refine pl_call (a := [.ref m0, .int (nI p0)]) (rest := []) rfl rfl rfl (rd_u2 (n := n) (f := f) (p := p0) hR hF (by omega)) (fun v84 M85 q86 => ?_)
    obtain ⟨rfl, rfl⟩ := q86
    show pl _ _ _ (15, [(0, .ref m0), (1, .int (nI p0)), (2, .int (nI e))], [.int (nI (by2 f p0))], M) _
    have hu_12 := by2_lt f p0
    refine ps_st (S' := (16, [(3, .int (nI (by2 f p0))), (0, .ref m0), (1, .int (nI p0)), (2, .int (nI e))], [], M)) rfl rfl rfl ?_
    refine ps_st (S' := (17, [(3, .int (nI (by2 f p0))), (0, .ref m0), (1, .int (nI p0)), (2, .int (nI e))], [.int (nI p0)], M)) rfl rfl rfl ?_
    refine ps_st (S' := (18, [(3, .int (nI (by2 f p0))), (0, .ref m0), (1, .int (nI p0)), (2, .int (nI e))], [.int 2, .int (nI p0)], M)) rfl rfl rfl ?_
    refine ps_st (S' := (19, [(3, .int (nI (by2 f p0))), (0, .ref m0), (1, .int (nI p0)), (2, .int (nI e))], [.int ((nI p0) + 2)], M)) rfl rfl rfl ?_
    rw [nI_add1 (p := p0) (k := 2) (x := 2) rfl (by omega)]
    show pl _ _ _ (_, [(3, .int (nI (by2 f p0))), (0, .ref m0), (1, .int (nI p0)), (2, .int (nI e))], [.int (nI (p0 + 2))], M) _
    refine ps_st (S' := (21, [(4, .int (nI (p0 + 2))), (3, .int (nI (by2 f p0))), (0, .ref m0), (1, .int (nI p0)), (2, .int (nI e))], [], M)) rfl rfl rfl ?_
    refine ps_st (S' := (22, [(4, .int (nI (p0 + 2))), (3, .int (nI (by2 f p0))), (0, .ref m0), (1, .int (nI p0)), (2, .int (nI e))], [.int 0], M)) rfl rfl rfl ?_
    refine ps_st (S' := (24, [(0, .ref m0), (1, .int (nI p0)), (2, .int (nI e)), (3, .int (nI (by2 f p0))), (4, .int (nI (p0 + 2))), (5, .int 0)], [], M)) rfl rfl rfl ?_
    exact (LL kf).1 (0) (p0 + 2) M I R hR hEI hER hi51 hi52 hi53 hF hY hP (by omega) (by omega) (by omega) (rfl)
  · have c_4 : ¬ (2 ≤ ((nI e) - (nI p0))) := of_decide_eq_false c_4
    have n_4 : ¬ (2 + p0 ≤ e) := fun h8 => c_4 ((le_sub1 (e := e) (p := p0) (k := 2) (by omega) (by omega) (by omega)).mpr h8)
    refine ps_st (S' := (9, [(0, .ref m0), (1, .int (nI p0)), (2, .int (nI e))], [.int 30], M)) rfl rfl rfl ?_
    exact ps_ret rfl rfl (Or.inl ⟨I, R, fe_2 (by omega), rfl, hR, hEI, hER⟩)
