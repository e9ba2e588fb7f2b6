set_option maxHeartbeats 1000000 in
theorem rd_instrB {g : xe_G} {m0 : Nat} {q : Nat → Nat} {z : Nat × Nat} {I : rI} {R : rR} {M : mi_H} {m kk w : Int32} (hR : RS g m0 q z I R M)   (hbad : w < 0 ∨ ¬ w ≤ 4) : pt (mT g) 215 [.ref m0, .int m, .int kk, .int w] M (fun v M' => (∃  (I' : rI) (R' : rR), v = some (.int 0) ∧ RS g m0 q z I' R' M' ∧ eqI [0] I I' ∧ eqR [] R R' ∧ I' 0 = some 1)) := by
  refine pt_in (b := mb_215 g) rfl (fun kf => ?_)
  show pl (mT g) kf (mb_215 g).2 (0, [(0, .ref m0), (1, .int m), (2, .int kk), (3, .int w)], [], M) _
  have hEI : eqI [0] I I := eqI.rf
  have hER : eqR [] R R := eqR.rf
  refine ps_st (S' := (1, [(0, .ref m0), (1, .int m), (2, .int kk), (3, .int w)], [.ref m0], M)) rfl rfl rfl ?_
  refine ps_st (S' := (2, [(0, .ref m0), (1, .int m), (2, .int kk), (3, .int w)], [.int 0, .ref m0], M)) rfl rfl rfl ?_
  refine pr_put (j := 0) rfl hR rfl (fun M1 I2 hR3 hi4 hI5 => ?_)
  have hEI6 := hEI.put hI5 (by decide)
  show pl _ _ _ (5, [(0, .ref m0), (1, .int m), (2, .int kk), (3, .int w)], [], M1) _
  refine ps_st (S' := (6, [(0, .ref m0), (1, .int m), (2, .int kk), (3, .int w)], [.int w], M1)) rfl rfl rfl ?_
  refine ps_if (S1 := (14, [(0, .ref m0)], [], M1)) (S2 := (9, [(0, .ref m0), (1, .int m), (2, .int kk), (3, .int w)], [], M1)) rfl rfl rfl (fun c_6 => ?_) (fun c_6 => ?_)
  · have c_6 : w < 0 := of_decide_eq_true c_6
    refine ps_st (S' := (15, [(0, .ref m0)], [.ref m0], M1)) rfl rfl rfl ?_
    refine pl_call (a := [.ref m0]) (rest := []) rfl rfl rfl (rd_bad hR3) (fun v7 M8 q9 => ?_)
    obtain ⟨I10, R11, rfl, hR12, hI13, hX14, hi15⟩ := q9
    have hEI16 := hEI6.tr hI13 (by decide)
    have hER17 := hER.tr hX14 (by decide)
    show pl _ _ _ (18, [(0, .ref m0)], [.int 0], M8) _
    exact ps_ret rfl rfl (⟨I10, R11, rfl, hR12, hEI16, hER17, hi15⟩)
  · have c_6 : ¬ (w < 0) := of_decide_eq_false c_6
    refine ps_st (S' := (10, [(0, .ref m0), (1, .int m), (2, .int kk), (3, .int w)], [.int w], M1)) rfl rfl rfl ?_
    refine ps_st (S' := (11, [(0, .ref m0), (1, .int m), (2, .int kk), (3, .int w)], [.int 4, .int w], M1)) rfl rfl rfl ?_
    refine ps_if2 (S1 := (19, [(0, .ref m0), (1, .int m), (2, .int kk), (3, .int w)], [], M1)) (S2 := (14, [(0, .ref m0)], [], M1)) rfl rfl rfl (fun c_11 => ?_) (fun c_11 => ?_)
    · have c_11 : w ≤ 4 := of_decide_eq_true c_11
      exact absurd hbad (fun h9 => h9.elim c_6 (fun h8 => h8 c_11))
    · have c_11 : ¬ (w ≤ 4) := of_decide_eq_false c_11
      refine ps_st (S' := (15, [(0, .ref m0)], [.ref m0], M1)) rfl rfl rfl ?_
      refine pl_call (a := [.ref m0]) (rest := []) rfl rfl rfl (rd_bad hR3) (fun v18 M19 q20 => ?_)
      obtain ⟨I21, R22, rfl, hR23, hI24, hX25, hi26⟩ := q20
      have hEI27 := hEI6.tr hI24 (by decide)
      have hER28 := hER.tr hX25 (by decide)
      show pl _ _ _ (18, [(0, .ref m0)], [.int 0], M19) _
      exact ps_ret rfl rfl (⟨I21, R22, rfl, hR23, hEI27, hER28, hi26⟩)
theorem rd_cp {f : Nat → Int32} {n : Nat} {E : List (Nat × Nat)} {p1 pF pM pA : Nat} (h : s_whole f n = .inr (E, p1, pF, pM, pA)) (hr : s_read f n = none) : chkP f n E (by2 f 6) (by2 f 8 - 1) 1 = none := by
  unfold s_read at hr
  rw [h] at hr
  dsimp only at hr
  unfold s_chk at hr
  split at hr
  · cases hr
  · rename_i he
    exact he
theorem rd_cutK8 {g : xe_G} {m0 : Nat} {q : Nat → Nat} {z : Nat × Nat} {I : rI} {R : rR} {M : mi_H} {ko : Option (Nat × (Nat → Int32))} {m : Int32} (hR : RS g m0 q z I R M) (hK : KPR ko I R) : pt (mT g) 199 [.ref m0, .int m] M (fun v M' => ∃ (I' : rI) (R' : rR), v = some (.int (cuK ko m)) ∧ RS g m0 q z I' R' M' ∧ eqI [0, 74, 75, 76, 77, 78, 79] I I' ∧ eqR [80, 81] R R' ∧ ∀ p, ko = some p → CU8 p.2 p.1 I' R') := by
  cases ko with
  | none =>
    obtain ⟨kn, h2, h3⟩ := hK
    exact (rd_cutK hR h2 h3).mono (fun v M' h => by
        obtain ⟨I', R', hv, b1, b2, b3, b4⟩ := h
        exact ⟨I', R', hv, b1, fun k9 h9 => b2 k9 (fun h8 => h9 (by rw [List.mem_singleton.mp h8]; decide)), fun k9 _ => b3 k9 (by simp), fun p e => by cases e⟩)
  | some y =>
    obtain ⟨h2, h3, ⟨-, h8⟩, hrd, tx, cN, A, E, N, mj, p1, pF, pM, pA, k1, k2, k3, k4, k5, k6, k7, rfl, rfl, m1, m2, m3, m4, m5, m6, m7, m8, ⟨a1, a2, a3, a4, a5, s9, a6, a7⟩, -⟩ := hK
    have hN := by2_lt y.2 8
    have hEP := (EP_of (whole_in k7)).1
    have hb2 := mbs_len m6
    rw [cuK_is k7]
    by_cases hi : m < 0 ∨ nI (mbs y.2 y.1 (by2 y.2 pM) (pM + 2)).length ≤ m
    · rw [if_pos hi]
      exact (rd_cutN hR h2 m2 h3 hi).mono (fun v M' h => by
          obtain ⟨I', R', hv, b1, b2, b3, b4⟩ := h
          exact ⟨I', R', hv, b1, fun k9 h9 => b2 k9 (fun h8 => h9 (by rw [List.mem_singleton.mp h8]; decide)), fun k9 _ => b3 k9 (by simp), fun p e => by cases e; exact h8.mono (fun k9 h9 => b2 k9 (by revert k9; decide)) (fun k9 _ => b3 k9 (by simp))⟩)
    · rw [if_neg hi]
      obtain ⟨ei, li⟩ := i32_in hb2 hi
      obtain ⟨k, ek⟩ : ∃ k, k = m.toNatClampNeg := ⟨_, rfl⟩
      rw [← ek] at ei li ⊢
      subst ei
      have hin := code_in k7 hrd m6 li
      by_cases hp : (mK y.2 y.1 E ((mbs y.2 y.1 (by2 y.2 pM) (pM + 2)).getD k 0)).2.1 = 0
      · unfold cuI
        rw [if_pos hp]
        exact (rd_cutC hR h2 m2 a5 h3 li hb2 hp).mono (fun v M' h => by
            obtain ⟨I', R', hv, b1, b2, b3, b4⟩ := h
            exact ⟨I', R', hv, b1, fun k9 h9 => b2 k9 (fun h8 => h9 (by rw [List.mem_singleton.mp h8]; decide)), fun k9 _ => b3 k9 (by simp), fun p e => by cases e; exact h8.mono (fun k9 h9 => b2 k9 (by revert k9; decide)) (fun k9 _ => b3 k9 (by simp))⟩)
      · unfold cuI
        rw [if_neg hp]
        refine (rd_cutV hR k4 k5 k6 a6 h2 m2 k1 k2 k3 a5 (h8 _ _ _ _ _ k7) hEP hN (by2_lt _ _) a7 (CP_of (rd_cp k7 hrd) k3.1) (PF_of (rd_cp k7 hrd) k3.1) h3 li hb2 hp (hin.resolve_left hp)).mono (fun v M' h => ?_)
        obtain ⟨I', R', hv, b1, b2, b3, -, hU⟩ := h
        exact ⟨I', R', hv, b1, b2, b3, fun p e => by
          cases e
          intro E2 q1 qF qM qA h9
          rw [k7] at h9
          cases h9
          exact hU⟩

theorem rd_instrK8g {g : xe_G} {m0 : Nat} {q : Nat → Nat} {z : Nat × Nat} {I : rI} {R : rR} {M : mi_H} {ko : Option (Nat × (Nat → Int32))} {m kk w : Int32} (hR : RS g m0 q z I R M) (hK : KPR ko I R) (hw0 : ¬ w < 0) (hw4 : w ≤ 4) : pt (mT g) 215 [.ref m0, .int m, .int kk, .int w] M (fun v M' => ∃ (x : Int32) (I' : rI) (R' : rR), v = some (.int x) ∧ RS g m0 q z I' R' M' ∧ eqI [0, 74, 75, 76, 77, 78, 79] I I' ∧ eqR [80, 81] R R' ∧ ∀ p, ko = some p → CU8 p.2 p.1 I' R') := by
  cases ko with
  | none =>
    obtain ⟨kn, h2, h3⟩ := hK
    exact (rd_instrK hR h2 h3 hw0 hw4).mono (fun v M' h => by
        obtain ⟨I', R', hv, b1, b2, b3, b4⟩ := h
        exact ⟨_, I', R', hv, b1, fun k9 h9 => b2 k9 (fun h8 => h9 (by rw [List.mem_singleton.mp h8]; decide)), fun k9 _ => b3 k9 (by simp), fun p e => by cases e⟩)
  | some y =>
    obtain ⟨h2, h3, ⟨-, h8⟩, hrd, tx, cN, A, E, N, mj, p1, pF, pM, pA, k1, k2, k3, k4, k5, k6, k7, rfl, rfl, m1, m2, m3, m4, m5, m6, m7, m8, ⟨a1, a2, a3, a4, a5, s9, a6, a7⟩, -⟩ := hK
    have hN := by2_lt y.2 8
    have hEP := (EP_of (whole_in k7)).1
    have hb2 := mbs_len m6
    by_cases hi : m < 0 ∨ nI (mbs y.2 y.1 (by2 y.2 pM) (pM + 2)).length ≤ m
    · exact (rd_instrN hR h2 m2 h3 hi hw0 hw4).mono (fun v M' h => by
          obtain ⟨I', R', hv, b1, b2, b3, b4⟩ := h
          exact ⟨_, I', R', hv, b1, fun k9 h9 => b2 k9 (fun h8 => h9 (by rw [List.mem_singleton.mp h8]; decide)), fun k9 _ => b3 k9 (by simp), fun p e => by cases e; exact h8.mono (fun k9 h9 => b2 k9 (by revert k9; decide)) (fun k9 _ => b3 k9 (by simp))⟩)
    · obtain ⟨ei, li⟩ := i32_in hb2 hi
      obtain ⟨k, ek⟩ : ∃ k, k = m.toNatClampNeg := ⟨_, rfl⟩
      rw [← ek] at ei li
      subst ei
      have hin := code_in k7 hrd m6 li
      by_cases hp : (mK y.2 y.1 E ((mbs y.2 y.1 (by2 y.2 pM) (pM + 2)).getD k 0)).2.1 = 0
      · exact (rd_instrC hR h2 m2 a5 h3 li hb2 hp hw0 hw4).mono (fun v M' h => by
            obtain ⟨I', R', hv, b1, b2, b3, b4⟩ := h
            exact ⟨_, I', R', hv, b1, fun k9 h9 => b2 k9 (fun h8 => h9 (by rw [List.mem_singleton.mp h8]; decide)), fun k9 _ => b3 k9 (by simp), fun p e => by cases e; exact h8.mono (fun k9 h9 => b2 k9 (by revert k9; decide)) (fun k9 _ => b3 k9 (by simp))⟩)
      · refine (rd_instrV hR k4 k5 k6 a6 h2 m2 k1.2.1 k1 k2 k3 a5 (h8 _ _ _ _ _ k7) hEP hN (by2_lt _ _) a7 (CP_of (rd_cp k7 hrd) k3.1) (PF_of (rd_cp k7 hrd) k3.1) h3 li hb2 hp (hin.resolve_left hp) hw0 hw4).mono (fun v M' h => ?_)
        obtain ⟨x, I', R', hv, b1, b2, b3, -, hU⟩ := h
        exact ⟨_, I', R', hv, b1, b2, b3, fun p e => by
          cases e
          intro E2 q1 qF qM qA h9
          rw [k7] at h9
          cases h9
          exact hU⟩

theorem rd_instrK8 {g : xe_G} {m0 : Nat} {q : Nat → Nat} {z : Nat × Nat} {I : rI} {R : rR} {M : mi_H} {ko : Option (Nat × (Nat → Int32))} {m kk w : Int32} (hR : RS g m0 q z I R M) (hK : KPR ko I R) : pt (mT g) 215 [.ref m0, .int m, .int kk, .int w] M (fun v M' => ∃ (x : Int32) (I' : rI) (R' : rR), v = some (.int x) ∧ RS g m0 q z I' R' M' ∧ eqI [0, 74, 75, 76, 77, 78, 79] I I' ∧ eqR [80, 81] R R' ∧ ∀ p, ko = some p → CU8 p.2 p.1 I' R') := by
  by_cases hbad : w < 0 ∨ ¬ w ≤ 4
  · exact (rd_instrB (m := m) (kk := kk) hR hbad).mono (fun v M' h => by
      obtain ⟨I', R', hv, b1, b2, b3, b4⟩ := h
      refine ⟨_, I', R', hv, b1, fun k9 h9 => b2 k9 (fun h8 => h9 (by rw [List.mem_singleton.mp h8]; decide)), fun k9 _ => b3 k9 (by simp), fun p e => ?_⟩
      subst e
      obtain ⟨-, -, ⟨-, h8⟩, -⟩ := hK
      exact h8.mono (fun k9 h9 => b2 k9 (by revert k9; decide)) (fun k9 _ => b3 k9 (by simp)))
  · exact rd_instrK8g hR hK (fun h => hbad (Or.inl h)) (Decidable.not_not.mp (fun h => hbad (Or.inr h)))
