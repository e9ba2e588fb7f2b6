/-! names, types, descriptors on the class's side (laid by wip/p4/d6.py) -/
theorem s_nm_st {c : Nat → Nat} {e i p : Nat} (h : i < e) : s_nm c (e - i) i p = if c i = 59 then (if p < i then some i else none) else if c i = 46 ∨ c i = 91 ∨ (c i = 47 ∧ i = p) then none else s_nm c (e - (i + 1)) (i + 1) (if c i = 47 then i + 1 else p) := by
  rw [show e - i = (e - (i + 1)) + 1 by omega]
  rfl
theorem s_nm_en {c : Nat → Nat} {e i p : Nat} (h : e ≤ i) : s_nm c (e - i) i p = if p < i then some i else none := by
  rw [show e - i = 0 by omega]
  rfl
theorem s_br_st {c : Nat → Nat} {e i : Nat} (h : i < e) : s_br c (e - i) i = if c i = 91 then s_br c (e - (i + 1)) (i + 1) else i := by
  rw [show e - i = (e - (i + 1)) + 1 by omega]
  rfl
theorem s_br_en {c : Nat → Nat} {e i : Nat} (h : e ≤ i) : s_br c (e - i) i = i := by
  rw [show e - i = 0 by omega]
  rfl
set_option maxHeartbeats 1000000 in
theorem dy_nameEnd {g : xe_G} {M : mi_H} {q H m : Nat} {qq : Nat → Nat} {F : Nat → Nat → Int32} {sz cc : Int32} {c : Nat → Nat} {B e : Nat} {i0 : Nat}  (hP : PL M q sz H m qq F cc) (hm : B + e ≤ m ∧ m ≤ 65540) (hc : ∀ i, i < e → F 6 (B + i) = nI (c i) ∧ c i < 65536) (hi : i0 ≤ e) : pt (mT g) 127 [.ref q, .int (nI (B + i0)), .int (nI (B + e))] M (fun v M' => ((s_nm c (e - i0) i0 i0 = none) ∧ v = some (.int (-1)) ∧ M = M') ∨ (∃ (x : Nat), (s_nm c (e - i0) i0 i0 = some x) ∧ v = some (.int (nI (B + x))) ∧ M = M')) := by
  refine pt_in (b := mb_127 g) rfl (fun kf => ?_)
  show pl (mT g) kf (mb_127 g).2 (0, [(0, .ref q), (1, .int (nI (B + i0))), (2, .int (nI (B + e)))], [], M) _
  have h_q := hP.1
  have h_qq_1 := hP.2.1 1 (by decide) (by decide)
  have h_qq_2 := hP.2.1 2 (by decide) (by decide)
  have h_qq_3 := hP.2.1 3 (by decide) (by decide)
  have h_qq_4 := hP.2.1 4 (by decide) (by decide)
  have h_qq_5 := hP.2.1 5 (by decide) (by decide)
  have h_qq_6 := hP.2.2
  have LL : ∀ (kf : Nat), (∀ (i p : Nat), (i0 ≤ i ∧ i ≤ e ∧ p ≤ i) → (s_nm c (e - i) i p = s_nm c (e - i0) i0 i0) →  pl (mT g) kf (mb_127 g).2 (5, [(0, .ref q), (2, .int (nI (B + e))), (3, .int (nI (B + p))), (4, .int (nI (B + i)))], [], M) (fun v M' => ((s_nm c (e - i0) i0 i0 = none) ∧ v = some (.int (-1)) ∧ M = M') ∨ (∃ (x : Nat), (s_nm c (e - i0) i0 i0 = some x) ∧ v = some (.int (nI (B + x))) ∧ M = M'))) := by
    intro kf
    induction kf with
    | zero => exact (by intros; exact pl_0)
    | succ kf ih =>
      intro i p hi2 hs
      refine ps_st1 (S' := (7, [(0, .ref q), (2, .int (nI (B + e))), (3, .int (nI (B + p))), (4, .int (nI (B + i)))], [.int (nI (B + i))], M)) rfl rfl rfl ?_
      refine ps_st (S' := (8, [(0, .ref q), (2, .int (nI (B + e))), (3, .int (nI (B + p))), (4, .int (nI (B + i)))], [.int (nI (B + e)), .int (nI (B + i))], M)) rfl rfl rfl ?_
      refine ps_if2 (S1 := (87, [(0, .ref q), (2, .int (nI (B + e))), (3, .int (nI (B + p))), (4, .int (nI (B + i)))], [], M)) (S2 := (11, [(0, .ref q), (2, .int (nI (B + e))), (3, .int (nI (B + p))), (4, .int (nI (B + i)))], [], M)) rfl rfl rfl (fun c_8 => ?_) (fun c_8 => ?_)
      · have c_8 : (nI (B + e)) ≤ (nI (B + i)) := of_decide_eq_true c_8
        have n_8 : B + e ≤ B + i := (le_nI (p := B + e) (n := B + i) (by omega) (by omega)).mp c_8
        refine ps_st (S' := (88, [(0, .ref q), (2, .int (nI (B + e))), (3, .int (nI (B + p))), (4, .int (nI (B + i)))], [.int (nI (B + e))], M)) rfl rfl rfl ?_
        refine ps_st (S' := (89, [(0, .ref q), (2, .int (nI (B + e))), (3, .int (nI (B + p))), (4, .int (nI (B + i)))], [.int (nI (B + p)), .int (nI (B + e))], M)) rfl rfl rfl ?_
        refine ps_if2 (S1 := (96, [(0, .ref q), (2, .int (nI (B + e))), (3, .int (nI (B + p))), (4, .int (nI (B + i)))], [], M)) (S2 := (92, [(0, .ref q), (2, .int (nI (B + e))), (3, .int (nI (B + p))), (4, .int (nI (B + i)))], [], M)) rfl rfl rfl (fun c_89 => ?_) (fun c_89 => ?_)
        · have c_89 : (nI (B + e)) ≤ (nI (B + p)) := of_decide_eq_true c_89
          have n_89 : B + e ≤ B + p := (le_nI (p := B + e) (n := B + p) (by omega) (by omega)).mp c_89
          refine ps_st (S' := (97, [], [.int (-1)], M)) rfl rfl rfl ?_
          exact ps_ret rfl rfl (Or.inl ⟨by
              rw [← hs, s_nm_en (by omega)]
              repeat' split
              all_goals first | rfl | (exfalso; omega), rfl, rfl⟩)
        · have c_89 : ¬ ((nI (B + e)) ≤ (nI (B + p))) := of_decide_eq_false c_89
          have n_89 : ¬ (B + e ≤ B + p) := fun h9 => c_89 ((le_nI (p := B + e) (n := B + p) (by omega) (by omega)).mpr h9)
          refine ps_st (S' := (93, [(0, .ref q), (2, .int (nI (B + e))), (3, .int (nI (B + p))), (4, .int (nI (B + i)))], [.int (nI (B + e))], M)) rfl rfl rfl ?_
          refine ps_st (S' := (97, [], [.int (nI (B + e))], M)) rfl rfl rfl ?_
          exact ps_reti rfl (Or.inr ⟨i, by
              rw [← hs, s_nm_en (by omega)]
              repeat' split
              all_goals first | rfl | (exfalso; omega), by rw [show e = i by omega], rfl⟩)
      · have c_8 : ¬ ((nI (B + e)) ≤ (nI (B + i))) := of_decide_eq_false c_8
        have n_8 : ¬ (B + e ≤ B + i) := fun h9 => c_8 ((le_nI (p := B + e) (n := B + i) (by omega) (by omega)).mpr h9)
        refine ps_st (S' := (12, [(0, .ref q), (2, .int (nI (B + e))), (3, .int (nI (B + p))), (4, .int (nI (B + i)))], [.ref q], M)) rfl rfl rfl ?_
        refine ps_get (S' := (15, [(0, .ref q), (2, .int (nI (B + e))), (3, .int (nI (B + p))), (4, .int (nI (B + i)))], [.ref (qq 6)], M)) rfl h_q rfl rfl ?_
        refine ps_st (S' := (17, [(0, .ref q), (2, .int (nI (B + e))), (3, .int (nI (B + p))), (4, .int (nI (B + i)))], [.int (nI (B + i)), .ref (qq 6)], M)) rfl rfl rfl ?_
        refine ps_ald (S' := (18, [(0, .ref q), (2, .int (nI (B + e))), (3, .int (nI (B + p))), (4, .int (nI (B + i)))], [.int ((F 6) (Int32.toNatClampNeg (nI (B + i))))], M)) rfl h_qq_6 rfl (fun i0_17 i1_17 => ?_)
        have hb_17 := (hc (i) (by omega)).2
        rw [show ((F 6) (Int32.toNatClampNeg (nI (B + i)))) = (nI (c i)) from (congrArg (F 6) (nI_toNat (k := B + i) (by omega))).trans ((hc (i) (by omega)).1)]
        show pl _ _ _ (_, [(0, .ref q), (2, .int (nI (B + e))), (3, .int (nI (B + p))), (4, .int (nI (B + i)))], [.int (nI (c i))], M) _
        refine ps_st (S' := (20, [(5, .int (nI (c i))), (0, .ref q), (2, .int (nI (B + e))), (3, .int (nI (B + p))), (4, .int (nI (B + i)))], [], M)) rfl rfl rfl ?_
        refine ps_st (S' := (22, [(5, .int (nI (c i))), (0, .ref q), (2, .int (nI (B + e))), (3, .int (nI (B + p))), (4, .int (nI (B + i)))], [.int (nI (c i))], M)) rfl rfl rfl ?_
        refine ps_st (S' := (24, [(5, .int (nI (c i))), (0, .ref q), (2, .int (nI (B + e))), (3, .int (nI (B + p))), (4, .int (nI (B + i)))], [.int 59, .int (nI (c i))], M)) rfl rfl rfl ?_
        refine ps_if2 (S1 := (40, [(5, .int (nI (c i))), (0, .ref q), (2, .int (nI (B + e))), (3, .int (nI (B + p))), (4, .int (nI (B + i)))], [], M)) (S2 := (27, [(5, .int (nI (c i))), (0, .ref q), (2, .int (nI (B + e))), (3, .int (nI (B + p))), (4, .int (nI (B + i)))], [], M)) rfl rfl rfl (fun c_24 => ?_) (fun c_24 => ?_)
        · have c_24 : ¬ (nI (c i)) = 59 := of_decide_eq_true c_24
          have n_24 : ¬ (c i = 59) := fun h9 => c_24 ((eq_nI (p := c i) (n := 59) (by omega) (by decide)).mpr h9)
          refine ps_st (S' := (42, [(5, .int (nI (c i))), (0, .ref q), (2, .int (nI (B + e))), (3, .int (nI (B + p))), (4, .int (nI (B + i)))], [.int (nI (c i))], M)) rfl rfl rfl ?_
          refine ps_st (S' := (44, [(5, .int (nI (c i))), (0, .ref q), (2, .int (nI (B + e))), (3, .int (nI (B + p))), (4, .int (nI (B + i)))], [.int 46, .int (nI (c i))], M)) rfl rfl rfl ?_
          refine ps_if2 (S1 := (67, [], [], M)) (S2 := (47, [(5, .int (nI (c i))), (0, .ref q), (2, .int (nI (B + e))), (3, .int (nI (B + p))), (4, .int (nI (B + i)))], [], M)) rfl rfl rfl (fun c_44 => ?_) (fun c_44 => ?_)
          · have c_44 : (nI (c i)) = 46 := of_decide_eq_true c_44
            have n_44 : c i = 46 := (eq_nI (p := c i) (n := 46) (by omega) (by decide)).mp c_44
            refine ps_st (S' := (68, [], [.int (-1)], M)) rfl rfl rfl ?_
            exact ps_ret rfl rfl (Or.inl ⟨by
                rw [← hs, s_nm_st (i := i) (by omega)]
                repeat' split
                all_goals first | rfl | (exfalso; omega), rfl, rfl⟩)
          · have c_44 : ¬ ((nI (c i)) = 46) := of_decide_eq_false c_44
            have n_44 : ¬ (c i = 46) := fun h9 => c_44 ((eq_nI (p := c i) (n := 46) (by omega) (by decide)).mpr h9)
            refine ps_st (S' := (49, [(5, .int (nI (c i))), (0, .ref q), (2, .int (nI (B + e))), (3, .int (nI (B + p))), (4, .int (nI (B + i)))], [.int (nI (c i))], M)) rfl rfl rfl ?_
            refine ps_st (S' := (51, [(5, .int (nI (c i))), (0, .ref q), (2, .int (nI (B + e))), (3, .int (nI (B + p))), (4, .int (nI (B + i)))], [.int 91, .int (nI (c i))], M)) rfl rfl rfl ?_
            refine ps_if2 (S1 := (67, [], [], M)) (S2 := (54, [(5, .int (nI (c i))), (0, .ref q), (2, .int (nI (B + e))), (3, .int (nI (B + p))), (4, .int (nI (B + i)))], [], M)) rfl rfl rfl (fun c_51 => ?_) (fun c_51 => ?_)
            · have c_51 : (nI (c i)) = 91 := of_decide_eq_true c_51
              have n_51 : c i = 91 := (eq_nI (p := c i) (n := 91) (by omega) (by decide)).mp c_51
              refine ps_st (S' := (68, [], [.int (-1)], M)) rfl rfl rfl ?_
              exact ps_ret rfl rfl (Or.inl ⟨by
                  rw [← hs, s_nm_st (i := i) (by omega)]
                  repeat' split
                  all_goals first | rfl | (exfalso; omega), rfl, rfl⟩)
            · have c_51 : ¬ ((nI (c i)) = 91) := of_decide_eq_false c_51
              have n_51 : ¬ (c i = 91) := fun h9 => c_51 ((eq_nI (p := c i) (n := 91) (by omega) (by decide)).mpr h9)
              refine ps_st (S' := (56, [(5, .int (nI (c i))), (0, .ref q), (2, .int (nI (B + e))), (3, .int (nI (B + p))), (4, .int (nI (B + i)))], [.int (nI (c i))], M)) rfl rfl rfl ?_
              refine ps_st (S' := (58, [(5, .int (nI (c i))), (0, .ref q), (2, .int (nI (B + e))), (3, .int (nI (B + p))), (4, .int (nI (B + i)))], [.int 47, .int (nI (c i))], M)) rfl rfl rfl ?_
              refine ps_if2 (S1 := (69, [(0, .ref q), (2, .int (nI (B + e))), (3, .int (nI (B + p))), (4, .int (nI (B + i))), (5, .int (nI (c i)))], [], M)) (S2 := (61, [(5, .int (nI (c i))), (0, .ref q), (2, .int (nI (B + e))), (3, .int (nI (B + p))), (4, .int (nI (B + i)))], [], M)) rfl rfl rfl (fun c_58 => ?_) (fun c_58 => ?_)
              · have c_58 : ¬ (nI (c i)) = 47 := of_decide_eq_true c_58
                have n_58 : ¬ (c i = 47) := fun h9 => c_58 ((eq_nI (p := c i) (n := 47) (by omega) (by decide)).mpr h9)
                refine ps_st (S' := (71, [(0, .ref q), (2, .int (nI (B + e))), (3, .int (nI (B + p))), (4, .int (nI (B + i))), (5, .int (nI (c i)))], [.int (nI (c i))], M)) rfl rfl rfl ?_
                refine ps_st (S' := (73, [(0, .ref q), (2, .int (nI (B + e))), (3, .int (nI (B + p))), (4, .int (nI (B + i))), (5, .int (nI (c i)))], [.int 47, .int (nI (c i))], M)) rfl rfl rfl ?_
                refine ps_if2 (S1 := (81, [(0, .ref q), (2, .int (nI (B + e))), (3, .int (nI (B + p))), (4, .int (nI (B + i)))], [], M)) (S2 := (76, [(0, .ref q), (2, .int (nI (B + e))), (3, .int (nI (B + p))), (4, .int (nI (B + i))), (5, .int (nI (c i)))], [], M)) rfl rfl rfl (fun c_73 => ?_) (fun c_73 => ?_)
                · have c_73 : ¬ (nI (c i)) = 47 := of_decide_eq_true c_73
                  have n_73 : ¬ (c i = 47) := fun h9 => c_73 ((eq_nI (p := c i) (n := 47) (by omega) (by decide)).mpr h9)
                  refine ps_st (S' := (84, [(4, .int ((nI (B + i)) + 1)), (0, .ref q), (2, .int (nI (B + e))), (3, .int (nI (B + p)))], [], M)) rfl rfl rfl ?_
                  rw [nI_add1 (p := B + i) (k := 1) (x := 1) rfl (by omega)]
                  show pl _ _ _ (_, [(4, .int (nI (B + i + 1))), (0, .ref q), (2, .int (nI (B + e))), (3, .int (nI (B + p)))], [], M) _
                  refine ps_st (S' := (5, [(0, .ref q), (2, .int (nI (B + e))), (3, .int (nI (B + p))), (4, .int (nI (B + i + 1)))], [], M)) rfl rfl rfl ?_
                  exact ih (i + 1) (p)  (by omega) (by
                      rw [← hs, s_nm_st (i := i) (by omega), if_neg (by omega), if_neg (by omega), if_neg (by omega)])
                · have c_73 : ¬ (¬ (nI (c i)) = 47) := of_decide_eq_false c_73
                  have n_73 : c i = 47 := (eq_nI (p := c i) (n := 47) (by omega) (by decide)).mp (Decidable.not_not.mp c_73)
                  refine ps_st (S' := (78, [(0, .ref q), (2, .int (nI (B + e))), (3, .int (nI (B + p))), (4, .int (nI (B + i))), (5, .int (nI (c i)))], [.int (nI (B + i))], M)) rfl rfl rfl ?_
                  refine ps_st (S' := (79, [(0, .ref q), (2, .int (nI (B + e))), (3, .int (nI (B + p))), (4, .int (nI (B + i))), (5, .int (nI (c i)))], [.int 1, .int (nI (B + i))], M)) rfl rfl rfl ?_
                  refine ps_st (S' := (80, [(0, .ref q), (2, .int (nI (B + e))), (3, .int (nI (B + p))), (4, .int (nI (B + i))), (5, .int (nI (c i)))], [.int ((nI (B + i)) + 1)], M)) rfl rfl rfl ?_
                  rw [nI_add1 (p := B + i) (k := 1) (x := 1) rfl (by omega)]
                  show pl _ _ _ (_, [(0, .ref q), (2, .int (nI (B + e))), (3, .int (nI (B + p))), (4, .int (nI (B + i))), (5, .int (nI (c i)))], [.int (nI (B + i + 1))], M) _
                  refine ps_st (S' := (81, [(0, .ref q), (2, .int (nI (B + e))), (3, .int (nI (B + i + 1))), (4, .int (nI (B + i)))], [], M)) rfl rfl rfl ?_
                  refine ps_st (S' := (84, [(4, .int ((nI (B + i)) + 1)), (0, .ref q), (2, .int (nI (B + e))), (3, .int (nI (B + i + 1)))], [], M)) rfl rfl rfl ?_
                  rw [nI_add1 (p := B + i) (k := 1) (x := 1) rfl (by omega)]
                  show pl _ _ _ (_, [(4, .int (nI (B + i + 1))), (0, .ref q), (2, .int (nI (B + e))), (3, .int (nI (B + i + 1)))], [], M) _
                  refine ps_st (S' := (5, [(0, .ref q), (2, .int (nI (B + e))), (3, .int (nI (B + i + 1))), (4, .int (nI (B + i + 1)))], [], M)) rfl rfl rfl ?_
                  exact ih (i + 1) (i + 1)  (by omega) (by
                      rw [← hs, s_nm_st (i := i) (by omega), if_neg (by omega), if_neg (by omega), if_pos (by omega)])
              · have c_58 : ¬ (¬ (nI (c i)) = 47) := of_decide_eq_false c_58
                have n_58 : c i = 47 := (eq_nI (p := c i) (n := 47) (by omega) (by decide)).mp (Decidable.not_not.mp c_58)
                refine ps_st (S' := (63, [(5, .int (nI (c i))), (0, .ref q), (2, .int (nI (B + e))), (3, .int (nI (B + p))), (4, .int (nI (B + i)))], [.int (nI (B + i))], M)) rfl rfl rfl ?_
                refine ps_st (S' := (64, [(5, .int (nI (c i))), (0, .ref q), (2, .int (nI (B + e))), (3, .int (nI (B + p))), (4, .int (nI (B + i)))], [.int (nI (B + p)), .int (nI (B + i))], M)) rfl rfl rfl ?_
                refine ps_if2 (S1 := (69, [(0, .ref q), (2, .int (nI (B + e))), (3, .int (nI (B + p))), (4, .int (nI (B + i))), (5, .int (nI (c i)))], [], M)) (S2 := (67, [], [], M)) rfl rfl rfl (fun c_64 => ?_) (fun c_64 => ?_)
                · have c_64 : ¬ (nI (B + i)) = (nI (B + p)) := of_decide_eq_true c_64
                  have n_64 : ¬ (B + i = B + p) := fun h9 => c_64 ((eq_nI (p := B + i) (n := B + p) (by omega) (by omega)).mpr h9)
                  refine ps_st (S' := (71, [(0, .ref q), (2, .int (nI (B + e))), (3, .int (nI (B + p))), (4, .int (nI (B + i))), (5, .int (nI (c i)))], [.int (nI (c i))], M)) rfl rfl rfl ?_
                  refine ps_st (S' := (73, [(0, .ref q), (2, .int (nI (B + e))), (3, .int (nI (B + p))), (4, .int (nI (B + i))), (5, .int (nI (c i)))], [.int 47, .int (nI (c i))], M)) rfl rfl rfl ?_
                  refine ps_if2 (S1 := (81, [(0, .ref q), (2, .int (nI (B + e))), (3, .int (nI (B + p))), (4, .int (nI (B + i)))], [], M)) (S2 := (76, [(0, .ref q), (2, .int (nI (B + e))), (3, .int (nI (B + p))), (4, .int (nI (B + i))), (5, .int (nI (c i)))], [], M)) rfl rfl rfl (fun c_73 => ?_) (fun c_73 => ?_)
                  · have c_73 : ¬ (nI (c i)) = 47 := of_decide_eq_true c_73
                    have n_73 : ¬ (c i = 47) := fun h9 => c_73 ((eq_nI (p := c i) (n := 47) (by omega) (by decide)).mpr h9)
                    refine ps_st (S' := (84, [(4, .int ((nI (B + i)) + 1)), (0, .ref q), (2, .int (nI (B + e))), (3, .int (nI (B + p)))], [], M)) rfl rfl rfl ?_
                    rw [nI_add1 (p := B + i) (k := 1) (x := 1) rfl (by omega)]
                    show pl _ _ _ (_, [(4, .int (nI (B + i + 1))), (0, .ref q), (2, .int (nI (B + e))), (3, .int (nI (B + p)))], [], M) _
                    refine ps_st (S' := (5, [(0, .ref q), (2, .int (nI (B + e))), (3, .int (nI (B + p))), (4, .int (nI (B + i + 1)))], [], M)) rfl rfl rfl ?_
                    exact ih (i + 1) (p)  (by omega) (by
                        rw [← hs, s_nm_st (i := i) (by omega), if_neg (by omega), if_neg (by omega), if_neg (by omega)])
                  · have c_73 : ¬ (¬ (nI (c i)) = 47) := of_decide_eq_false c_73
                    have n_73 : c i = 47 := (eq_nI (p := c i) (n := 47) (by omega) (by decide)).mp (Decidable.not_not.mp c_73)
                    refine ps_st (S' := (78, [(0, .ref q), (2, .int (nI (B + e))), (3, .int (nI (B + p))), (4, .int (nI (B + i))), (5, .int (nI (c i)))], [.int (nI (B + i))], M)) rfl rfl rfl ?_
                    refine ps_st (S' := (79, [(0, .ref q), (2, .int (nI (B + e))), (3, .int (nI (B + p))), (4, .int (nI (B + i))), (5, .int (nI (c i)))], [.int 1, .int (nI (B + i))], M)) rfl rfl rfl ?_
                    refine ps_st (S' := (80, [(0, .ref q), (2, .int (nI (B + e))), (3, .int (nI (B + p))), (4, .int (nI (B + i))), (5, .int (nI (c i)))], [.int ((nI (B + i)) + 1)], M)) rfl rfl rfl ?_
                    rw [nI_add1 (p := B + i) (k := 1) (x := 1) rfl (by omega)]
                    show pl _ _ _ (_, [(0, .ref q), (2, .int (nI (B + e))), (3, .int (nI (B + p))), (4, .int (nI (B + i))), (5, .int (nI (c i)))], [.int (nI (B + i + 1))], M) _
                    refine ps_st (S' := (81, [(0, .ref q), (2, .int (nI (B + e))), (3, .int (nI (B + i + 1))), (4, .int (nI (B + i)))], [], M)) rfl rfl rfl ?_
                    refine ps_st (S' := (84, [(4, .int ((nI (B + i)) + 1)), (0, .ref q), (2, .int (nI (B + e))), (3, .int (nI (B + i + 1)))], [], M)) rfl rfl rfl ?_
                    rw [nI_add1 (p := B + i) (k := 1) (x := 1) rfl (by omega)]
                    show pl _ _ _ (_, [(4, .int (nI (B + i + 1))), (0, .ref q), (2, .int (nI (B + e))), (3, .int (nI (B + i + 1)))], [], M) _
                    refine ps_st (S' := (5, [(0, .ref q), (2, .int (nI (B + e))), (3, .int (nI (B + i + 1))), (4, .int (nI (B + i + 1)))], [], M)) rfl rfl rfl ?_
                    exact ih (i + 1) (i + 1)  (by omega) (by
                        rw [← hs, s_nm_st (i := i) (by omega), if_neg (by omega), if_neg (by omega), if_pos (by omega)])
                · have c_64 : ¬ (¬ (nI (B + i)) = (nI (B + p))) := of_decide_eq_false c_64
                  have n_64 : B + i = B + p := (eq_nI (p := B + i) (n := B + p) (by omega) (by omega)).mp (Decidable.not_not.mp c_64)
                  refine ps_st (S' := (68, [], [.int (-1)], M)) rfl rfl rfl ?_
                  exact ps_ret rfl rfl (Or.inl ⟨by
                      rw [← hs, s_nm_st (i := i) (by omega)]
                      repeat' split
                      all_goals first | rfl | (exfalso; omega), rfl, rfl⟩)
        · have c_24 : ¬ (¬ (nI (c i)) = 59) := of_decide_eq_false c_24
          have n_24 : c i = 59 := (eq_nI (p := c i) (n := 59) (by omega) (by decide)).mp (Decidable.not_not.mp c_24)
          refine ps_st (S' := (29, [(5, .int (nI (c i))), (0, .ref q), (2, .int (nI (B + e))), (3, .int (nI (B + p))), (4, .int (nI (B + i)))], [.int (nI (B + i))], M)) rfl rfl rfl ?_
          refine ps_st (S' := (30, [(5, .int (nI (c i))), (0, .ref q), (2, .int (nI (B + e))), (3, .int (nI (B + p))), (4, .int (nI (B + i)))], [.int (nI (B + p)), .int (nI (B + i))], M)) rfl rfl rfl ?_
          refine ps_if2 (S1 := (38, [(5, .int (nI (c i))), (0, .ref q), (2, .int (nI (B + e))), (3, .int (nI (B + p))), (4, .int (nI (B + i)))], [], M)) (S2 := (33, [(5, .int (nI (c i))), (0, .ref q), (2, .int (nI (B + e))), (3, .int (nI (B + p))), (4, .int (nI (B + i)))], [], M)) rfl rfl rfl (fun c_30 => ?_) (fun c_30 => ?_)
          · have c_30 : (nI (B + i)) ≤ (nI (B + p)) := of_decide_eq_true c_30
            have n_30 : B + i ≤ B + p := (le_nI (p := B + i) (n := B + p) (by omega) (by omega)).mp c_30
            refine ps_st (S' := (39, [], [.int (-1)], M)) rfl rfl rfl ?_
            exact ps_ret rfl rfl (Or.inl ⟨by
                rw [← hs, s_nm_st (i := i) (by omega)]
                repeat' split
                all_goals first | rfl | (exfalso; omega), rfl, rfl⟩)
          · have c_30 : ¬ ((nI (B + i)) ≤ (nI (B + p))) := of_decide_eq_false c_30
            have n_30 : ¬ (B + i ≤ B + p) := fun h9 => c_30 ((le_nI (p := B + i) (n := B + p) (by omega) (by omega)).mpr h9)
            refine ps_st (S' := (35, [(5, .int (nI (c i))), (0, .ref q), (2, .int (nI (B + e))), (3, .int (nI (B + p))), (4, .int (nI (B + i)))], [.int (nI (B + i))], M)) rfl rfl rfl ?_
            refine ps_st (S' := (39, [], [.int (nI (B + i))], M)) rfl rfl rfl ?_
            exact ps_reti rfl (Or.inr ⟨i, by
                rw [← hs, s_nm_st (i := i) (by omega)]
                repeat' split
                all_goals first | rfl | (exfalso; omega), rfl, rfl⟩)
  refine ps_st (S' := (1, [(0, .ref q), (1, .int (nI (B + i0))), (2, .int (nI (B + e)))], [.int (nI (B + i0))], M)) rfl rfl rfl ?_
  refine ps_st (S' := (2, [(3, .int (nI (B + i0))), (0, .ref q), (1, .int (nI (B + i0))), (2, .int (nI (B + e)))], [], M)) rfl rfl rfl ?_
  refine ps_st (S' := (3, [(3, .int (nI (B + i0))), (0, .ref q), (1, .int (nI (B + i0))), (2, .int (nI (B + e)))], [.int (nI (B + i0))], M)) rfl rfl rfl ?_
  refine ps_st (S' := (5, [(0, .ref q), (2, .int (nI (B + e))), (3, .int (nI (B + i0))), (4, .int (nI (B + i0)))], [], M)) rfl rfl rfl ?_
  exact (LL kf) (i0) (i0)  (by omega) (rfl)
set_option maxHeartbeats 1000000 in
theorem dy_typeEnd {g : xe_G} {M : mi_H} {q H m : Nat} {qq : Nat → Nat} {F : Nat → Nat → Int32} {sz cc : Int32} {c : Nat → Nat} {B e : Nat} {i0 : Nat}  (hP : PL M q sz H m qq F cc) (hm : B + e ≤ m ∧ m ≤ 65540) (hc : ∀ i, i < e → F 6 (B + i) = nI (c i) ∧ c i < 65536) (hi : i0 ≤ e) : pt (mT g) 142 [.ref q, .int (nI (B + i0)), .int (nI (B + e))] M (fun v M' => ((s_ty c e i0 = none) ∧ v = some (.int (-1)) ∧ M = M') ∨ (∃ (x : Nat), (s_ty c e i0 = some x) ∧ v = some (.int (nI (B + x))) ∧ M = M')) := by
  refine pt_in (b := mb_142 g) rfl (fun kf => ?_)
  show pl (mT g) kf (mb_142 g).2 (0, [(0, .ref q), (1, .int (nI (B + i0))), (2, .int (nI (B + e)))], [], M) _
  have h_q := hP.1
  have h_qq_1 := hP.2.1 1 (by decide) (by decide)
  have h_qq_2 := hP.2.1 2 (by decide) (by decide)
  have h_qq_3 := hP.2.1 3 (by decide) (by decide)
  have h_qq_4 := hP.2.1 4 (by decide) (by decide)
  have h_qq_5 := hP.2.1 5 (by decide) (by decide)
  have h_qq_6 := hP.2.2
  have LL : ∀ (kf : Nat), (∀ (k : Nat), (i0 ≤ k ∧ k ≤ e) → (s_br c (e - k) k = s_br c (e - i0) i0) →  pl (mT g) kf (mb_142 g).2 (2, [(0, .ref q), (1, .int (nI (B + i0))), (2, .int (nI (B + e))), (3, .int (nI (B + k)))], [], M) (fun v M' => ((s_ty c e i0 = none) ∧ v = some (.int (-1)) ∧ M = M') ∨ (∃ (x : Nat), (s_ty c e i0 = some x) ∧ v = some (.int (nI (B + x))) ∧ M = M'))) := by
    intro kf
    induction kf with
    | zero => exact (by intros; exact pl_0)
    | succ kf ih =>
      intro k hi2 hs
      refine ps_st1 (S' := (3, [(0, .ref q), (1, .int (nI (B + i0))), (2, .int (nI (B + e))), (3, .int (nI (B + k)))], [.int (nI (B + k))], M)) rfl rfl rfl ?_
      refine ps_st (S' := (4, [(0, .ref q), (1, .int (nI (B + i0))), (2, .int (nI (B + e))), (3, .int (nI (B + k)))], [.int (nI (B + e)), .int (nI (B + k))], M)) rfl rfl rfl ?_
      refine ps_if2 (S1 := (24, [(0, .ref q), (1, .int (nI (B + i0))), (2, .int (nI (B + e))), (3, .int (nI (B + k)))], [], M)) (S2 := (7, [(0, .ref q), (1, .int (nI (B + i0))), (2, .int (nI (B + e))), (3, .int (nI (B + k)))], [], M)) rfl rfl rfl (fun c_4 => ?_) (fun c_4 => ?_)
      · have c_4 : (nI (B + e)) ≤ (nI (B + k)) := of_decide_eq_true c_4
        have n_4 : B + e ≤ B + k := (le_nI (p := B + e) (n := B + k) (by omega) (by omega)).mp c_4
        refine ps_st (S' := (25, [(0, .ref q), (1, .int (nI (B + i0))), (2, .int (nI (B + e))), (3, .int (nI (B + k)))], [.int (nI (B + k))], M)) rfl rfl rfl ?_
        refine ps_st (S' := (26, [(0, .ref q), (1, .int (nI (B + i0))), (2, .int (nI (B + e))), (3, .int (nI (B + k)))], [.int (nI (B + e)), .int (nI (B + k))], M)) rfl rfl rfl ?_
        refine ps_if2 (S1 := (38, [], [], M)) (S2 := (29, [(0, .ref q), (1, .int (nI (B + i0))), (2, .int (nI (B + e))), (3, .int (nI (B + k)))], [], M)) rfl rfl rfl (fun c_26 => ?_) (fun c_26 => ?_)
        · have c_26 : (nI (B + e)) ≤ (nI (B + k)) := of_decide_eq_true c_26
          have n_26 : B + e ≤ B + k := (le_nI (p := B + e) (n := B + k) (by omega) (by omega)).mp c_26
          refine ps_st (S' := (39, [], [.int (-1)], M)) rfl rfl rfl ?_
          exact ps_ret rfl rfl (Or.inl ⟨by
              have hb : s_br c (e - i0) i0 = k := by rw [← hs, s_br_en (by omega)]
              unfold s_ty
              rw [hb]
              repeat' split
              all_goals first | rfl | (exfalso; omega), rfl, rfl⟩)
        · have c_26 : ¬ ((nI (B + e)) ≤ (nI (B + k))) := of_decide_eq_false c_26
          have n_26 : ¬ (B + e ≤ B + k) := fun h9 => c_26 ((le_nI (p := B + e) (n := B + k) (by omega) (by omega)).mpr h9)
          refine ps_st (S' := (30, [(0, .ref q), (1, .int (nI (B + i0))), (2, .int (nI (B + e))), (3, .int (nI (B + k)))], [.int (nI (B + k))], M)) rfl rfl rfl ?_
          refine ps_st (S' := (31, [(0, .ref q), (1, .int (nI (B + i0))), (2, .int (nI (B + e))), (3, .int (nI (B + k)))], [.int (nI (B + i0)), .int (nI (B + k))], M)) rfl rfl rfl ?_
          refine ps_st (S' := (32, [(0, .ref q), (1, .int (nI (B + i0))), (2, .int (nI (B + e))), (3, .int (nI (B + k)))], [.int ((nI (B + k)) - (nI (B + i0)))], M)) rfl rfl rfl ?_
          rw [nI_sub1 (p := B + k) (k := B + i0) (x := (nI (B + i0))) rfl (by omega) (by omega)]
          show pl _ _ _ (_, [(0, .ref q), (1, .int (nI (B + i0))), (2, .int (nI (B + e))), (3, .int (nI (B + k)))], [.int (nI ((B + k) - (B + i0)))], M) _
          refine ps_st (S' := (35, [(0, .ref q), (1, .int (nI (B + i0))), (2, .int (nI (B + e))), (3, .int (nI (B + k)))], [.int 255, .int (nI ((B + k) - (B + i0)))], M)) rfl rfl rfl ?_
          refine ps_if2 (S1 := (40, [(0, .ref q), (1, .int (nI (B + i0))), (2, .int (nI (B + e))), (3, .int (nI (B + k)))], [], M)) (S2 := (38, [], [], M)) rfl rfl rfl (fun c_35 => ?_) (fun c_35 => ?_)
          · have c_35 : (nI ((B + k) - (B + i0))) ≤ 255 := of_decide_eq_true c_35
            have n_35 : (B + k) - (B + i0) ≤ 255 := (le_nI (p := (B + k) - (B + i0)) (n := 255) (by omega) (by decide)).mp c_35
            refine ps_st (S' := (41, [(0, .ref q), (1, .int (nI (B + i0))), (2, .int (nI (B + e))), (3, .int (nI (B + k)))], [.ref q], M)) rfl rfl rfl ?_
            refine ps_get (S' := (44, [(0, .ref q), (1, .int (nI (B + i0))), (2, .int (nI (B + e))), (3, .int (nI (B + k)))], [.ref (qq 6)], M)) rfl h_q rfl rfl ?_
            refine ps_st (S' := (45, [(0, .ref q), (1, .int (nI (B + i0))), (2, .int (nI (B + e))), (3, .int (nI (B + k)))], [.int (nI (B + k)), .ref (qq 6)], M)) rfl rfl rfl ?_
            refine ps_ald (S' := (46, [(0, .ref q), (1, .int (nI (B + i0))), (2, .int (nI (B + e))), (3, .int (nI (B + k)))], [.int ((F 6) (Int32.toNatClampNeg (nI (B + k))))], M)) rfl h_qq_6 rfl (fun i0_45 i1_45 => ?_)
            have hb_45 := (hc (k) (by omega)).2
            rw [show ((F 6) (Int32.toNatClampNeg (nI (B + k)))) = (nI (c k)) from (congrArg (F 6) (nI_toNat (k := B + k) (by omega))).trans ((hc (k) (by omega)).1)]
            show pl _ _ _ (_, [(0, .ref q), (1, .int (nI (B + i0))), (2, .int (nI (B + e))), (3, .int (nI (B + k)))], [.int (nI (c k))], M) _
            refine pl_sw rfl (fun t_46 et_46 => ?_)
            have ht_46 : t_46 ∈ [160, 164, 194] := mi_sw_sub et_46 (by decide)
            simp only [List.mem_cons, List.not_mem_nil, or_false] at ht_46
            rcases ht_46 with rfl | rfl | rfl
            · show pl _ _ _ (160, [(0, .ref q), (1, .int (nI (B + i0))), (2, .int (nI (B + e))), (3, .int (nI (B + k)))], [], M) _
              have m_46 := sw_nat (t := c k) (by omega) et_46
              simp at m_46
              refine ps_st (S' := (161, [(0, .ref q), (1, .int (nI (B + i0))), (2, .int (nI (B + e))), (3, .int (nI (B + k)))], [.int (nI (B + k))], M)) rfl rfl rfl ?_
              refine ps_st (S' := (162, [(0, .ref q), (1, .int (nI (B + i0))), (2, .int (nI (B + e))), (3, .int (nI (B + k)))], [.int 1, .int (nI (B + k))], M)) rfl rfl rfl ?_
              refine ps_st (S' := (163, [(0, .ref q), (1, .int (nI (B + i0))), (2, .int (nI (B + e))), (3, .int (nI (B + k)))], [.int ((nI (B + k)) + 1)], M)) rfl rfl rfl ?_
              rw [nI_add1 (p := B + k) (k := 1) (x := 1) rfl (by omega)]
              show pl _ _ _ (_, [(0, .ref q), (1, .int (nI (B + i0))), (2, .int (nI (B + e))), (3, .int (nI (B + k)))], [.int (nI (B + k + 1))], M) _
              exact ps_reti rfl (Or.inr ⟨k + 1, by
                  have hb : s_br c (e - i0) i0 = k := by rw [← hs, s_br_en (by omega)]
                  unfold s_ty
                  rw [hb]
                  repeat' split
                  all_goals first | rfl | (exfalso; omega), rfl, rfl⟩)
            · show pl _ _ _ (164, [(0, .ref q), (1, .int (nI (B + i0))), (2, .int (nI (B + e))), (3, .int (nI (B + k)))], [], M) _
              have m_46 := sw_nat (t := c k) (by omega) et_46
              simp at m_46
              refine ps_st (S' := (165, [(0, .ref q), (1, .int (nI (B + i0))), (2, .int (nI (B + e))), (3, .int (nI (B + k)))], [.ref q], M)) rfl rfl rfl ?_
              refine ps_st (S' := (166, [(0, .ref q), (1, .int (nI (B + i0))), (2, .int (nI (B + e))), (3, .int (nI (B + k)))], [.int (nI (B + k)), .ref q], M)) rfl rfl rfl ?_
              refine ps_st (S' := (167, [(0, .ref q), (1, .int (nI (B + i0))), (2, .int (nI (B + e))), (3, .int (nI (B + k)))], [.int 1, .int (nI (B + k)), .ref q], M)) rfl rfl rfl ?_
              refine ps_st (S' := (168, [(0, .ref q), (1, .int (nI (B + i0))), (2, .int (nI (B + e))), (3, .int (nI (B + k)))], [.int ((nI (B + k)) + 1), .ref q], M)) rfl rfl rfl ?_
              rw [nI_add1 (p := B + k) (k := 1) (x := 1) rfl (by omega)]
              show pl _ _ _ (_, [(0, .ref q), (1, .int (nI (B + i0))), (2, .int (nI (B + e))), (3, .int (nI (B + k)))], [.int (nI (B + k + 1)), .ref q], M) _
              refine ps_st (S' := (169, [(0, .ref q), (1, .int (nI (B + i0))), (2, .int (nI (B + e))), (3, .int (nI (B + k)))], [.int (nI (B + e)), .int (nI (B + k + 1)), .ref q], M)) rfl rfl rfl ?_
              refine pl_call (a := [.ref q, .int (nI (B + k + 1)), .int (nI (B + e))]) (rest := []) rfl rfl rfl (dy_nameEnd (q := q) (c := c) (B := B) (e := e) (i0 := (k + 1)) (hP) (hm) (hc) (by omega)) (fun v1 M2 q3 => ?_)
              rcases q3 with q3 | q3
              · skip
                obtain ⟨q169_s, rfl, rfl⟩ := q3
                show pl _ _ _ (172, [(0, .ref q), (1, .int (nI (B + i0))), (2, .int (nI (B + e))), (3, .int (nI (B + k)))], [.int (-1)], M) _
                refine ps_st (S' := (174, [(4, .int (-1)), (0, .ref q), (1, .int (nI (B + i0))), (2, .int (nI (B + e))), (3, .int (nI (B + k)))], [], M)) rfl rfl rfl ?_
                refine ps_st (S' := (176, [(4, .int (-1)), (0, .ref q), (1, .int (nI (B + i0))), (2, .int (nI (B + e))), (3, .int (nI (B + k)))], [.int (-1)], M)) rfl rfl rfl ?_
                refine ps_if (S1 := (185, [], [], M)) (S2 := (179, [(4, .int (-1)), (0, .ref q), (1, .int (nI (B + i0))), (2, .int (nI (B + e))), (3, .int (nI (B + k)))], [], M)) rfl rfl rfl (fun c_176 => ?_) (fun c_176 => ?_)
                rotate_left
                · exact absurd (by decide) (of_decide_eq_false c_176)
                refine ps_st (S' := (186, [], [.int (-1)], M)) rfl rfl rfl ?_
                refine ps_st (S' := (193, [], [.int (-1)], M)) rfl rfl rfl ?_
                exact ps_ret rfl rfl (Or.inl ⟨by
                    have hb : s_br c (e - i0) i0 = k := by rw [← hs, s_br_en (by omega)]
                    unfold s_ty
                    rw [hb]
                    rw [q169_s]
                    dsimp only
                    repeat' split
                    all_goals first | rfl | (exfalso; omega), rfl, rfl⟩)
              · skip
                obtain ⟨x4, q169_s, rfl, rfl⟩ := q3
                show pl _ _ _ (172, [(0, .ref q), (1, .int (nI (B + i0))), (2, .int (nI (B + e))), (3, .int (nI (B + k)))], [.int (nI (B + x4))], M) _
                have hl_169 := s_nm_le q169_s
                refine ps_st (S' := (174, [(4, .int (nI (B + x4))), (0, .ref q), (1, .int (nI (B + i0))), (2, .int (nI (B + e))), (3, .int (nI (B + k)))], [], M)) rfl rfl rfl ?_
                refine ps_st (S' := (176, [(4, .int (nI (B + x4))), (0, .ref q), (1, .int (nI (B + i0))), (2, .int (nI (B + e))), (3, .int (nI (B + k)))], [.int (nI (B + x4))], M)) rfl rfl rfl ?_
                refine ps_if (S1 := (185, [], [], M)) (S2 := (179, [(4, .int (nI (B + x4))), (0, .ref q), (1, .int (nI (B + i0))), (2, .int (nI (B + e))), (3, .int (nI (B + k)))], [], M)) rfl rfl rfl (fun c_176 => ?_) (fun c_176 => ?_)
                · exact absurd (of_decide_eq_true c_176) (nI_n0 (by omega))
                refine ps_st (S' := (181, [(4, .int (nI (B + x4))), (0, .ref q), (1, .int (nI (B + i0))), (2, .int (nI (B + e))), (3, .int (nI (B + k)))], [.int (nI (B + x4))], M)) rfl rfl rfl ?_
                refine ps_st (S' := (182, [(4, .int (nI (B + x4))), (0, .ref q), (1, .int (nI (B + i0))), (2, .int (nI (B + e))), (3, .int (nI (B + k)))], [.int (nI (B + e)), .int (nI (B + x4))], M)) rfl rfl rfl ?_
                refine ps_if2 (S1 := (189, [(4, .int (nI (B + x4))), (0, .ref q), (1, .int (nI (B + i0))), (2, .int (nI (B + e))), (3, .int (nI (B + k)))], [], M)) (S2 := (185, [], [], M)) rfl rfl rfl (fun c_182 => ?_) (fun c_182 => ?_)
                · have c_182 : (nI (B + x4)) < (nI (B + e)) := of_decide_eq_true c_182
                  have n_182 : B + x4 < B + e := (lt_nI (p := B + x4) (n := B + e) (by omega) (by omega)).mp c_182
                  refine ps_st (S' := (191, [(4, .int (nI (B + x4))), (0, .ref q), (1, .int (nI (B + i0))), (2, .int (nI (B + e))), (3, .int (nI (B + k)))], [.int (nI (B + x4))], M)) rfl rfl rfl ?_
                  refine ps_st (S' := (192, [(4, .int (nI (B + x4))), (0, .ref q), (1, .int (nI (B + i0))), (2, .int (nI (B + e))), (3, .int (nI (B + k)))], [.int 1, .int (nI (B + x4))], M)) rfl rfl rfl ?_
                  refine ps_st (S' := (193, [], [.int ((nI (B + x4)) + 1)], M)) rfl rfl rfl ?_
                  rw [nI_add1 (p := B + x4) (k := 1) (x := 1) rfl (by omega)]
                  show pl _ _ _ (_, [], [.int (nI (B + x4 + 1))], M) _
                  exact ps_reti rfl (Or.inr ⟨x4 + 1, by
                      have hb : s_br c (e - i0) i0 = k := by rw [← hs, s_br_en (by omega)]
                      unfold s_ty
                      rw [hb]
                      rw [q169_s]
                      dsimp only
                      repeat' split
                      all_goals first | rfl | (exfalso; omega), rfl, rfl⟩)
                · have c_182 : ¬ ((nI (B + x4)) < (nI (B + e))) := of_decide_eq_false c_182
                  have n_182 : ¬ (B + x4 < B + e) := fun h9 => c_182 ((lt_nI (p := B + x4) (n := B + e) (by omega) (by omega)).mpr h9)
                  refine ps_st (S' := (186, [], [.int (-1)], M)) rfl rfl rfl ?_
                  refine ps_st (S' := (193, [], [.int (-1)], M)) rfl rfl rfl ?_
                  exact ps_ret rfl rfl (Or.inl ⟨by
                      have hb : s_br c (e - i0) i0 = k := by rw [← hs, s_br_en (by omega)]
                      unfold s_ty
                      rw [hb]
                      rw [q169_s]
                      dsimp only
                      repeat' split
                      all_goals first | rfl | (exfalso; omega), rfl, rfl⟩)
            · show pl _ _ _ (194, [(0, .ref q), (1, .int (nI (B + i0))), (2, .int (nI (B + e))), (3, .int (nI (B + k)))], [], M) _
              have m_46 := sw_nat (t := c k) (by omega) et_46
              simp at m_46
              refine ps_st (S' := (195, [(0, .ref q), (1, .int (nI (B + i0))), (2, .int (nI (B + e))), (3, .int (nI (B + k)))], [.int (-1)], M)) rfl rfl rfl ?_
              exact ps_ret rfl rfl (Or.inl ⟨by
                  have hb : s_br c (e - i0) i0 = k := by rw [← hs, s_br_en (by omega)]
                  unfold s_ty
                  rw [hb]
                  repeat' split
                  all_goals first | rfl | (exfalso; omega), rfl, rfl⟩)
          · have c_35 : ¬ ((nI ((B + k) - (B + i0))) ≤ 255) := of_decide_eq_false c_35
            have n_35 : ¬ ((B + k) - (B + i0) ≤ 255) := fun h9 => c_35 ((le_nI (p := (B + k) - (B + i0)) (n := 255) (by omega) (by decide)).mpr h9)
            refine ps_st (S' := (39, [], [.int (-1)], M)) rfl rfl rfl ?_
            exact ps_ret rfl rfl (Or.inl ⟨by
                have hb : s_br c (e - i0) i0 = k := by rw [← hs, s_br_en (by omega)]
                unfold s_ty
                rw [hb]
                repeat' split
                all_goals first | rfl | (exfalso; omega), rfl, rfl⟩)
      · have c_4 : ¬ ((nI (B + e)) ≤ (nI (B + k))) := of_decide_eq_false c_4
        have n_4 : ¬ (B + e ≤ B + k) := fun h9 => c_4 ((le_nI (p := B + e) (n := B + k) (by omega) (by omega)).mpr h9)
        refine ps_st (S' := (8, [(0, .ref q), (1, .int (nI (B + i0))), (2, .int (nI (B + e))), (3, .int (nI (B + k)))], [.ref q], M)) rfl rfl rfl ?_
        refine ps_get (S' := (11, [(0, .ref q), (1, .int (nI (B + i0))), (2, .int (nI (B + e))), (3, .int (nI (B + k)))], [.ref (qq 6)], M)) rfl h_q rfl rfl ?_
        refine ps_st (S' := (12, [(0, .ref q), (1, .int (nI (B + i0))), (2, .int (nI (B + e))), (3, .int (nI (B + k)))], [.int (nI (B + k)), .ref (qq 6)], M)) rfl rfl rfl ?_
        refine ps_ald (S' := (13, [(0, .ref q), (1, .int (nI (B + i0))), (2, .int (nI (B + e))), (3, .int (nI (B + k)))], [.int ((F 6) (Int32.toNatClampNeg (nI (B + k))))], M)) rfl h_qq_6 rfl (fun i0_12 i1_12 => ?_)
        have hb_12 := (hc (k) (by omega)).2
        rw [show ((F 6) (Int32.toNatClampNeg (nI (B + k)))) = (nI (c k)) from (congrArg (F 6) (nI_toNat (k := B + k) (by omega))).trans ((hc (k) (by omega)).1)]
        show pl _ _ _ (_, [(0, .ref q), (1, .int (nI (B + i0))), (2, .int (nI (B + e))), (3, .int (nI (B + k)))], [.int (nI (c k))], M) _
        refine ps_st (S' := (15, [(0, .ref q), (1, .int (nI (B + i0))), (2, .int (nI (B + e))), (3, .int (nI (B + k)))], [.int 91, .int (nI (c k))], M)) rfl rfl rfl ?_
        refine ps_if2 (S1 := (24, [(0, .ref q), (1, .int (nI (B + i0))), (2, .int (nI (B + e))), (3, .int (nI (B + k)))], [], M)) (S2 := (18, [(0, .ref q), (1, .int (nI (B + i0))), (2, .int (nI (B + e))), (3, .int (nI (B + k)))], [], M)) rfl rfl rfl (fun c_15 => ?_) (fun c_15 => ?_)
        · have c_15 : ¬ (nI (c k)) = 91 := of_decide_eq_true c_15
          have n_15 : ¬ (c k = 91) := fun h9 => c_15 ((eq_nI (p := c k) (n := 91) (by omega) (by decide)).mpr h9)
          refine ps_st (S' := (25, [(0, .ref q), (1, .int (nI (B + i0))), (2, .int (nI (B + e))), (3, .int (nI (B + k)))], [.int (nI (B + k))], M)) rfl rfl rfl ?_
          refine ps_st (S' := (26, [(0, .ref q), (1, .int (nI (B + i0))), (2, .int (nI (B + e))), (3, .int (nI (B + k)))], [.int (nI (B + e)), .int (nI (B + k))], M)) rfl rfl rfl ?_
          refine ps_if2 (S1 := (38, [], [], M)) (S2 := (29, [(0, .ref q), (1, .int (nI (B + i0))), (2, .int (nI (B + e))), (3, .int (nI (B + k)))], [], M)) rfl rfl rfl (fun c_26 => ?_) (fun c_26 => ?_)
          · have c_26 : (nI (B + e)) ≤ (nI (B + k)) := of_decide_eq_true c_26
            have n_26 : B + e ≤ B + k := (le_nI (p := B + e) (n := B + k) (by omega) (by omega)).mp c_26
            refine ps_st (S' := (39, [], [.int (-1)], M)) rfl rfl rfl ?_
            exact ps_ret rfl rfl (Or.inl ⟨by
                have hb : s_br c (e - i0) i0 = k := by rw [← hs, s_br_st (i := k) (by omega), if_neg (by omega)]
                unfold s_ty
                rw [hb]
                repeat' split
                all_goals first | rfl | (exfalso; omega), rfl, rfl⟩)
          · have c_26 : ¬ ((nI (B + e)) ≤ (nI (B + k))) := of_decide_eq_false c_26
            have n_26 : ¬ (B + e ≤ B + k) := fun h9 => c_26 ((le_nI (p := B + e) (n := B + k) (by omega) (by omega)).mpr h9)
            refine ps_st (S' := (30, [(0, .ref q), (1, .int (nI (B + i0))), (2, .int (nI (B + e))), (3, .int (nI (B + k)))], [.int (nI (B + k))], M)) rfl rfl rfl ?_
            refine ps_st (S' := (31, [(0, .ref q), (1, .int (nI (B + i0))), (2, .int (nI (B + e))), (3, .int (nI (B + k)))], [.int (nI (B + i0)), .int (nI (B + k))], M)) rfl rfl rfl ?_
            refine ps_st (S' := (32, [(0, .ref q), (1, .int (nI (B + i0))), (2, .int (nI (B + e))), (3, .int (nI (B + k)))], [.int ((nI (B + k)) - (nI (B + i0)))], M)) rfl rfl rfl ?_
            rw [nI_sub1 (p := B + k) (k := B + i0) (x := (nI (B + i0))) rfl (by omega) (by omega)]
            show pl _ _ _ (_, [(0, .ref q), (1, .int (nI (B + i0))), (2, .int (nI (B + e))), (3, .int (nI (B + k)))], [.int (nI ((B + k) - (B + i0)))], M) _
            refine ps_st (S' := (35, [(0, .ref q), (1, .int (nI (B + i0))), (2, .int (nI (B + e))), (3, .int (nI (B + k)))], [.int 255, .int (nI ((B + k) - (B + i0)))], M)) rfl rfl rfl ?_
            refine ps_if2 (S1 := (40, [(0, .ref q), (1, .int (nI (B + i0))), (2, .int (nI (B + e))), (3, .int (nI (B + k)))], [], M)) (S2 := (38, [], [], M)) rfl rfl rfl (fun c_35 => ?_) (fun c_35 => ?_)
            · have c_35 : (nI ((B + k) - (B + i0))) ≤ 255 := of_decide_eq_true c_35
              have n_35 : (B + k) - (B + i0) ≤ 255 := (le_nI (p := (B + k) - (B + i0)) (n := 255) (by omega) (by decide)).mp c_35
              refine ps_st (S' := (41, [(0, .ref q), (1, .int (nI (B + i0))), (2, .int (nI (B + e))), (3, .int (nI (B + k)))], [.ref q], M)) rfl rfl rfl ?_
              refine ps_get (S' := (44, [(0, .ref q), (1, .int (nI (B + i0))), (2, .int (nI (B + e))), (3, .int (nI (B + k)))], [.ref (qq 6)], M)) rfl h_q rfl rfl ?_
              refine ps_st (S' := (45, [(0, .ref q), (1, .int (nI (B + i0))), (2, .int (nI (B + e))), (3, .int (nI (B + k)))], [.int (nI (B + k)), .ref (qq 6)], M)) rfl rfl rfl ?_
              refine ps_ald (S' := (46, [(0, .ref q), (1, .int (nI (B + i0))), (2, .int (nI (B + e))), (3, .int (nI (B + k)))], [.int ((F 6) (Int32.toNatClampNeg (nI (B + k))))], M)) rfl h_qq_6 rfl (fun i0_45 i1_45 => ?_)
              have hb_45 := (hc (k) (by omega)).2
              rw [show ((F 6) (Int32.toNatClampNeg (nI (B + k)))) = (nI (c k)) from (congrArg (F 6) (nI_toNat (k := B + k) (by omega))).trans ((hc (k) (by omega)).1)]
              show pl _ _ _ (_, [(0, .ref q), (1, .int (nI (B + i0))), (2, .int (nI (B + e))), (3, .int (nI (B + k)))], [.int (nI (c k))], M) _
              refine pl_sw rfl (fun t_46 et_46 => ?_)
              have ht_46 : t_46 ∈ [160, 164, 194] := mi_sw_sub et_46 (by decide)
              simp only [List.mem_cons, List.not_mem_nil, or_false] at ht_46
              rcases ht_46 with rfl | rfl | rfl
              · show pl _ _ _ (160, [(0, .ref q), (1, .int (nI (B + i0))), (2, .int (nI (B + e))), (3, .int (nI (B + k)))], [], M) _
                have m_46 := sw_nat (t := c k) (by omega) et_46
                simp at m_46
                refine ps_st (S' := (161, [(0, .ref q), (1, .int (nI (B + i0))), (2, .int (nI (B + e))), (3, .int (nI (B + k)))], [.int (nI (B + k))], M)) rfl rfl rfl ?_
                refine ps_st (S' := (162, [(0, .ref q), (1, .int (nI (B + i0))), (2, .int (nI (B + e))), (3, .int (nI (B + k)))], [.int 1, .int (nI (B + k))], M)) rfl rfl rfl ?_
                refine ps_st (S' := (163, [(0, .ref q), (1, .int (nI (B + i0))), (2, .int (nI (B + e))), (3, .int (nI (B + k)))], [.int ((nI (B + k)) + 1)], M)) rfl rfl rfl ?_
                rw [nI_add1 (p := B + k) (k := 1) (x := 1) rfl (by omega)]
                show pl _ _ _ (_, [(0, .ref q), (1, .int (nI (B + i0))), (2, .int (nI (B + e))), (3, .int (nI (B + k)))], [.int (nI (B + k + 1))], M) _
                exact ps_reti rfl (Or.inr ⟨k + 1, by
                    have hb : s_br c (e - i0) i0 = k := by rw [← hs, s_br_st (i := k) (by omega), if_neg (by omega)]
                    unfold s_ty
                    rw [hb]
                    repeat' split
                    all_goals first | rfl | (exfalso; omega), rfl, rfl⟩)
              · show pl _ _ _ (164, [(0, .ref q), (1, .int (nI (B + i0))), (2, .int (nI (B + e))), (3, .int (nI (B + k)))], [], M) _
                have m_46 := sw_nat (t := c k) (by omega) et_46
                simp at m_46
                refine ps_st (S' := (165, [(0, .ref q), (1, .int (nI (B + i0))), (2, .int (nI (B + e))), (3, .int (nI (B + k)))], [.ref q], M)) rfl rfl rfl ?_
                refine ps_st (S' := (166, [(0, .ref q), (1, .int (nI (B + i0))), (2, .int (nI (B + e))), (3, .int (nI (B + k)))], [.int (nI (B + k)), .ref q], M)) rfl rfl rfl ?_
                refine ps_st (S' := (167, [(0, .ref q), (1, .int (nI (B + i0))), (2, .int (nI (B + e))), (3, .int (nI (B + k)))], [.int 1, .int (nI (B + k)), .ref q], M)) rfl rfl rfl ?_
                refine ps_st (S' := (168, [(0, .ref q), (1, .int (nI (B + i0))), (2, .int (nI (B + e))), (3, .int (nI (B + k)))], [.int ((nI (B + k)) + 1), .ref q], M)) rfl rfl rfl ?_
                rw [nI_add1 (p := B + k) (k := 1) (x := 1) rfl (by omega)]
                show pl _ _ _ (_, [(0, .ref q), (1, .int (nI (B + i0))), (2, .int (nI (B + e))), (3, .int (nI (B + k)))], [.int (nI (B + k + 1)), .ref q], M) _
                refine ps_st (S' := (169, [(0, .ref q), (1, .int (nI (B + i0))), (2, .int (nI (B + e))), (3, .int (nI (B + k)))], [.int (nI (B + e)), .int (nI (B + k + 1)), .ref q], M)) rfl rfl rfl ?_
                refine pl_call (a := [.ref q, .int (nI (B + k + 1)), .int (nI (B + e))]) (rest := []) rfl rfl rfl (dy_nameEnd (q := q) (c := c) (B := B) (e := e) (i0 := (k + 1)) (hP) (hm) (hc) (by omega)) (fun v5 M6 q7 => ?_)
                rcases q7 with q7 | q7
                · skip
                  obtain ⟨q169_s, rfl, rfl⟩ := q7
                  show pl _ _ _ (172, [(0, .ref q), (1, .int (nI (B + i0))), (2, .int (nI (B + e))), (3, .int (nI (B + k)))], [.int (-1)], M) _
                  refine ps_st (S' := (174, [(4, .int (-1)), (0, .ref q), (1, .int (nI (B + i0))), (2, .int (nI (B + e))), (3, .int (nI (B + k)))], [], M)) rfl rfl rfl ?_
                  refine ps_st (S' := (176, [(4, .int (-1)), (0, .ref q), (1, .int (nI (B + i0))), (2, .int (nI (B + e))), (3, .int (nI (B + k)))], [.int (-1)], M)) rfl rfl rfl ?_
                  refine ps_if (S1 := (185, [], [], M)) (S2 := (179, [(4, .int (-1)), (0, .ref q), (1, .int (nI (B + i0))), (2, .int (nI (B + e))), (3, .int (nI (B + k)))], [], M)) rfl rfl rfl (fun c_176 => ?_) (fun c_176 => ?_)
                  rotate_left
                  · exact absurd (by decide) (of_decide_eq_false c_176)
                  refine ps_st (S' := (186, [], [.int (-1)], M)) rfl rfl rfl ?_
                  refine ps_st (S' := (193, [], [.int (-1)], M)) rfl rfl rfl ?_
                  exact ps_ret rfl rfl (Or.inl ⟨by
                      have hb : s_br c (e - i0) i0 = k := by rw [← hs, s_br_st (i := k) (by omega), if_neg (by omega)]
                      unfold s_ty
                      rw [hb]
                      rw [q169_s]
                      dsimp only
                      repeat' split
                      all_goals first | rfl | (exfalso; omega), rfl, rfl⟩)
                · skip
                  obtain ⟨x8, q169_s, rfl, rfl⟩ := q7
                  show pl _ _ _ (172, [(0, .ref q), (1, .int (nI (B + i0))), (2, .int (nI (B + e))), (3, .int (nI (B + k)))], [.int (nI (B + x8))], M) _
                  have hl_169 := s_nm_le q169_s
                  refine ps_st (S' := (174, [(4, .int (nI (B + x8))), (0, .ref q), (1, .int (nI (B + i0))), (2, .int (nI (B + e))), (3, .int (nI (B + k)))], [], M)) rfl rfl rfl ?_
                  refine ps_st (S' := (176, [(4, .int (nI (B + x8))), (0, .ref q), (1, .int (nI (B + i0))), (2, .int (nI (B + e))), (3, .int (nI (B + k)))], [.int (nI (B + x8))], M)) rfl rfl rfl ?_
                  refine ps_if (S1 := (185, [], [], M)) (S2 := (179, [(4, .int (nI (B + x8))), (0, .ref q), (1, .int (nI (B + i0))), (2, .int (nI (B + e))), (3, .int (nI (B + k)))], [], M)) rfl rfl rfl (fun c_176 => ?_) (fun c_176 => ?_)
                  · exact absurd (of_decide_eq_true c_176) (nI_n0 (by omega))
                  refine ps_st (S' := (181, [(4, .int (nI (B + x8))), (0, .ref q), (1, .int (nI (B + i0))), (2, .int (nI (B + e))), (3, .int (nI (B + k)))], [.int (nI (B + x8))], M)) rfl rfl rfl ?_
                  refine ps_st (S' := (182, [(4, .int (nI (B + x8))), (0, .ref q), (1, .int (nI (B + i0))), (2, .int (nI (B + e))), (3, .int (nI (B + k)))], [.int (nI (B + e)), .int (nI (B + x8))], M)) rfl rfl rfl ?_
                  refine ps_if2 (S1 := (189, [(4, .int (nI (B + x8))), (0, .ref q), (1, .int (nI (B + i0))), (2, .int (nI (B + e))), (3, .int (nI (B + k)))], [], M)) (S2 := (185, [], [], M)) rfl rfl rfl (fun c_182 => ?_) (fun c_182 => ?_)
                  · have c_182 : (nI (B + x8)) < (nI (B + e)) := of_decide_eq_true c_182
                    have n_182 : B + x8 < B + e := (lt_nI (p := B + x8) (n := B + e) (by omega) (by omega)).mp c_182
                    refine ps_st (S' := (191, [(4, .int (nI (B + x8))), (0, .ref q), (1, .int (nI (B + i0))), (2, .int (nI (B + e))), (3, .int (nI (B + k)))], [.int (nI (B + x8))], M)) rfl rfl rfl ?_
                    refine ps_st (S' := (192, [(4, .int (nI (B + x8))), (0, .ref q), (1, .int (nI (B + i0))), (2, .int (nI (B + e))), (3, .int (nI (B + k)))], [.int 1, .int (nI (B + x8))], M)) rfl rfl rfl ?_
                    refine ps_st (S' := (193, [], [.int ((nI (B + x8)) + 1)], M)) rfl rfl rfl ?_
                    rw [nI_add1 (p := B + x8) (k := 1) (x := 1) rfl (by omega)]
                    show pl _ _ _ (_, [], [.int (nI (B + x8 + 1))], M) _
                    exact ps_reti rfl (Or.inr ⟨x8 + 1, by
                        have hb : s_br c (e - i0) i0 = k := by rw [← hs, s_br_st (i := k) (by omega), if_neg (by omega)]
                        unfold s_ty
                        rw [hb]
                        rw [q169_s]
                        dsimp only
                        repeat' split
                        all_goals first | rfl | (exfalso; omega), rfl, rfl⟩)
                  · have c_182 : ¬ ((nI (B + x8)) < (nI (B + e))) := of_decide_eq_false c_182
                    have n_182 : ¬ (B + x8 < B + e) := fun h9 => c_182 ((lt_nI (p := B + x8) (n := B + e) (by omega) (by omega)).mpr h9)
                    refine ps_st (S' := (186, [], [.int (-1)], M)) rfl rfl rfl ?_
                    refine ps_st (S' := (193, [], [.int (-1)], M)) rfl rfl rfl ?_
                    exact ps_ret rfl rfl (Or.inl ⟨by
                        have hb : s_br c (e - i0) i0 = k := by rw [← hs, s_br_st (i := k) (by omega), if_neg (by omega)]
                        unfold s_ty
                        rw [hb]
                        rw [q169_s]
                        dsimp only
                        repeat' split
                        all_goals first | rfl | (exfalso; omega), rfl, rfl⟩)
              · show pl _ _ _ (194, [(0, .ref q), (1, .int (nI (B + i0))), (2, .int (nI (B + e))), (3, .int (nI (B + k)))], [], M) _
                have m_46 := sw_nat (t := c k) (by omega) et_46
                simp at m_46
                refine ps_st (S' := (195, [(0, .ref q), (1, .int (nI (B + i0))), (2, .int (nI (B + e))), (3, .int (nI (B + k)))], [.int (-1)], M)) rfl rfl rfl ?_
                exact ps_ret rfl rfl (Or.inl ⟨by
                    have hb : s_br c (e - i0) i0 = k := by rw [← hs, s_br_st (i := k) (by omega), if_neg (by omega)]
                    unfold s_ty
                    rw [hb]
                    repeat' split
                    all_goals first | rfl | (exfalso; omega), rfl, rfl⟩)
            · have c_35 : ¬ ((nI ((B + k) - (B + i0))) ≤ 255) := of_decide_eq_false c_35
              have n_35 : ¬ ((B + k) - (B + i0) ≤ 255) := fun h9 => c_35 ((le_nI (p := (B + k) - (B + i0)) (n := 255) (by omega) (by decide)).mpr h9)
              refine ps_st (S' := (39, [], [.int (-1)], M)) rfl rfl rfl ?_
              exact ps_ret rfl rfl (Or.inl ⟨by
                  have hb : s_br c (e - i0) i0 = k := by rw [← hs, s_br_st (i := k) (by omega), if_neg (by omega)]
                  unfold s_ty
                  rw [hb]
                  repeat' split
                  all_goals first | rfl | (exfalso; omega), rfl, rfl⟩)
        · have c_15 : ¬ (¬ (nI (c k)) = 91) := of_decide_eq_false c_15
          have n_15 : c k = 91 := (eq_nI (p := c k) (n := 91) (by omega) (by decide)).mp (Decidable.not_not.mp c_15)
          refine ps_st (S' := (21, [(3, .int ((nI (B + k)) + 1)), (0, .ref q), (1, .int (nI (B + i0))), (2, .int (nI (B + e)))], [], M)) rfl rfl rfl ?_
          rw [nI_add1 (p := B + k) (k := 1) (x := 1) rfl (by omega)]
          show pl _ _ _ (_, [(3, .int (nI (B + k + 1))), (0, .ref q), (1, .int (nI (B + i0))), (2, .int (nI (B + e)))], [], M) _
          refine ps_st (S' := (2, [(0, .ref q), (1, .int (nI (B + i0))), (2, .int (nI (B + e))), (3, .int (nI (B + k + 1)))], [], M)) rfl rfl rfl ?_
          exact ih (k + 1)  (by omega) (by
              rw [← hs, s_br_st (i := k) (by omega), if_pos (by omega)])
  refine ps_st (S' := (1, [(0, .ref q), (1, .int (nI (B + i0))), (2, .int (nI (B + e)))], [.int (nI (B + i0))], M)) rfl rfl rfl ?_
  refine ps_st (S' := (2, [(0, .ref q), (1, .int (nI (B + i0))), (2, .int (nI (B + e))), (3, .int (nI (B + i0)))], [], M)) rfl rfl rfl ?_
  exact (LL kf) (i0)  (by omega) (rfl)
theorem dy_places {g : xe_G} {M : mi_H} {x : Nat}  (hx : x < 65536) : pt (mT g) 130 [.int (nI x)] M (fun v M' => (v = some (.int (nI (pW x))) ∧ M = M')) := by
  refine (ct_placesOfType (d := 1) (by decide)).pt.mono (fun v M' h => ⟨?_, h.2.symm⟩)
  rw [h.1]
  unfold pW
  by_cases h1 : x = 74
  · rw [if_pos (show nI x = 74 from (eq_nI (n := 74) (by omega) (by decide)).mpr h1), if_pos (by omega)]
    rfl
  · rw [if_neg (show ¬ nI x = 74 from fun h9 => h1 ((eq_nI (n := 74) (by omega) (by decide)).mp h9))]
    by_cases h2 : x = 68
    · rw [if_pos (show nI x = 68 from (eq_nI (n := 68) (by omega) (by decide)).mpr h2), if_pos (by omega)]
      rfl
    · rw [if_neg (show ¬ nI x = 68 from fun h9 => h2 ((eq_nI (n := 68) (by omega) (by decide)).mp h9)), if_neg (by omega)]
      rfl
set_option maxHeartbeats 1000000 in
theorem dy_methodShape {g : xe_G} {M : mi_H} {q H m : Nat} {qq : Nat → Nat} {F : Nat → Nat → Int32} {sz cc : Int32} {c : Nat → Nat} {B e : Nat} {i0 : Nat}  (hP : PL M q sz H m qq F cc) (hm : B + e ≤ m ∧ m ≤ 65540) (hc : ∀ i, i < e → F 6 (B + i) = nI (c i) ∧ c i < 65536) (hi : i0 ≤ e) : pt (mT g) 126 [.ref q, .int (nI (B + i0)), .int (nI (B + e))] M (fun v M' => ((s_ms c e i0 = 0) ∧ v = some (.int (-1)) ∧ M = M') ∨ ((¬ s_ms c e i0 = 0) ∧ v = some (.int (nI (s_ms c e i0))) ∧ M = M')) := by
  refine pt_in (b := mb_126 g) rfl (fun kf => ?_)
  show pl (mT g) kf (mb_126 g).2 (0, [(0, .ref q), (1, .int (nI (B + i0))), (2, .int (nI (B + e)))], [], M) _
  have h_q := hP.1
  have h_qq_1 := hP.2.1 1 (by decide) (by decide)
  have h_qq_2 := hP.2.1 2 (by decide) (by decide)
  have h_qq_3 := hP.2.1 3 (by decide) (by decide)
  have h_qq_4 := hP.2.1 4 (by decide) (by decide)
  have h_qq_5 := hP.2.1 5 (by decide) (by decide)
  have h_qq_6 := hP.2.2
  have hpw : ∀ x, pW x ≤ 2 := fun x => by unfold pW; split <;> omega
  have LL : ∀ (kf : Nat), (∀ (i w : Nat), (i0 ≤ i ∧ i ≤ e) → (w ≤ 257) → (s_ar c e (e - i) i w = s_ar c e (e - i0) i0 0) →  pl (mT g) kf (mb_126 g).2 (5, [(0, .ref q), (2, .int (nI (B + e))), (3, .int (nI (B + i))), (4, .int (nI w))], [], M) (fun v M' => ((s_ms c e i0 = 0) ∧ v = some (.int (-1)) ∧ M = M') ∨ ((¬ s_ms c e i0 = 0) ∧ v = some (.int (nI (s_ms c e i0))) ∧ M = M'))) := by
    intro kf
    induction kf with
    | zero => exact (by intros; exact pl_0)
    | succ kf ih =>
      intro i w hi2 hw hs
      refine ps_st1 (S' := (7, [(0, .ref q), (2, .int (nI (B + e))), (3, .int (nI (B + i))), (4, .int (nI w))], [.int (nI w)], M)) rfl rfl rfl ?_
      refine ps_st (S' := (10, [(0, .ref q), (2, .int (nI (B + e))), (3, .int (nI (B + i))), (4, .int (nI w))], [.int 255, .int (nI w)], M)) rfl rfl rfl ?_
      refine ps_if2 (S1 := (56, [(0, .ref q), (2, .int (nI (B + e))), (3, .int (nI (B + i))), (4, .int (nI w))], [], M)) (S2 := (13, [(0, .ref q), (2, .int (nI (B + e))), (3, .int (nI (B + i))), (4, .int (nI w))], [], M)) rfl rfl rfl (fun c_10 => ?_) (fun c_10 => ?_)
      · have c_10 : 255 < (nI w) := of_decide_eq_true c_10
        have n_10 : 255 < w := (lt_nI (p := 255) (n := w) (by decide) (by omega)).mp c_10
        refine ps_st (S' := (57, [(0, .ref q), (2, .int (nI (B + e))), (3, .int (nI (B + i))), (4, .int (nI w))], [.int (nI (B + i))], M)) rfl rfl rfl ?_
        refine ps_st (S' := (58, [(0, .ref q), (2, .int (nI (B + e))), (3, .int (nI (B + i))), (4, .int (nI w))], [.int 1, .int (nI (B + i))], M)) rfl rfl rfl ?_
        refine ps_st (S' := (59, [(0, .ref q), (2, .int (nI (B + e))), (3, .int (nI (B + i))), (4, .int (nI w))], [.int ((nI (B + i)) + 1)], M)) rfl rfl rfl ?_
        rw [nI_add1 (p := B + i) (k := 1) (x := 1) rfl (by omega)]
        show pl _ _ _ (_, [(0, .ref q), (2, .int (nI (B + e))), (3, .int (nI (B + i))), (4, .int (nI w))], [.int (nI (B + i + 1))], M) _
        refine ps_st (S' := (61, [(5, .int (nI (B + i + 1))), (0, .ref q), (2, .int (nI (B + e))), (3, .int (nI (B + i))), (4, .int (nI w))], [], M)) rfl rfl rfl ?_
        refine ps_st (S' := (63, [(5, .int (nI (B + i + 1))), (0, .ref q), (2, .int (nI (B + e))), (3, .int (nI (B + i))), (4, .int (nI w))], [.int (nI (B + i + 1))], M)) rfl rfl rfl ?_
        refine ps_st (S' := (64, [(5, .int (nI (B + i + 1))), (0, .ref q), (2, .int (nI (B + e))), (3, .int (nI (B + i))), (4, .int (nI w))], [.int (nI (B + e)), .int (nI (B + i + 1))], M)) rfl rfl rfl ?_
        refine ps_if2 (S1 := (75, [], [], M)) (S2 := (67, [(5, .int (nI (B + i + 1))), (0, .ref q), (2, .int (nI (B + e))), (3, .int (nI (B + i))), (4, .int (nI w))], [], M)) rfl rfl rfl (fun c_64 => ?_) (fun c_64 => ?_)
        · have c_64 : (nI (B + e)) ≤ (nI (B + i + 1)) := of_decide_eq_true c_64
          have n_64 : B + e ≤ B + i + 1 := (le_nI (p := B + e) (n := B + i + 1) (by omega) (by omega)).mp c_64
          refine ps_st (S' := (76, [], [.int (-1)], M)) rfl rfl rfl ?_
          exact ps_ret rfl rfl (Or.inl ⟨by
              unfold s_ms
              rw [← hs]
              rw [s_ar_0 (by omega)]
              dsimp only
              repeat' split
              all_goals first | rfl | (exfalso; omega) | (exfalso; simp_all; done) | (exfalso; simp_all; omega), rfl, rfl⟩)
        · have c_64 : ¬ ((nI (B + e)) ≤ (nI (B + i + 1))) := of_decide_eq_false c_64
          have n_64 : ¬ (B + e ≤ B + i + 1) := fun h9 => c_64 ((le_nI (p := B + e) (n := B + i + 1) (by omega) (by omega)).mpr h9)
          refine ps_st (S' := (69, [(5, .int (nI (B + i + 1))), (0, .ref q), (2, .int (nI (B + e))), (3, .int (nI (B + i))), (4, .int (nI w))], [.int (nI w)], M)) rfl rfl rfl ?_
          refine ps_st (S' := (72, [(5, .int (nI (B + i + 1))), (0, .ref q), (2, .int (nI (B + e))), (3, .int (nI (B + i))), (4, .int (nI w))], [.int 255, .int (nI w)], M)) rfl rfl rfl ?_
          refine ps_if2 (S1 := (77, [(5, .int (nI (B + i + 1))), (0, .ref q), (2, .int (nI (B + e))), (3, .int (nI (B + i))), (4, .int (nI w))], [], M)) (S2 := (75, [], [], M)) rfl rfl rfl (fun c_72 => ?_) (fun c_72 => ?_)
          · have c_72 : (nI w) ≤ 255 := of_decide_eq_true c_72
            have n_72 : w ≤ 255 := (le_nI (p := w) (n := 255) (by omega) (by decide)).mp c_72
            refine ps_st (S' := (78, [(5, .int (nI (B + i + 1))), (0, .ref q), (2, .int (nI (B + e))), (3, .int (nI (B + i))), (4, .int (nI w))], [.ref q], M)) rfl rfl rfl ?_
            refine ps_get (S' := (81, [(5, .int (nI (B + i + 1))), (0, .ref q), (2, .int (nI (B + e))), (3, .int (nI (B + i))), (4, .int (nI w))], [.ref (qq 6)], M)) rfl h_q rfl rfl ?_
            refine ps_st (S' := (83, [(5, .int (nI (B + i + 1))), (0, .ref q), (2, .int (nI (B + e))), (3, .int (nI (B + i))), (4, .int (nI w))], [.int (nI (B + i + 1)), .ref (qq 6)], M)) rfl rfl rfl ?_
            refine ps_ald (S' := (84, [(5, .int (nI (B + i + 1))), (0, .ref q), (2, .int (nI (B + e))), (3, .int (nI (B + i))), (4, .int (nI w))], [.int ((F 6) (Int32.toNatClampNeg (nI (B + i + 1))))], M)) rfl h_qq_6 rfl (fun i0_83 i1_83 => ?_)
            have hb_83 := (hc (i + 1) (by omega)).2
            rw [show ((F 6) (Int32.toNatClampNeg (nI (B + i + 1)))) = (nI (c (i + 1))) from (congrArg (F 6) (nI_toNat (k := B + i + 1) (by omega))).trans ((hc (i + 1) (by omega)).1)]
            show pl _ _ _ (_, [(5, .int (nI (B + i + 1))), (0, .ref q), (2, .int (nI (B + e))), (3, .int (nI (B + i))), (4, .int (nI w))], [.int (nI (c (i + 1)))], M) _
            refine ps_st (S' := (86, [(5, .int (nI (B + i + 1))), (0, .ref q), (2, .int (nI (B + e))), (3, .int (nI (B + i))), (4, .int (nI w))], [.int 86, .int (nI (c (i + 1)))], M)) rfl rfl rfl ?_
            refine ps_if2 (S1 := (104, [(0, .ref q), (2, .int (nI (B + e))), (4, .int (nI w)), (5, .int (nI (B + i + 1)))], [], M)) (S2 := (89, [(5, .int (nI (B + i + 1))), (0, .ref q), (2, .int (nI (B + e))), (3, .int (nI (B + i))), (4, .int (nI w))], [], M)) rfl rfl rfl (fun c_86 => ?_) (fun c_86 => ?_)
            · have c_86 : ¬ (nI (c (i + 1))) = 86 := of_decide_eq_true c_86
              have n_86 : ¬ (c (i + 1) = 86) := fun h9 => c_86 ((eq_nI (p := c (i + 1)) (n := 86) (by omega) (by decide)).mpr h9)
              refine ps_st (S' := (105, [(0, .ref q), (2, .int (nI (B + e))), (4, .int (nI w)), (5, .int (nI (B + i + 1)))], [.ref q], M)) rfl rfl rfl ?_
              refine ps_st (S' := (107, [(0, .ref q), (2, .int (nI (B + e))), (4, .int (nI w)), (5, .int (nI (B + i + 1)))], [.int (nI (B + i + 1)), .ref q], M)) rfl rfl rfl ?_
              refine ps_st (S' := (108, [(0, .ref q), (2, .int (nI (B + e))), (4, .int (nI w)), (5, .int (nI (B + i + 1)))], [.int (nI (B + e)), .int (nI (B + i + 1)), .ref q], M)) rfl rfl rfl ?_
              refine pl_call (a := [.ref q, .int (nI (B + i + 1)), .int (nI (B + e))]) (rest := []) rfl rfl rfl (dy_typeEnd (q := q) (c := c) (B := B) (e := e) (i0 := (i + 1)) (hP) (hm) (hc) (by omega)) (fun v1 M2 q3 => ?_)
              rcases q3 with q3 | q3
              · skip
                obtain ⟨q108_s, rfl, rfl⟩ := q3
                show pl _ _ _ (111, [(0, .ref q), (2, .int (nI (B + e))), (4, .int (nI w)), (5, .int (nI (B + i + 1)))], [.int (-1)], M) _
                refine ps_st (S' := (112, [(0, .ref q), (2, .int (nI (B + e))), (4, .int (nI w)), (5, .int (nI (B + i + 1)))], [.int (nI (B + e)), .int (-1)], M)) rfl rfl rfl ?_
                refine ps_if2 (S1 := (117, [(0, .ref q), (2, .int (nI (B + e))), (4, .int (nI w)), (5, .int (nI (B + i + 1)))], [], M)) (S2 := (115, [(0, .ref q), (2, .int (nI (B + e))), (4, .int (nI w)), (5, .int (nI (B + i + 1)))], [], M)) rfl rfl rfl (fun c_112 => ?_) (fun c_112 => ?_)
                · exact absurd (of_decide_eq_true c_112) (m1_ne (by omega))
                refine ps_st (S' := (116, [(0, .ref q), (2, .int (nI (B + e))), (4, .int (nI w)), (5, .int (nI (B + i + 1)))], [.int (-1)], M)) rfl rfl rfl ?_
                exact ps_ret rfl rfl (Or.inl ⟨by
                    unfold s_ms
                    rw [← hs]
                    rw [s_ar_0 (by omega)]
                    dsimp only
                    rw [q108_s]
                    repeat' split
                    all_goals first | rfl | (exfalso; omega) | (exfalso; simp_all; done) | (exfalso; simp_all; omega), rfl, rfl⟩)
              · skip
                obtain ⟨x4, q108_s, rfl, rfl⟩ := q3
                show pl _ _ _ (111, [(0, .ref q), (2, .int (nI (B + e))), (4, .int (nI w)), (5, .int (nI (B + i + 1)))], [.int (nI (B + x4))], M) _
                have hl_108 := s_ty_le q108_s
                refine ps_st (S' := (112, [(0, .ref q), (2, .int (nI (B + e))), (4, .int (nI w)), (5, .int (nI (B + i + 1)))], [.int (nI (B + e)), .int (nI (B + x4))], M)) rfl rfl rfl ?_
                refine ps_if2 (S1 := (117, [(0, .ref q), (2, .int (nI (B + e))), (4, .int (nI w)), (5, .int (nI (B + i + 1)))], [], M)) (S2 := (115, [(0, .ref q), (2, .int (nI (B + e))), (4, .int (nI w)), (5, .int (nI (B + i + 1)))], [], M)) rfl rfl rfl (fun c_112 => ?_) (fun c_112 => ?_)
                · have c_112 : (nI (B + x4)) = (nI (B + e)) := of_decide_eq_true c_112
                  have n_112 : B + x4 = B + e := (eq_nI (p := B + x4) (n := B + e) (by omega) (by omega)).mp c_112
                  refine ps_st (S' := (120, [(0, .ref q), (2, .int (nI (B + e))), (4, .int (nI w)), (5, .int (nI (B + i + 1)))], [.int 4096], M)) rfl rfl rfl ?_
                  refine ps_st (S' := (123, [(0, .ref q), (2, .int (nI (B + e))), (4, .int (nI w)), (5, .int (nI (B + i + 1)))], [.int 1024, .int 4096], M)) rfl rfl rfl ?_
                  refine ps_st (S' := (124, [(0, .ref q), (2, .int (nI (B + e))), (4, .int (nI w)), (5, .int (nI (B + i + 1)))], [.ref q, .int 1024, .int 4096], M)) rfl rfl rfl ?_
                  refine ps_get (S' := (127, [(0, .ref q), (2, .int (nI (B + e))), (4, .int (nI w)), (5, .int (nI (B + i + 1)))], [.ref (qq 6), .int 1024, .int 4096], M)) rfl h_q rfl rfl ?_
                  refine ps_st (S' := (129, [(0, .ref q), (2, .int (nI (B + e))), (4, .int (nI w)), (5, .int (nI (B + i + 1)))], [.int (nI (B + i + 1)), .ref (qq 6), .int 1024, .int 4096], M)) rfl rfl rfl ?_
                  refine ps_ald (S' := (130, [(0, .ref q), (2, .int (nI (B + e))), (4, .int (nI w)), (5, .int (nI (B + i + 1)))], [.int ((F 6) (Int32.toNatClampNeg (nI (B + i + 1)))), .int 1024, .int 4096], M)) rfl h_qq_6 rfl (fun i0_129 i1_129 => ?_)
                  have hb_129 := (hc (i + 1) (by omega)).2
                  rw [show ((F 6) (Int32.toNatClampNeg (nI (B + i + 1)))) = (nI (c (i + 1))) from (congrArg (F 6) (nI_toNat (k := B + i + 1) (by omega))).trans ((hc (i + 1) (by omega)).1)]
                  show pl _ _ _ (_, [(0, .ref q), (2, .int (nI (B + e))), (4, .int (nI w)), (5, .int (nI (B + i + 1)))], [.int (nI (c (i + 1))), .int 1024, .int 4096], M) _
                  refine pl_call (a := [.int (nI (c (i + 1)))]) (rest := [.int 1024, .int 4096]) rfl rfl rfl (dy_places (x := (c (i + 1))) (by omega)) (fun v5 M6 q7 => ?_)
                  obtain ⟨rfl, rfl⟩ := q7
                  show pl _ _ _ (133, [(0, .ref q), (2, .int (nI (B + e))), (4, .int (nI w)), (5, .int (nI (B + i + 1)))], [.int (nI (pW (c (i + 1)))), .int 1024, .int 4096], M) _
                  have hp_130 := pW_le (c (i + 1))
                  refine ps_st (S' := (134, [(0, .ref q), (2, .int (nI (B + e))), (4, .int (nI w)), (5, .int (nI (B + i + 1)))], [.int (1024 * (nI (pW (c (i + 1))))), .int 4096], M)) rfl rfl rfl ?_
                  rw [nI_mul1 (p := 1024) (k := pW (c (i + 1))) (x := 1024) (y := (nI (pW (c (i + 1))))) rfl rfl (by omega)]
                  show pl _ _ _ (_, [(0, .ref q), (2, .int (nI (B + e))), (4, .int (nI w)), (5, .int (nI (B + i + 1)))], [.int (nI (1024 * (pW (c (i + 1))))), .int 4096], M) _
                  refine ps_st (S' := (135, [(0, .ref q), (2, .int (nI (B + e))), (4, .int (nI w)), (5, .int (nI (B + i + 1)))], [.int (4096 + (nI (1024 * (pW (c (i + 1))))))], M)) rfl rfl rfl ?_
                  rw [nI_add2 (p := 4096) (k := 1024 * (pW (c (i + 1)))) (x := 4096) (y := (nI (1024 * (pW (c (i + 1)))))) rfl rfl (by omega)]
                  show pl _ _ _ (_, [(0, .ref q), (2, .int (nI (B + e))), (4, .int (nI w)), (5, .int (nI (B + i + 1)))], [.int (nI (4096 + 1024 * (pW (c (i + 1)))))], M) _
                  refine ps_st (S' := (137, [(0, .ref q), (2, .int (nI (B + e))), (4, .int (nI w)), (5, .int (nI (B + i + 1)))], [.int (nI w), .int (nI (4096 + 1024 * (pW (c (i + 1)))))], M)) rfl rfl rfl ?_
                  refine ps_st (S' := (138, [(0, .ref q), (2, .int (nI (B + e))), (4, .int (nI w)), (5, .int (nI (B + i + 1)))], [.int ((nI (4096 + 1024 * (pW (c (i + 1))))) + (nI w))], M)) rfl rfl rfl ?_
                  rw [nI_add1 (p := 4096 + 1024 * (pW (c (i + 1)))) (k := w) (x := (nI w)) rfl (by omega)]
                  show pl _ _ _ (_, [(0, .ref q), (2, .int (nI (B + e))), (4, .int (nI w)), (5, .int (nI (B + i + 1)))], [.int (nI (4096 + 1024 * (pW (c (i + 1))) + w))], M) _
                  exact ps_reti rfl ((fun (he : s_ms c e i0 = 4096 + 1024 * pW (c (i + 1)) + w) => Or.inr ⟨by omega, by rw [he], rfl⟩) (by
                      unfold s_ms
                      rw [← hs]
                      rw [s_ar_0 (by omega)]
                      dsimp only
                      rw [if_neg (by omega), if_neg (by omega), if_pos (by rw [q108_s]; congr 1; omega)]))
                · have c_112 : ¬ ((nI (B + x4)) = (nI (B + e))) := of_decide_eq_false c_112
                  have n_112 : ¬ (B + x4 = B + e) := fun h9 => c_112 ((eq_nI (p := B + x4) (n := B + e) (by omega) (by omega)).mpr h9)
                  refine ps_st (S' := (116, [(0, .ref q), (2, .int (nI (B + e))), (4, .int (nI w)), (5, .int (nI (B + i + 1)))], [.int (-1)], M)) rfl rfl rfl ?_
                  exact ps_ret rfl rfl (Or.inl ⟨by
                      unfold s_ms
                      rw [← hs]
                      rw [s_ar_0 (by omega)]
                      dsimp only
                      rw [q108_s]
                      repeat' split
                      all_goals first | rfl | (exfalso; omega) | (exfalso; simp_all; done) | (exfalso; simp_all; omega), rfl, rfl⟩)
            · have c_86 : ¬ (¬ (nI (c (i + 1))) = 86) := of_decide_eq_false c_86
              have n_86 : c (i + 1) = 86 := (eq_nI (p := c (i + 1)) (n := 86) (by omega) (by decide)).mp (Decidable.not_not.mp c_86)
              refine ps_st (S' := (91, [(5, .int (nI (B + i + 1))), (0, .ref q), (2, .int (nI (B + e))), (3, .int (nI (B + i))), (4, .int (nI w))], [.int (nI (B + i + 1))], M)) rfl rfl rfl ?_
              refine ps_st (S' := (92, [(5, .int (nI (B + i + 1))), (0, .ref q), (2, .int (nI (B + e))), (3, .int (nI (B + i))), (4, .int (nI w))], [.int 1, .int (nI (B + i + 1))], M)) rfl rfl rfl ?_
              refine ps_st (S' := (93, [(5, .int (nI (B + i + 1))), (0, .ref q), (2, .int (nI (B + e))), (3, .int (nI (B + i))), (4, .int (nI w))], [.int ((nI (B + i + 1)) + 1)], M)) rfl rfl rfl ?_
              rw [nI_add1 (p := B + i + 1) (k := 1) (x := 1) rfl (by omega)]
              show pl _ _ _ (_, [(5, .int (nI (B + i + 1))), (0, .ref q), (2, .int (nI (B + e))), (3, .int (nI (B + i))), (4, .int (nI w))], [.int (nI (B + i + 2))], M) _
              refine ps_st (S' := (94, [(5, .int (nI (B + i + 1))), (0, .ref q), (2, .int (nI (B + e))), (3, .int (nI (B + i))), (4, .int (nI w))], [.int (nI (B + e)), .int (nI (B + i + 2))], M)) rfl rfl rfl ?_
              refine ps_if2 (S1 := (104, [(0, .ref q), (2, .int (nI (B + e))), (4, .int (nI w)), (5, .int (nI (B + i + 1)))], [], M)) (S2 := (97, [(5, .int (nI (B + i + 1))), (0, .ref q), (2, .int (nI (B + e))), (3, .int (nI (B + i))), (4, .int (nI w))], [], M)) rfl rfl rfl (fun c_94 => ?_) (fun c_94 => ?_)
              · have c_94 : ¬ (nI (B + i + 2)) = (nI (B + e)) := of_decide_eq_true c_94
                have n_94 : ¬ (B + i + 2 = B + e) := fun h9 => c_94 ((eq_nI (p := B + i + 2) (n := B + e) (by omega) (by omega)).mpr h9)
                refine ps_st (S' := (105, [(0, .ref q), (2, .int (nI (B + e))), (4, .int (nI w)), (5, .int (nI (B + i + 1)))], [.ref q], M)) rfl rfl rfl ?_
                refine ps_st (S' := (107, [(0, .ref q), (2, .int (nI (B + e))), (4, .int (nI w)), (5, .int (nI (B + i + 1)))], [.int (nI (B + i + 1)), .ref q], M)) rfl rfl rfl ?_
                refine ps_st (S' := (108, [(0, .ref q), (2, .int (nI (B + e))), (4, .int (nI w)), (5, .int (nI (B + i + 1)))], [.int (nI (B + e)), .int (nI (B + i + 1)), .ref q], M)) rfl rfl rfl ?_
                refine pl_call (a := [.ref q, .int (nI (B + i + 1)), .int (nI (B + e))]) (rest := []) rfl rfl rfl (dy_typeEnd (q := q) (c := c) (B := B) (e := e) (i0 := (i + 1)) (hP) (hm) (hc) (by omega)) (fun v8 M9 q10 => ?_)
                rcases q10 with q10 | q10
                · skip
                  obtain ⟨q108_s, rfl, rfl⟩ := q10
                  show pl _ _ _ (111, [(0, .ref q), (2, .int (nI (B + e))), (4, .int (nI w)), (5, .int (nI (B + i + 1)))], [.int (-1)], M) _
                  refine ps_st (S' := (112, [(0, .ref q), (2, .int (nI (B + e))), (4, .int (nI w)), (5, .int (nI (B + i + 1)))], [.int (nI (B + e)), .int (-1)], M)) rfl rfl rfl ?_
                  refine ps_if2 (S1 := (117, [(0, .ref q), (2, .int (nI (B + e))), (4, .int (nI w)), (5, .int (nI (B + i + 1)))], [], M)) (S2 := (115, [(0, .ref q), (2, .int (nI (B + e))), (4, .int (nI w)), (5, .int (nI (B + i + 1)))], [], M)) rfl rfl rfl (fun c_112 => ?_) (fun c_112 => ?_)
                  · exact absurd (of_decide_eq_true c_112) (m1_ne (by omega))
                  refine ps_st (S' := (116, [(0, .ref q), (2, .int (nI (B + e))), (4, .int (nI w)), (5, .int (nI (B + i + 1)))], [.int (-1)], M)) rfl rfl rfl ?_
                  exact ps_ret rfl rfl (Or.inl ⟨by
                      unfold s_ms
                      rw [← hs]
                      rw [s_ar_0 (by omega)]
                      dsimp only
                      rw [q108_s]
                      repeat' split
                      all_goals first | rfl | (exfalso; omega) | (exfalso; simp_all; done) | (exfalso; simp_all; omega), rfl, rfl⟩)
                · skip
                  obtain ⟨x11, q108_s, rfl, rfl⟩ := q10
                  show pl _ _ _ (111, [(0, .ref q), (2, .int (nI (B + e))), (4, .int (nI w)), (5, .int (nI (B + i + 1)))], [.int (nI (B + x11))], M) _
                  have hl_108 := s_ty_le q108_s
                  refine ps_st (S' := (112, [(0, .ref q), (2, .int (nI (B + e))), (4, .int (nI w)), (5, .int (nI (B + i + 1)))], [.int (nI (B + e)), .int (nI (B + x11))], M)) rfl rfl rfl ?_
                  refine ps_if2 (S1 := (117, [(0, .ref q), (2, .int (nI (B + e))), (4, .int (nI w)), (5, .int (nI (B + i + 1)))], [], M)) (S2 := (115, [(0, .ref q), (2, .int (nI (B + e))), (4, .int (nI w)), (5, .int (nI (B + i + 1)))], [], M)) rfl rfl rfl (fun c_112 => ?_) (fun c_112 => ?_)
                  · have c_112 : (nI (B + x11)) = (nI (B + e)) := of_decide_eq_true c_112
                    have n_112 : B + x11 = B + e := (eq_nI (p := B + x11) (n := B + e) (by omega) (by omega)).mp c_112
                    refine ps_st (S' := (120, [(0, .ref q), (2, .int (nI (B + e))), (4, .int (nI w)), (5, .int (nI (B + i + 1)))], [.int 4096], M)) rfl rfl rfl ?_
                    refine ps_st (S' := (123, [(0, .ref q), (2, .int (nI (B + e))), (4, .int (nI w)), (5, .int (nI (B + i + 1)))], [.int 1024, .int 4096], M)) rfl rfl rfl ?_
                    refine ps_st (S' := (124, [(0, .ref q), (2, .int (nI (B + e))), (4, .int (nI w)), (5, .int (nI (B + i + 1)))], [.ref q, .int 1024, .int 4096], M)) rfl rfl rfl ?_
                    refine ps_get (S' := (127, [(0, .ref q), (2, .int (nI (B + e))), (4, .int (nI w)), (5, .int (nI (B + i + 1)))], [.ref (qq 6), .int 1024, .int 4096], M)) rfl h_q rfl rfl ?_
                    refine ps_st (S' := (129, [(0, .ref q), (2, .int (nI (B + e))), (4, .int (nI w)), (5, .int (nI (B + i + 1)))], [.int (nI (B + i + 1)), .ref (qq 6), .int 1024, .int 4096], M)) rfl rfl rfl ?_
                    refine ps_ald (S' := (130, [(0, .ref q), (2, .int (nI (B + e))), (4, .int (nI w)), (5, .int (nI (B + i + 1)))], [.int ((F 6) (Int32.toNatClampNeg (nI (B + i + 1)))), .int 1024, .int 4096], M)) rfl h_qq_6 rfl (fun i0_129 i1_129 => ?_)
                    have hb_129 := (hc (i + 1) (by omega)).2
                    rw [show ((F 6) (Int32.toNatClampNeg (nI (B + i + 1)))) = (nI (c (i + 1))) from (congrArg (F 6) (nI_toNat (k := B + i + 1) (by omega))).trans ((hc (i + 1) (by omega)).1)]
                    show pl _ _ _ (_, [(0, .ref q), (2, .int (nI (B + e))), (4, .int (nI w)), (5, .int (nI (B + i + 1)))], [.int (nI (c (i + 1))), .int 1024, .int 4096], M) _
                    refine pl_call (a := [.int (nI (c (i + 1)))]) (rest := [.int 1024, .int 4096]) rfl rfl rfl (dy_places (x := (c (i + 1))) (by omega)) (fun v12 M13 q14 => ?_)
                    obtain ⟨rfl, rfl⟩ := q14
                    show pl _ _ _ (133, [(0, .ref q), (2, .int (nI (B + e))), (4, .int (nI w)), (5, .int (nI (B + i + 1)))], [.int (nI (pW (c (i + 1)))), .int 1024, .int 4096], M) _
                    have hp_130 := pW_le (c (i + 1))
                    refine ps_st (S' := (134, [(0, .ref q), (2, .int (nI (B + e))), (4, .int (nI w)), (5, .int (nI (B + i + 1)))], [.int (1024 * (nI (pW (c (i + 1))))), .int 4096], M)) rfl rfl rfl ?_
                    rw [nI_mul1 (p := 1024) (k := pW (c (i + 1))) (x := 1024) (y := (nI (pW (c (i + 1))))) rfl rfl (by omega)]
                    show pl _ _ _ (_, [(0, .ref q), (2, .int (nI (B + e))), (4, .int (nI w)), (5, .int (nI (B + i + 1)))], [.int (nI (1024 * (pW (c (i + 1))))), .int 4096], M) _
                    refine ps_st (S' := (135, [(0, .ref q), (2, .int (nI (B + e))), (4, .int (nI w)), (5, .int (nI (B + i + 1)))], [.int (4096 + (nI (1024 * (pW (c (i + 1))))))], M)) rfl rfl rfl ?_
                    rw [nI_add2 (p := 4096) (k := 1024 * (pW (c (i + 1)))) (x := 4096) (y := (nI (1024 * (pW (c (i + 1)))))) rfl rfl (by omega)]
                    show pl _ _ _ (_, [(0, .ref q), (2, .int (nI (B + e))), (4, .int (nI w)), (5, .int (nI (B + i + 1)))], [.int (nI (4096 + 1024 * (pW (c (i + 1)))))], M) _
                    refine ps_st (S' := (137, [(0, .ref q), (2, .int (nI (B + e))), (4, .int (nI w)), (5, .int (nI (B + i + 1)))], [.int (nI w), .int (nI (4096 + 1024 * (pW (c (i + 1)))))], M)) rfl rfl rfl ?_
                    refine ps_st (S' := (138, [(0, .ref q), (2, .int (nI (B + e))), (4, .int (nI w)), (5, .int (nI (B + i + 1)))], [.int ((nI (4096 + 1024 * (pW (c (i + 1))))) + (nI w))], M)) rfl rfl rfl ?_
                    rw [nI_add1 (p := 4096 + 1024 * (pW (c (i + 1)))) (k := w) (x := (nI w)) rfl (by omega)]
                    show pl _ _ _ (_, [(0, .ref q), (2, .int (nI (B + e))), (4, .int (nI w)), (5, .int (nI (B + i + 1)))], [.int (nI (4096 + 1024 * (pW (c (i + 1))) + w))], M) _
                    exact ps_reti rfl ((fun (he : s_ms c e i0 = 4096 + 1024 * pW (c (i + 1)) + w) => Or.inr ⟨by omega, by rw [he], rfl⟩) (by
                        unfold s_ms
                        rw [← hs]
                        rw [s_ar_0 (by omega)]
                        dsimp only
                        rw [if_neg (by omega), if_neg (by omega), if_pos (by rw [q108_s]; congr 1; omega)]))
                  · have c_112 : ¬ ((nI (B + x11)) = (nI (B + e))) := of_decide_eq_false c_112
                    have n_112 : ¬ (B + x11 = B + e) := fun h9 => c_112 ((eq_nI (p := B + x11) (n := B + e) (by omega) (by omega)).mpr h9)
                    refine ps_st (S' := (116, [(0, .ref q), (2, .int (nI (B + e))), (4, .int (nI w)), (5, .int (nI (B + i + 1)))], [.int (-1)], M)) rfl rfl rfl ?_
                    exact ps_ret rfl rfl (Or.inl ⟨by
                        unfold s_ms
                        rw [← hs]
                        rw [s_ar_0 (by omega)]
                        dsimp only
                        rw [q108_s]
                        repeat' split
                        all_goals first | rfl | (exfalso; omega) | (exfalso; simp_all; done) | (exfalso; simp_all; omega), rfl, rfl⟩)
              · have c_94 : ¬ (¬ (nI (B + i + 2)) = (nI (B + e))) := of_decide_eq_false c_94
                have n_94 : B + i + 2 = B + e := (eq_nI (p := B + i + 2) (n := B + e) (by omega) (by omega)).mp (Decidable.not_not.mp c_94)
                refine ps_st (S' := (100, [(5, .int (nI (B + i + 1))), (0, .ref q), (2, .int (nI (B + e))), (3, .int (nI (B + i))), (4, .int (nI w))], [.int 4096], M)) rfl rfl rfl ?_
                refine ps_st (S' := (102, [(5, .int (nI (B + i + 1))), (0, .ref q), (2, .int (nI (B + e))), (3, .int (nI (B + i))), (4, .int (nI w))], [.int (nI w), .int 4096], M)) rfl rfl rfl ?_
                refine ps_st (S' := (103, [(5, .int (nI (B + i + 1))), (0, .ref q), (2, .int (nI (B + e))), (3, .int (nI (B + i))), (4, .int (nI w))], [.int (4096 + (nI w))], M)) rfl rfl rfl ?_
                rw [nI_add2 (p := 4096) (k := w) (x := 4096) (y := (nI w)) rfl rfl (by omega)]
                show pl _ _ _ (_, [(5, .int (nI (B + i + 1))), (0, .ref q), (2, .int (nI (B + e))), (3, .int (nI (B + i))), (4, .int (nI w))], [.int (nI (4096 + w))], M) _
                exact ps_reti rfl ((fun (he : s_ms c e i0 = 4096 + w) => Or.inr ⟨by omega, by rw [he], rfl⟩) (by
                    unfold s_ms
                    rw [← hs]
                    rw [s_ar_0 (by omega)]
                    dsimp only
                    rw [if_neg (by omega), if_pos (by omega)]))
          · have c_72 : ¬ ((nI w) ≤ 255) := of_decide_eq_false c_72
            have n_72 : ¬ (w ≤ 255) := fun h9 => c_72 ((le_nI (p := w) (n := 255) (by omega) (by decide)).mpr h9)
            refine ps_st (S' := (76, [], [.int (-1)], M)) rfl rfl rfl ?_
            exact ps_ret rfl rfl (Or.inl ⟨by
                unfold s_ms
                rw [← hs]
                rw [s_ar_0 (by omega)]
                dsimp only
                repeat' split
                all_goals first | rfl | (exfalso; omega) | (exfalso; simp_all; done) | (exfalso; simp_all; omega), rfl, rfl⟩)
      · have c_10 : ¬ (255 < (nI w)) := of_decide_eq_false c_10
        have n_10 : ¬ (255 < w) := fun h9 => c_10 ((lt_nI (p := 255) (n := w) (by decide) (by omega)).mpr h9)
        refine ps_st (S' := (14, [(0, .ref q), (2, .int (nI (B + e))), (3, .int (nI (B + i))), (4, .int (nI w))], [.int (nI (B + i))], M)) rfl rfl rfl ?_
        refine ps_st (S' := (15, [(0, .ref q), (2, .int (nI (B + e))), (3, .int (nI (B + i))), (4, .int (nI w))], [.int (nI (B + e)), .int (nI (B + i))], M)) rfl rfl rfl ?_
        refine ps_if2 (S1 := (56, [(0, .ref q), (2, .int (nI (B + e))), (3, .int (nI (B + i))), (4, .int (nI w))], [], M)) (S2 := (18, [(0, .ref q), (2, .int (nI (B + e))), (3, .int (nI (B + i))), (4, .int (nI w))], [], M)) rfl rfl rfl (fun c_15 => ?_) (fun c_15 => ?_)
        · have c_15 : (nI (B + e)) ≤ (nI (B + i)) := of_decide_eq_true c_15
          have n_15 : B + e ≤ B + i := (le_nI (p := B + e) (n := B + i) (by omega) (by omega)).mp c_15
          refine ps_st (S' := (57, [(0, .ref q), (2, .int (nI (B + e))), (3, .int (nI (B + i))), (4, .int (nI w))], [.int (nI (B + i))], M)) rfl rfl rfl ?_
          refine ps_st (S' := (58, [(0, .ref q), (2, .int (nI (B + e))), (3, .int (nI (B + i))), (4, .int (nI w))], [.int 1, .int (nI (B + i))], M)) rfl rfl rfl ?_
          refine ps_st (S' := (59, [(0, .ref q), (2, .int (nI (B + e))), (3, .int (nI (B + i))), (4, .int (nI w))], [.int ((nI (B + i)) + 1)], M)) rfl rfl rfl ?_
          rw [nI_add1 (p := B + i) (k := 1) (x := 1) rfl (by omega)]
          show pl _ _ _ (_, [(0, .ref q), (2, .int (nI (B + e))), (3, .int (nI (B + i))), (4, .int (nI w))], [.int (nI (B + i + 1))], M) _
          refine ps_st (S' := (61, [(5, .int (nI (B + i + 1))), (0, .ref q), (2, .int (nI (B + e))), (3, .int (nI (B + i))), (4, .int (nI w))], [], M)) rfl rfl rfl ?_
          refine ps_st (S' := (63, [(5, .int (nI (B + i + 1))), (0, .ref q), (2, .int (nI (B + e))), (3, .int (nI (B + i))), (4, .int (nI w))], [.int (nI (B + i + 1))], M)) rfl rfl rfl ?_
          refine ps_st (S' := (64, [(5, .int (nI (B + i + 1))), (0, .ref q), (2, .int (nI (B + e))), (3, .int (nI (B + i))), (4, .int (nI w))], [.int (nI (B + e)), .int (nI (B + i + 1))], M)) rfl rfl rfl ?_
          refine ps_if2 (S1 := (75, [], [], M)) (S2 := (67, [(5, .int (nI (B + i + 1))), (0, .ref q), (2, .int (nI (B + e))), (3, .int (nI (B + i))), (4, .int (nI w))], [], M)) rfl rfl rfl (fun c_64 => ?_) (fun c_64 => ?_)
          · have c_64 : (nI (B + e)) ≤ (nI (B + i + 1)) := of_decide_eq_true c_64
            have n_64 : B + e ≤ B + i + 1 := (le_nI (p := B + e) (n := B + i + 1) (by omega) (by omega)).mp c_64
            refine ps_st (S' := (76, [], [.int (-1)], M)) rfl rfl rfl ?_
            exact ps_ret rfl rfl (Or.inl ⟨by
                unfold s_ms
                rw [← hs]
                rw [s_ar_0 (by omega)]
                dsimp only
                repeat' split
                all_goals first | rfl | (exfalso; omega) | (exfalso; simp_all; done) | (exfalso; simp_all; omega), rfl, rfl⟩)
          · have c_64 : ¬ ((nI (B + e)) ≤ (nI (B + i + 1))) := of_decide_eq_false c_64
            have n_64 : ¬ (B + e ≤ B + i + 1) := fun h9 => c_64 ((le_nI (p := B + e) (n := B + i + 1) (by omega) (by omega)).mpr h9)
            refine ps_st (S' := (69, [(5, .int (nI (B + i + 1))), (0, .ref q), (2, .int (nI (B + e))), (3, .int (nI (B + i))), (4, .int (nI w))], [.int (nI w)], M)) rfl rfl rfl ?_
            refine ps_st (S' := (72, [(5, .int (nI (B + i + 1))), (0, .ref q), (2, .int (nI (B + e))), (3, .int (nI (B + i))), (4, .int (nI w))], [.int 255, .int (nI w)], M)) rfl rfl rfl ?_
            refine ps_if2 (S1 := (77, [(5, .int (nI (B + i + 1))), (0, .ref q), (2, .int (nI (B + e))), (3, .int (nI (B + i))), (4, .int (nI w))], [], M)) (S2 := (75, [], [], M)) rfl rfl rfl (fun c_72 => ?_) (fun c_72 => ?_)
            · have c_72 : (nI w) ≤ 255 := of_decide_eq_true c_72
              have n_72 : w ≤ 255 := (le_nI (p := w) (n := 255) (by omega) (by decide)).mp c_72
              refine ps_st (S' := (78, [(5, .int (nI (B + i + 1))), (0, .ref q), (2, .int (nI (B + e))), (3, .int (nI (B + i))), (4, .int (nI w))], [.ref q], M)) rfl rfl rfl ?_
              refine ps_get (S' := (81, [(5, .int (nI (B + i + 1))), (0, .ref q), (2, .int (nI (B + e))), (3, .int (nI (B + i))), (4, .int (nI w))], [.ref (qq 6)], M)) rfl h_q rfl rfl ?_
              refine ps_st (S' := (83, [(5, .int (nI (B + i + 1))), (0, .ref q), (2, .int (nI (B + e))), (3, .int (nI (B + i))), (4, .int (nI w))], [.int (nI (B + i + 1)), .ref (qq 6)], M)) rfl rfl rfl ?_
              refine ps_ald (S' := (84, [(5, .int (nI (B + i + 1))), (0, .ref q), (2, .int (nI (B + e))), (3, .int (nI (B + i))), (4, .int (nI w))], [.int ((F 6) (Int32.toNatClampNeg (nI (B + i + 1))))], M)) rfl h_qq_6 rfl (fun i0_83 i1_83 => ?_)
              have hb_83 := (hc (i + 1) (by omega)).2
              rw [show ((F 6) (Int32.toNatClampNeg (nI (B + i + 1)))) = (nI (c (i + 1))) from (congrArg (F 6) (nI_toNat (k := B + i + 1) (by omega))).trans ((hc (i + 1) (by omega)).1)]
              show pl _ _ _ (_, [(5, .int (nI (B + i + 1))), (0, .ref q), (2, .int (nI (B + e))), (3, .int (nI (B + i))), (4, .int (nI w))], [.int (nI (c (i + 1)))], M) _
              refine ps_st (S' := (86, [(5, .int (nI (B + i + 1))), (0, .ref q), (2, .int (nI (B + e))), (3, .int (nI (B + i))), (4, .int (nI w))], [.int 86, .int (nI (c (i + 1)))], M)) rfl rfl rfl ?_
              refine ps_if2 (S1 := (104, [(0, .ref q), (2, .int (nI (B + e))), (4, .int (nI w)), (5, .int (nI (B + i + 1)))], [], M)) (S2 := (89, [(5, .int (nI (B + i + 1))), (0, .ref q), (2, .int (nI (B + e))), (3, .int (nI (B + i))), (4, .int (nI w))], [], M)) rfl rfl rfl (fun c_86 => ?_) (fun c_86 => ?_)
              · have c_86 : ¬ (nI (c (i + 1))) = 86 := of_decide_eq_true c_86
                have n_86 : ¬ (c (i + 1) = 86) := fun h9 => c_86 ((eq_nI (p := c (i + 1)) (n := 86) (by omega) (by decide)).mpr h9)
                refine ps_st (S' := (105, [(0, .ref q), (2, .int (nI (B + e))), (4, .int (nI w)), (5, .int (nI (B + i + 1)))], [.ref q], M)) rfl rfl rfl ?_
                refine ps_st (S' := (107, [(0, .ref q), (2, .int (nI (B + e))), (4, .int (nI w)), (5, .int (nI (B + i + 1)))], [.int (nI (B + i + 1)), .ref q], M)) rfl rfl rfl ?_
                refine ps_st (S' := (108, [(0, .ref q), (2, .int (nI (B + e))), (4, .int (nI w)), (5, .int (nI (B + i + 1)))], [.int (nI (B + e)), .int (nI (B + i + 1)), .ref q], M)) rfl rfl rfl ?_
                refine pl_call (a := [.ref q, .int (nI (B + i + 1)), .int (nI (B + e))]) (rest := []) rfl rfl rfl (dy_typeEnd (q := q) (c := c) (B := B) (e := e) (i0 := (i + 1)) (hP) (hm) (hc) (by omega)) (fun v15 M16 q17 => ?_)
                rcases q17 with q17 | q17
                · skip
                  obtain ⟨q108_s, rfl, rfl⟩ := q17
                  show pl _ _ _ (111, [(0, .ref q), (2, .int (nI (B + e))), (4, .int (nI w)), (5, .int (nI (B + i + 1)))], [.int (-1)], M) _
                  refine ps_st (S' := (112, [(0, .ref q), (2, .int (nI (B + e))), (4, .int (nI w)), (5, .int (nI (B + i + 1)))], [.int (nI (B + e)), .int (-1)], M)) rfl rfl rfl ?_
                  refine ps_if2 (S1 := (117, [(0, .ref q), (2, .int (nI (B + e))), (4, .int (nI w)), (5, .int (nI (B + i + 1)))], [], M)) (S2 := (115, [(0, .ref q), (2, .int (nI (B + e))), (4, .int (nI w)), (5, .int (nI (B + i + 1)))], [], M)) rfl rfl rfl (fun c_112 => ?_) (fun c_112 => ?_)
                  · exact absurd (of_decide_eq_true c_112) (m1_ne (by omega))
                  refine ps_st (S' := (116, [(0, .ref q), (2, .int (nI (B + e))), (4, .int (nI w)), (5, .int (nI (B + i + 1)))], [.int (-1)], M)) rfl rfl rfl ?_
                  exact ps_ret rfl rfl (Or.inl ⟨by
                      unfold s_ms
                      rw [← hs]
                      rw [s_ar_0 (by omega)]
                      dsimp only
                      rw [q108_s]
                      repeat' split
                      all_goals first | rfl | (exfalso; omega) | (exfalso; simp_all; done) | (exfalso; simp_all; omega), rfl, rfl⟩)
                · skip
                  obtain ⟨x18, q108_s, rfl, rfl⟩ := q17
                  show pl _ _ _ (111, [(0, .ref q), (2, .int (nI (B + e))), (4, .int (nI w)), (5, .int (nI (B + i + 1)))], [.int (nI (B + x18))], M) _
                  have hl_108 := s_ty_le q108_s
                  refine ps_st (S' := (112, [(0, .ref q), (2, .int (nI (B + e))), (4, .int (nI w)), (5, .int (nI (B + i + 1)))], [.int (nI (B + e)), .int (nI (B + x18))], M)) rfl rfl rfl ?_
                  refine ps_if2 (S1 := (117, [(0, .ref q), (2, .int (nI (B + e))), (4, .int (nI w)), (5, .int (nI (B + i + 1)))], [], M)) (S2 := (115, [(0, .ref q), (2, .int (nI (B + e))), (4, .int (nI w)), (5, .int (nI (B + i + 1)))], [], M)) rfl rfl rfl (fun c_112 => ?_) (fun c_112 => ?_)
                  · have c_112 : (nI (B + x18)) = (nI (B + e)) := of_decide_eq_true c_112
                    have n_112 : B + x18 = B + e := (eq_nI (p := B + x18) (n := B + e) (by omega) (by omega)).mp c_112
                    refine ps_st (S' := (120, [(0, .ref q), (2, .int (nI (B + e))), (4, .int (nI w)), (5, .int (nI (B + i + 1)))], [.int 4096], M)) rfl rfl rfl ?_
                    refine ps_st (S' := (123, [(0, .ref q), (2, .int (nI (B + e))), (4, .int (nI w)), (5, .int (nI (B + i + 1)))], [.int 1024, .int 4096], M)) rfl rfl rfl ?_
                    refine ps_st (S' := (124, [(0, .ref q), (2, .int (nI (B + e))), (4, .int (nI w)), (5, .int (nI (B + i + 1)))], [.ref q, .int 1024, .int 4096], M)) rfl rfl rfl ?_
                    refine ps_get (S' := (127, [(0, .ref q), (2, .int (nI (B + e))), (4, .int (nI w)), (5, .int (nI (B + i + 1)))], [.ref (qq 6), .int 1024, .int 4096], M)) rfl h_q rfl rfl ?_
                    refine ps_st (S' := (129, [(0, .ref q), (2, .int (nI (B + e))), (4, .int (nI w)), (5, .int (nI (B + i + 1)))], [.int (nI (B + i + 1)), .ref (qq 6), .int 1024, .int 4096], M)) rfl rfl rfl ?_
                    refine ps_ald (S' := (130, [(0, .ref q), (2, .int (nI (B + e))), (4, .int (nI w)), (5, .int (nI (B + i + 1)))], [.int ((F 6) (Int32.toNatClampNeg (nI (B + i + 1)))), .int 1024, .int 4096], M)) rfl h_qq_6 rfl (fun i0_129 i1_129 => ?_)
                    have hb_129 := (hc (i + 1) (by omega)).2
                    rw [show ((F 6) (Int32.toNatClampNeg (nI (B + i + 1)))) = (nI (c (i + 1))) from (congrArg (F 6) (nI_toNat (k := B + i + 1) (by omega))).trans ((hc (i + 1) (by omega)).1)]
                    show pl _ _ _ (_, [(0, .ref q), (2, .int (nI (B + e))), (4, .int (nI w)), (5, .int (nI (B + i + 1)))], [.int (nI (c (i + 1))), .int 1024, .int 4096], M) _
                    refine pl_call (a := [.int (nI (c (i + 1)))]) (rest := [.int 1024, .int 4096]) rfl rfl rfl (dy_places (x := (c (i + 1))) (by omega)) (fun v19 M20 q21 => ?_)
                    obtain ⟨rfl, rfl⟩ := q21
                    show pl _ _ _ (133, [(0, .ref q), (2, .int (nI (B + e))), (4, .int (nI w)), (5, .int (nI (B + i + 1)))], [.int (nI (pW (c (i + 1)))), .int 1024, .int 4096], M) _
                    have hp_130 := pW_le (c (i + 1))
                    refine ps_st (S' := (134, [(0, .ref q), (2, .int (nI (B + e))), (4, .int (nI w)), (5, .int (nI (B + i + 1)))], [.int (1024 * (nI (pW (c (i + 1))))), .int 4096], M)) rfl rfl rfl ?_
                    rw [nI_mul1 (p := 1024) (k := pW (c (i + 1))) (x := 1024) (y := (nI (pW (c (i + 1))))) rfl rfl (by omega)]
                    show pl _ _ _ (_, [(0, .ref q), (2, .int (nI (B + e))), (4, .int (nI w)), (5, .int (nI (B + i + 1)))], [.int (nI (1024 * (pW (c (i + 1))))), .int 4096], M) _
                    refine ps_st (S' := (135, [(0, .ref q), (2, .int (nI (B + e))), (4, .int (nI w)), (5, .int (nI (B + i + 1)))], [.int (4096 + (nI (1024 * (pW (c (i + 1))))))], M)) rfl rfl rfl ?_
                    rw [nI_add2 (p := 4096) (k := 1024 * (pW (c (i + 1)))) (x := 4096) (y := (nI (1024 * (pW (c (i + 1)))))) rfl rfl (by omega)]
                    show pl _ _ _ (_, [(0, .ref q), (2, .int (nI (B + e))), (4, .int (nI w)), (5, .int (nI (B + i + 1)))], [.int (nI (4096 + 1024 * (pW (c (i + 1)))))], M) _
                    refine ps_st (S' := (137, [(0, .ref q), (2, .int (nI (B + e))), (4, .int (nI w)), (5, .int (nI (B + i + 1)))], [.int (nI w), .int (nI (4096 + 1024 * (pW (c (i + 1)))))], M)) rfl rfl rfl ?_
                    refine ps_st (S' := (138, [(0, .ref q), (2, .int (nI (B + e))), (4, .int (nI w)), (5, .int (nI (B + i + 1)))], [.int ((nI (4096 + 1024 * (pW (c (i + 1))))) + (nI w))], M)) rfl rfl rfl ?_
                    rw [nI_add1 (p := 4096 + 1024 * (pW (c (i + 1)))) (k := w) (x := (nI w)) rfl (by omega)]
                    show pl _ _ _ (_, [(0, .ref q), (2, .int (nI (B + e))), (4, .int (nI w)), (5, .int (nI (B + i + 1)))], [.int (nI (4096 + 1024 * (pW (c (i + 1))) + w))], M) _
                    exact ps_reti rfl ((fun (he : s_ms c e i0 = 4096 + 1024 * pW (c (i + 1)) + w) => Or.inr ⟨by omega, by rw [he], rfl⟩) (by
                        unfold s_ms
                        rw [← hs]
                        rw [s_ar_0 (by omega)]
                        dsimp only
                        rw [if_neg (by omega), if_neg (by omega), if_pos (by rw [q108_s]; congr 1; omega)]))
                  · have c_112 : ¬ ((nI (B + x18)) = (nI (B + e))) := of_decide_eq_false c_112
                    have n_112 : ¬ (B + x18 = B + e) := fun h9 => c_112 ((eq_nI (p := B + x18) (n := B + e) (by omega) (by omega)).mpr h9)
                    refine ps_st (S' := (116, [(0, .ref q), (2, .int (nI (B + e))), (4, .int (nI w)), (5, .int (nI (B + i + 1)))], [.int (-1)], M)) rfl rfl rfl ?_
                    exact ps_ret rfl rfl (Or.inl ⟨by
                        unfold s_ms
                        rw [← hs]
                        rw [s_ar_0 (by omega)]
                        dsimp only
                        rw [q108_s]
                        repeat' split
                        all_goals first | rfl | (exfalso; omega) | (exfalso; simp_all; done) | (exfalso; simp_all; omega), rfl, rfl⟩)
              · have c_86 : ¬ (¬ (nI (c (i + 1))) = 86) := of_decide_eq_false c_86
                have n_86 : c (i + 1) = 86 := (eq_nI (p := c (i + 1)) (n := 86) (by omega) (by decide)).mp (Decidable.not_not.mp c_86)
                refine ps_st (S' := (91, [(5, .int (nI (B + i + 1))), (0, .ref q), (2, .int (nI (B + e))), (3, .int (nI (B + i))), (4, .int (nI w))], [.int (nI (B + i + 1))], M)) rfl rfl rfl ?_
                refine ps_st (S' := (92, [(5, .int (nI (B + i + 1))), (0, .ref q), (2, .int (nI (B + e))), (3, .int (nI (B + i))), (4, .int (nI w))], [.int 1, .int (nI (B + i + 1))], M)) rfl rfl rfl ?_
                refine ps_st (S' := (93, [(5, .int (nI (B + i + 1))), (0, .ref q), (2, .int (nI (B + e))), (3, .int (nI (B + i))), (4, .int (nI w))], [.int ((nI (B + i + 1)) + 1)], M)) rfl rfl rfl ?_
                rw [nI_add1 (p := B + i + 1) (k := 1) (x := 1) rfl (by omega)]
                show pl _ _ _ (_, [(5, .int (nI (B + i + 1))), (0, .ref q), (2, .int (nI (B + e))), (3, .int (nI (B + i))), (4, .int (nI w))], [.int (nI (B + i + 2))], M) _
                refine ps_st (S' := (94, [(5, .int (nI (B + i + 1))), (0, .ref q), (2, .int (nI (B + e))), (3, .int (nI (B + i))), (4, .int (nI w))], [.int (nI (B + e)), .int (nI (B + i + 2))], M)) rfl rfl rfl ?_
                refine ps_if2 (S1 := (104, [(0, .ref q), (2, .int (nI (B + e))), (4, .int (nI w)), (5, .int (nI (B + i + 1)))], [], M)) (S2 := (97, [(5, .int (nI (B + i + 1))), (0, .ref q), (2, .int (nI (B + e))), (3, .int (nI (B + i))), (4, .int (nI w))], [], M)) rfl rfl rfl (fun c_94 => ?_) (fun c_94 => ?_)
                · have c_94 : ¬ (nI (B + i + 2)) = (nI (B + e)) := of_decide_eq_true c_94
                  have n_94 : ¬ (B + i + 2 = B + e) := fun h9 => c_94 ((eq_nI (p := B + i + 2) (n := B + e) (by omega) (by omega)).mpr h9)
                  refine ps_st (S' := (105, [(0, .ref q), (2, .int (nI (B + e))), (4, .int (nI w)), (5, .int (nI (B + i + 1)))], [.ref q], M)) rfl rfl rfl ?_
                  refine ps_st (S' := (107, [(0, .ref q), (2, .int (nI (B + e))), (4, .int (nI w)), (5, .int (nI (B + i + 1)))], [.int (nI (B + i + 1)), .ref q], M)) rfl rfl rfl ?_
                  refine ps_st (S' := (108, [(0, .ref q), (2, .int (nI (B + e))), (4, .int (nI w)), (5, .int (nI (B + i + 1)))], [.int (nI (B + e)), .int (nI (B + i + 1)), .ref q], M)) rfl rfl rfl ?_
                  refine pl_call (a := [.ref q, .int (nI (B + i + 1)), .int (nI (B + e))]) (rest := []) rfl rfl rfl (dy_typeEnd (q := q) (c := c) (B := B) (e := e) (i0 := (i + 1)) (hP) (hm) (hc) (by omega)) (fun v22 M23 q24 => ?_)
                  rcases q24 with q24 | q24
                  · skip
                    obtain ⟨q108_s, rfl, rfl⟩ := q24
                    show pl _ _ _ (111, [(0, .ref q), (2, .int (nI (B + e))), (4, .int (nI w)), (5, .int (nI (B + i + 1)))], [.int (-1)], M) _
                    refine ps_st (S' := (112, [(0, .ref q), (2, .int (nI (B + e))), (4, .int (nI w)), (5, .int (nI (B + i + 1)))], [.int (nI (B + e)), .int (-1)], M)) rfl rfl rfl ?_
                    refine ps_if2 (S1 := (117, [(0, .ref q), (2, .int (nI (B + e))), (4, .int (nI w)), (5, .int (nI (B + i + 1)))], [], M)) (S2 := (115, [(0, .ref q), (2, .int (nI (B + e))), (4, .int (nI w)), (5, .int (nI (B + i + 1)))], [], M)) rfl rfl rfl (fun c_112 => ?_) (fun c_112 => ?_)
                    · exact absurd (of_decide_eq_true c_112) (m1_ne (by omega))
                    refine ps_st (S' := (116, [(0, .ref q), (2, .int (nI (B + e))), (4, .int (nI w)), (5, .int (nI (B + i + 1)))], [.int (-1)], M)) rfl rfl rfl ?_
                    exact ps_ret rfl rfl (Or.inl ⟨by
                        unfold s_ms
                        rw [← hs]
                        rw [s_ar_0 (by omega)]
                        dsimp only
                        rw [q108_s]
                        repeat' split
                        all_goals first | rfl | (exfalso; omega) | (exfalso; simp_all; done) | (exfalso; simp_all; omega), rfl, rfl⟩)
                  · skip
                    obtain ⟨x25, q108_s, rfl, rfl⟩ := q24
                    show pl _ _ _ (111, [(0, .ref q), (2, .int (nI (B + e))), (4, .int (nI w)), (5, .int (nI (B + i + 1)))], [.int (nI (B + x25))], M) _
                    have hl_108 := s_ty_le q108_s
                    refine ps_st (S' := (112, [(0, .ref q), (2, .int (nI (B + e))), (4, .int (nI w)), (5, .int (nI (B + i + 1)))], [.int (nI (B + e)), .int (nI (B + x25))], M)) rfl rfl rfl ?_
                    refine ps_if2 (S1 := (117, [(0, .ref q), (2, .int (nI (B + e))), (4, .int (nI w)), (5, .int (nI (B + i + 1)))], [], M)) (S2 := (115, [(0, .ref q), (2, .int (nI (B + e))), (4, .int (nI w)), (5, .int (nI (B + i + 1)))], [], M)) rfl rfl rfl (fun c_112 => ?_) (fun c_112 => ?_)
                    · have c_112 : (nI (B + x25)) = (nI (B + e)) := of_decide_eq_true c_112
                      have n_112 : B + x25 = B + e := (eq_nI (p := B + x25) (n := B + e) (by omega) (by omega)).mp c_112
                      refine ps_st (S' := (120, [(0, .ref q), (2, .int (nI (B + e))), (4, .int (nI w)), (5, .int (nI (B + i + 1)))], [.int 4096], M)) rfl rfl rfl ?_
                      refine ps_st (S' := (123, [(0, .ref q), (2, .int (nI (B + e))), (4, .int (nI w)), (5, .int (nI (B + i + 1)))], [.int 1024, .int 4096], M)) rfl rfl rfl ?_
                      refine ps_st (S' := (124, [(0, .ref q), (2, .int (nI (B + e))), (4, .int (nI w)), (5, .int (nI (B + i + 1)))], [.ref q, .int 1024, .int 4096], M)) rfl rfl rfl ?_
                      refine ps_get (S' := (127, [(0, .ref q), (2, .int (nI (B + e))), (4, .int (nI w)), (5, .int (nI (B + i + 1)))], [.ref (qq 6), .int 1024, .int 4096], M)) rfl h_q rfl rfl ?_
                      refine ps_st (S' := (129, [(0, .ref q), (2, .int (nI (B + e))), (4, .int (nI w)), (5, .int (nI (B + i + 1)))], [.int (nI (B + i + 1)), .ref (qq 6), .int 1024, .int 4096], M)) rfl rfl rfl ?_
                      refine ps_ald (S' := (130, [(0, .ref q), (2, .int (nI (B + e))), (4, .int (nI w)), (5, .int (nI (B + i + 1)))], [.int ((F 6) (Int32.toNatClampNeg (nI (B + i + 1)))), .int 1024, .int 4096], M)) rfl h_qq_6 rfl (fun i0_129 i1_129 => ?_)
                      have hb_129 := (hc (i + 1) (by omega)).2
                      rw [show ((F 6) (Int32.toNatClampNeg (nI (B + i + 1)))) = (nI (c (i + 1))) from (congrArg (F 6) (nI_toNat (k := B + i + 1) (by omega))).trans ((hc (i + 1) (by omega)).1)]
                      show pl _ _ _ (_, [(0, .ref q), (2, .int (nI (B + e))), (4, .int (nI w)), (5, .int (nI (B + i + 1)))], [.int (nI (c (i + 1))), .int 1024, .int 4096], M) _
                      refine pl_call (a := [.int (nI (c (i + 1)))]) (rest := [.int 1024, .int 4096]) rfl rfl rfl (dy_places (x := (c (i + 1))) (by omega)) (fun v26 M27 q28 => ?_)
                      obtain ⟨rfl, rfl⟩ := q28
                      show pl _ _ _ (133, [(0, .ref q), (2, .int (nI (B + e))), (4, .int (nI w)), (5, .int (nI (B + i + 1)))], [.int (nI (pW (c (i + 1)))), .int 1024, .int 4096], M) _
                      have hp_130 := pW_le (c (i + 1))
                      refine ps_st (S' := (134, [(0, .ref q), (2, .int (nI (B + e))), (4, .int (nI w)), (5, .int (nI (B + i + 1)))], [.int (1024 * (nI (pW (c (i + 1))))), .int 4096], M)) rfl rfl rfl ?_
                      rw [nI_mul1 (p := 1024) (k := pW (c (i + 1))) (x := 1024) (y := (nI (pW (c (i + 1))))) rfl rfl (by omega)]
                      show pl _ _ _ (_, [(0, .ref q), (2, .int (nI (B + e))), (4, .int (nI w)), (5, .int (nI (B + i + 1)))], [.int (nI (1024 * (pW (c (i + 1))))), .int 4096], M) _
                      refine ps_st (S' := (135, [(0, .ref q), (2, .int (nI (B + e))), (4, .int (nI w)), (5, .int (nI (B + i + 1)))], [.int (4096 + (nI (1024 * (pW (c (i + 1))))))], M)) rfl rfl rfl ?_
                      rw [nI_add2 (p := 4096) (k := 1024 * (pW (c (i + 1)))) (x := 4096) (y := (nI (1024 * (pW (c (i + 1)))))) rfl rfl (by omega)]
                      show pl _ _ _ (_, [(0, .ref q), (2, .int (nI (B + e))), (4, .int (nI w)), (5, .int (nI (B + i + 1)))], [.int (nI (4096 + 1024 * (pW (c (i + 1)))))], M) _
                      refine ps_st (S' := (137, [(0, .ref q), (2, .int (nI (B + e))), (4, .int (nI w)), (5, .int (nI (B + i + 1)))], [.int (nI w), .int (nI (4096 + 1024 * (pW (c (i + 1)))))], M)) rfl rfl rfl ?_
                      refine ps_st (S' := (138, [(0, .ref q), (2, .int (nI (B + e))), (4, .int (nI w)), (5, .int (nI (B + i + 1)))], [.int ((nI (4096 + 1024 * (pW (c (i + 1))))) + (nI w))], M)) rfl rfl rfl ?_
                      rw [nI_add1 (p := 4096 + 1024 * (pW (c (i + 1)))) (k := w) (x := (nI w)) rfl (by omega)]
                      show pl _ _ _ (_, [(0, .ref q), (2, .int (nI (B + e))), (4, .int (nI w)), (5, .int (nI (B + i + 1)))], [.int (nI (4096 + 1024 * (pW (c (i + 1))) + w))], M) _
                      exact ps_reti rfl ((fun (he : s_ms c e i0 = 4096 + 1024 * pW (c (i + 1)) + w) => Or.inr ⟨by omega, by rw [he], rfl⟩) (by
                          unfold s_ms
                          rw [← hs]
                          rw [s_ar_0 (by omega)]
                          dsimp only
                          rw [if_neg (by omega), if_neg (by omega), if_pos (by rw [q108_s]; congr 1; omega)]))
                    · have c_112 : ¬ ((nI (B + x25)) = (nI (B + e))) := of_decide_eq_false c_112
                      have n_112 : ¬ (B + x25 = B + e) := fun h9 => c_112 ((eq_nI (p := B + x25) (n := B + e) (by omega) (by omega)).mpr h9)
                      refine ps_st (S' := (116, [(0, .ref q), (2, .int (nI (B + e))), (4, .int (nI w)), (5, .int (nI (B + i + 1)))], [.int (-1)], M)) rfl rfl rfl ?_
                      exact ps_ret rfl rfl (Or.inl ⟨by
                          unfold s_ms
                          rw [← hs]
                          rw [s_ar_0 (by omega)]
                          dsimp only
                          rw [q108_s]
                          repeat' split
                          all_goals first | rfl | (exfalso; omega) | (exfalso; simp_all; done) | (exfalso; simp_all; omega), rfl, rfl⟩)
                · have c_94 : ¬ (¬ (nI (B + i + 2)) = (nI (B + e))) := of_decide_eq_false c_94
                  have n_94 : B + i + 2 = B + e := (eq_nI (p := B + i + 2) (n := B + e) (by omega) (by omega)).mp (Decidable.not_not.mp c_94)
                  refine ps_st (S' := (100, [(5, .int (nI (B + i + 1))), (0, .ref q), (2, .int (nI (B + e))), (3, .int (nI (B + i))), (4, .int (nI w))], [.int 4096], M)) rfl rfl rfl ?_
                  refine ps_st (S' := (102, [(5, .int (nI (B + i + 1))), (0, .ref q), (2, .int (nI (B + e))), (3, .int (nI (B + i))), (4, .int (nI w))], [.int (nI w), .int 4096], M)) rfl rfl rfl ?_
                  refine ps_st (S' := (103, [(5, .int (nI (B + i + 1))), (0, .ref q), (2, .int (nI (B + e))), (3, .int (nI (B + i))), (4, .int (nI w))], [.int (4096 + (nI w))], M)) rfl rfl rfl ?_
                  rw [nI_add2 (p := 4096) (k := w) (x := 4096) (y := (nI w)) rfl rfl (by omega)]
                  show pl _ _ _ (_, [(5, .int (nI (B + i + 1))), (0, .ref q), (2, .int (nI (B + e))), (3, .int (nI (B + i))), (4, .int (nI w))], [.int (nI (4096 + w))], M) _
                  exact ps_reti rfl ((fun (he : s_ms c e i0 = 4096 + w) => Or.inr ⟨by omega, by rw [he], rfl⟩) (by
                      unfold s_ms
                      rw [← hs]
                      rw [s_ar_0 (by omega)]
                      dsimp only
                      rw [if_neg (by omega), if_pos (by omega)]))
            · have c_72 : ¬ ((nI w) ≤ 255) := of_decide_eq_false c_72
              have n_72 : ¬ (w ≤ 255) := fun h9 => c_72 ((le_nI (p := w) (n := 255) (by omega) (by decide)).mpr h9)
              refine ps_st (S' := (76, [], [.int (-1)], M)) rfl rfl rfl ?_
              exact ps_ret rfl rfl (Or.inl ⟨by
                  unfold s_ms
                  rw [← hs]
                  rw [s_ar_0 (by omega)]
                  dsimp only
                  repeat' split
                  all_goals first | rfl | (exfalso; omega) | (exfalso; simp_all; done) | (exfalso; simp_all; omega), rfl, rfl⟩)
        · have c_15 : ¬ ((nI (B + e)) ≤ (nI (B + i))) := of_decide_eq_false c_15
          have n_15 : ¬ (B + e ≤ B + i) := fun h9 => c_15 ((le_nI (p := B + e) (n := B + i) (by omega) (by omega)).mpr h9)
          refine ps_st (S' := (19, [(0, .ref q), (2, .int (nI (B + e))), (3, .int (nI (B + i))), (4, .int (nI w))], [.ref q], M)) rfl rfl rfl ?_
          refine ps_get (S' := (22, [(0, .ref q), (2, .int (nI (B + e))), (3, .int (nI (B + i))), (4, .int (nI w))], [.ref (qq 6)], M)) rfl h_q rfl rfl ?_
          refine ps_st (S' := (23, [(0, .ref q), (2, .int (nI (B + e))), (3, .int (nI (B + i))), (4, .int (nI w))], [.int (nI (B + i)), .ref (qq 6)], M)) rfl rfl rfl ?_
          refine ps_ald (S' := (24, [(0, .ref q), (2, .int (nI (B + e))), (3, .int (nI (B + i))), (4, .int (nI w))], [.int ((F 6) (Int32.toNatClampNeg (nI (B + i))))], M)) rfl h_qq_6 rfl (fun i0_23 i1_23 => ?_)
          have hb_23 := (hc (i) (by omega)).2
          rw [show ((F 6) (Int32.toNatClampNeg (nI (B + i)))) = (nI (c i)) from (congrArg (F 6) (nI_toNat (k := B + i) (by omega))).trans ((hc (i) (by omega)).1)]
          show pl _ _ _ (_, [(0, .ref q), (2, .int (nI (B + e))), (3, .int (nI (B + i))), (4, .int (nI w))], [.int (nI (c i))], M) _
          refine ps_st (S' := (26, [(0, .ref q), (2, .int (nI (B + e))), (3, .int (nI (B + i))), (4, .int (nI w))], [.int 41, .int (nI (c i))], M)) rfl rfl rfl ?_
          refine ps_if2 (S1 := (56, [(0, .ref q), (2, .int (nI (B + e))), (3, .int (nI (B + i))), (4, .int (nI w))], [], M)) (S2 := (29, [(0, .ref q), (2, .int (nI (B + e))), (3, .int (nI (B + i))), (4, .int (nI w))], [], M)) rfl rfl rfl (fun c_26 => ?_) (fun c_26 => ?_)
          · have c_26 : (nI (c i)) = 41 := of_decide_eq_true c_26
            have n_26 : c i = 41 := (eq_nI (p := c i) (n := 41) (by omega) (by decide)).mp c_26
            refine ps_st (S' := (57, [(0, .ref q), (2, .int (nI (B + e))), (3, .int (nI (B + i))), (4, .int (nI w))], [.int (nI (B + i))], M)) rfl rfl rfl ?_
            refine ps_st (S' := (58, [(0, .ref q), (2, .int (nI (B + e))), (3, .int (nI (B + i))), (4, .int (nI w))], [.int 1, .int (nI (B + i))], M)) rfl rfl rfl ?_
            refine ps_st (S' := (59, [(0, .ref q), (2, .int (nI (B + e))), (3, .int (nI (B + i))), (4, .int (nI w))], [.int ((nI (B + i)) + 1)], M)) rfl rfl rfl ?_
            rw [nI_add1 (p := B + i) (k := 1) (x := 1) rfl (by omega)]
            show pl _ _ _ (_, [(0, .ref q), (2, .int (nI (B + e))), (3, .int (nI (B + i))), (4, .int (nI w))], [.int (nI (B + i + 1))], M) _
            refine ps_st (S' := (61, [(5, .int (nI (B + i + 1))), (0, .ref q), (2, .int (nI (B + e))), (3, .int (nI (B + i))), (4, .int (nI w))], [], M)) rfl rfl rfl ?_
            refine ps_st (S' := (63, [(5, .int (nI (B + i + 1))), (0, .ref q), (2, .int (nI (B + e))), (3, .int (nI (B + i))), (4, .int (nI w))], [.int (nI (B + i + 1))], M)) rfl rfl rfl ?_
            refine ps_st (S' := (64, [(5, .int (nI (B + i + 1))), (0, .ref q), (2, .int (nI (B + e))), (3, .int (nI (B + i))), (4, .int (nI w))], [.int (nI (B + e)), .int (nI (B + i + 1))], M)) rfl rfl rfl ?_
            refine ps_if2 (S1 := (75, [], [], M)) (S2 := (67, [(5, .int (nI (B + i + 1))), (0, .ref q), (2, .int (nI (B + e))), (3, .int (nI (B + i))), (4, .int (nI w))], [], M)) rfl rfl rfl (fun c_64 => ?_) (fun c_64 => ?_)
            · have c_64 : (nI (B + e)) ≤ (nI (B + i + 1)) := of_decide_eq_true c_64
              have n_64 : B + e ≤ B + i + 1 := (le_nI (p := B + e) (n := B + i + 1) (by omega) (by omega)).mp c_64
              refine ps_st (S' := (76, [], [.int (-1)], M)) rfl rfl rfl ?_
              exact ps_ret rfl rfl (Or.inl ⟨by
                  unfold s_ms
                  rw [← hs]
                  rw [s_ar_0 (by omega)]
                  dsimp only
                  repeat' split
                  all_goals first | rfl | (exfalso; omega) | (exfalso; simp_all; done) | (exfalso; simp_all; omega), rfl, rfl⟩)
            · have c_64 : ¬ ((nI (B + e)) ≤ (nI (B + i + 1))) := of_decide_eq_false c_64
              have n_64 : ¬ (B + e ≤ B + i + 1) := fun h9 => c_64 ((le_nI (p := B + e) (n := B + i + 1) (by omega) (by omega)).mpr h9)
              refine ps_st (S' := (69, [(5, .int (nI (B + i + 1))), (0, .ref q), (2, .int (nI (B + e))), (3, .int (nI (B + i))), (4, .int (nI w))], [.int (nI w)], M)) rfl rfl rfl ?_
              refine ps_st (S' := (72, [(5, .int (nI (B + i + 1))), (0, .ref q), (2, .int (nI (B + e))), (3, .int (nI (B + i))), (4, .int (nI w))], [.int 255, .int (nI w)], M)) rfl rfl rfl ?_
              refine ps_if2 (S1 := (77, [(5, .int (nI (B + i + 1))), (0, .ref q), (2, .int (nI (B + e))), (3, .int (nI (B + i))), (4, .int (nI w))], [], M)) (S2 := (75, [], [], M)) rfl rfl rfl (fun c_72 => ?_) (fun c_72 => ?_)
              · have c_72 : (nI w) ≤ 255 := of_decide_eq_true c_72
                have n_72 : w ≤ 255 := (le_nI (p := w) (n := 255) (by omega) (by decide)).mp c_72
                refine ps_st (S' := (78, [(5, .int (nI (B + i + 1))), (0, .ref q), (2, .int (nI (B + e))), (3, .int (nI (B + i))), (4, .int (nI w))], [.ref q], M)) rfl rfl rfl ?_
                refine ps_get (S' := (81, [(5, .int (nI (B + i + 1))), (0, .ref q), (2, .int (nI (B + e))), (3, .int (nI (B + i))), (4, .int (nI w))], [.ref (qq 6)], M)) rfl h_q rfl rfl ?_
                refine ps_st (S' := (83, [(5, .int (nI (B + i + 1))), (0, .ref q), (2, .int (nI (B + e))), (3, .int (nI (B + i))), (4, .int (nI w))], [.int (nI (B + i + 1)), .ref (qq 6)], M)) rfl rfl rfl ?_
                refine ps_ald (S' := (84, [(5, .int (nI (B + i + 1))), (0, .ref q), (2, .int (nI (B + e))), (3, .int (nI (B + i))), (4, .int (nI w))], [.int ((F 6) (Int32.toNatClampNeg (nI (B + i + 1))))], M)) rfl h_qq_6 rfl (fun i0_83 i1_83 => ?_)
                have hb_83 := (hc (i + 1) (by omega)).2
                rw [show ((F 6) (Int32.toNatClampNeg (nI (B + i + 1)))) = (nI (c (i + 1))) from (congrArg (F 6) (nI_toNat (k := B + i + 1) (by omega))).trans ((hc (i + 1) (by omega)).1)]
                show pl _ _ _ (_, [(5, .int (nI (B + i + 1))), (0, .ref q), (2, .int (nI (B + e))), (3, .int (nI (B + i))), (4, .int (nI w))], [.int (nI (c (i + 1)))], M) _
                refine ps_st (S' := (86, [(5, .int (nI (B + i + 1))), (0, .ref q), (2, .int (nI (B + e))), (3, .int (nI (B + i))), (4, .int (nI w))], [.int 86, .int (nI (c (i + 1)))], M)) rfl rfl rfl ?_
                refine ps_if2 (S1 := (104, [(0, .ref q), (2, .int (nI (B + e))), (4, .int (nI w)), (5, .int (nI (B + i + 1)))], [], M)) (S2 := (89, [(5, .int (nI (B + i + 1))), (0, .ref q), (2, .int (nI (B + e))), (3, .int (nI (B + i))), (4, .int (nI w))], [], M)) rfl rfl rfl (fun c_86 => ?_) (fun c_86 => ?_)
                · have c_86 : ¬ (nI (c (i + 1))) = 86 := of_decide_eq_true c_86
                  have n_86 : ¬ (c (i + 1) = 86) := fun h9 => c_86 ((eq_nI (p := c (i + 1)) (n := 86) (by omega) (by decide)).mpr h9)
                  refine ps_st (S' := (105, [(0, .ref q), (2, .int (nI (B + e))), (4, .int (nI w)), (5, .int (nI (B + i + 1)))], [.ref q], M)) rfl rfl rfl ?_
                  refine ps_st (S' := (107, [(0, .ref q), (2, .int (nI (B + e))), (4, .int (nI w)), (5, .int (nI (B + i + 1)))], [.int (nI (B + i + 1)), .ref q], M)) rfl rfl rfl ?_
                  refine ps_st (S' := (108, [(0, .ref q), (2, .int (nI (B + e))), (4, .int (nI w)), (5, .int (nI (B + i + 1)))], [.int (nI (B + e)), .int (nI (B + i + 1)), .ref q], M)) rfl rfl rfl ?_
                  refine pl_call (a := [.ref q, .int (nI (B + i + 1)), .int (nI (B + e))]) (rest := []) rfl rfl rfl (dy_typeEnd (q := q) (c := c) (B := B) (e := e) (i0 := (i + 1)) (hP) (hm) (hc) (by omega)) (fun v29 M30 q31 => ?_)
                  rcases q31 with q31 | q31
                  · skip
                    obtain ⟨q108_s, rfl, rfl⟩ := q31
                    show pl _ _ _ (111, [(0, .ref q), (2, .int (nI (B + e))), (4, .int (nI w)), (5, .int (nI (B + i + 1)))], [.int (-1)], M) _
                    refine ps_st (S' := (112, [(0, .ref q), (2, .int (nI (B + e))), (4, .int (nI w)), (5, .int (nI (B + i + 1)))], [.int (nI (B + e)), .int (-1)], M)) rfl rfl rfl ?_
                    refine ps_if2 (S1 := (117, [(0, .ref q), (2, .int (nI (B + e))), (4, .int (nI w)), (5, .int (nI (B + i + 1)))], [], M)) (S2 := (115, [(0, .ref q), (2, .int (nI (B + e))), (4, .int (nI w)), (5, .int (nI (B + i + 1)))], [], M)) rfl rfl rfl (fun c_112 => ?_) (fun c_112 => ?_)
                    · exact absurd (of_decide_eq_true c_112) (m1_ne (by omega))
                    refine ps_st (S' := (116, [(0, .ref q), (2, .int (nI (B + e))), (4, .int (nI w)), (5, .int (nI (B + i + 1)))], [.int (-1)], M)) rfl rfl rfl ?_
                    exact ps_ret rfl rfl (Or.inl ⟨by
                        unfold s_ms
                        rw [← hs]
                        rw [s_ar_0 (by omega)]
                        dsimp only
                        rw [q108_s]
                        repeat' split
                        all_goals first | rfl | (exfalso; omega) | (exfalso; simp_all; done) | (exfalso; simp_all; omega), rfl, rfl⟩)
                  · skip
                    obtain ⟨x32, q108_s, rfl, rfl⟩ := q31
                    show pl _ _ _ (111, [(0, .ref q), (2, .int (nI (B + e))), (4, .int (nI w)), (5, .int (nI (B + i + 1)))], [.int (nI (B + x32))], M) _
                    have hl_108 := s_ty_le q108_s
                    refine ps_st (S' := (112, [(0, .ref q), (2, .int (nI (B + e))), (4, .int (nI w)), (5, .int (nI (B + i + 1)))], [.int (nI (B + e)), .int (nI (B + x32))], M)) rfl rfl rfl ?_
                    refine ps_if2 (S1 := (117, [(0, .ref q), (2, .int (nI (B + e))), (4, .int (nI w)), (5, .int (nI (B + i + 1)))], [], M)) (S2 := (115, [(0, .ref q), (2, .int (nI (B + e))), (4, .int (nI w)), (5, .int (nI (B + i + 1)))], [], M)) rfl rfl rfl (fun c_112 => ?_) (fun c_112 => ?_)
                    · have c_112 : (nI (B + x32)) = (nI (B + e)) := of_decide_eq_true c_112
                      have n_112 : B + x32 = B + e := (eq_nI (p := B + x32) (n := B + e) (by omega) (by omega)).mp c_112
                      refine ps_st (S' := (120, [(0, .ref q), (2, .int (nI (B + e))), (4, .int (nI w)), (5, .int (nI (B + i + 1)))], [.int 4096], M)) rfl rfl rfl ?_
                      refine ps_st (S' := (123, [(0, .ref q), (2, .int (nI (B + e))), (4, .int (nI w)), (5, .int (nI (B + i + 1)))], [.int 1024, .int 4096], M)) rfl rfl rfl ?_
                      refine ps_st (S' := (124, [(0, .ref q), (2, .int (nI (B + e))), (4, .int (nI w)), (5, .int (nI (B + i + 1)))], [.ref q, .int 1024, .int 4096], M)) rfl rfl rfl ?_
                      refine ps_get (S' := (127, [(0, .ref q), (2, .int (nI (B + e))), (4, .int (nI w)), (5, .int (nI (B + i + 1)))], [.ref (qq 6), .int 1024, .int 4096], M)) rfl h_q rfl rfl ?_
                      refine ps_st (S' := (129, [(0, .ref q), (2, .int (nI (B + e))), (4, .int (nI w)), (5, .int (nI (B + i + 1)))], [.int (nI (B + i + 1)), .ref (qq 6), .int 1024, .int 4096], M)) rfl rfl rfl ?_
                      refine ps_ald (S' := (130, [(0, .ref q), (2, .int (nI (B + e))), (4, .int (nI w)), (5, .int (nI (B + i + 1)))], [.int ((F 6) (Int32.toNatClampNeg (nI (B + i + 1)))), .int 1024, .int 4096], M)) rfl h_qq_6 rfl (fun i0_129 i1_129 => ?_)
                      have hb_129 := (hc (i + 1) (by omega)).2
                      rw [show ((F 6) (Int32.toNatClampNeg (nI (B + i + 1)))) = (nI (c (i + 1))) from (congrArg (F 6) (nI_toNat (k := B + i + 1) (by omega))).trans ((hc (i + 1) (by omega)).1)]
                      show pl _ _ _ (_, [(0, .ref q), (2, .int (nI (B + e))), (4, .int (nI w)), (5, .int (nI (B + i + 1)))], [.int (nI (c (i + 1))), .int 1024, .int 4096], M) _
                      refine pl_call (a := [.int (nI (c (i + 1)))]) (rest := [.int 1024, .int 4096]) rfl rfl rfl (dy_places (x := (c (i + 1))) (by omega)) (fun v33 M34 q35 => ?_)
                      obtain ⟨rfl, rfl⟩ := q35
                      show pl _ _ _ (133, [(0, .ref q), (2, .int (nI (B + e))), (4, .int (nI w)), (5, .int (nI (B + i + 1)))], [.int (nI (pW (c (i + 1)))), .int 1024, .int 4096], M) _
                      have hp_130 := pW_le (c (i + 1))
                      refine ps_st (S' := (134, [(0, .ref q), (2, .int (nI (B + e))), (4, .int (nI w)), (5, .int (nI (B + i + 1)))], [.int (1024 * (nI (pW (c (i + 1))))), .int 4096], M)) rfl rfl rfl ?_
                      rw [nI_mul1 (p := 1024) (k := pW (c (i + 1))) (x := 1024) (y := (nI (pW (c (i + 1))))) rfl rfl (by omega)]
                      show pl _ _ _ (_, [(0, .ref q), (2, .int (nI (B + e))), (4, .int (nI w)), (5, .int (nI (B + i + 1)))], [.int (nI (1024 * (pW (c (i + 1))))), .int 4096], M) _
                      refine ps_st (S' := (135, [(0, .ref q), (2, .int (nI (B + e))), (4, .int (nI w)), (5, .int (nI (B + i + 1)))], [.int (4096 + (nI (1024 * (pW (c (i + 1))))))], M)) rfl rfl rfl ?_
                      rw [nI_add2 (p := 4096) (k := 1024 * (pW (c (i + 1)))) (x := 4096) (y := (nI (1024 * (pW (c (i + 1)))))) rfl rfl (by omega)]
                      show pl _ _ _ (_, [(0, .ref q), (2, .int (nI (B + e))), (4, .int (nI w)), (5, .int (nI (B + i + 1)))], [.int (nI (4096 + 1024 * (pW (c (i + 1)))))], M) _
                      refine ps_st (S' := (137, [(0, .ref q), (2, .int (nI (B + e))), (4, .int (nI w)), (5, .int (nI (B + i + 1)))], [.int (nI w), .int (nI (4096 + 1024 * (pW (c (i + 1)))))], M)) rfl rfl rfl ?_
                      refine ps_st (S' := (138, [(0, .ref q), (2, .int (nI (B + e))), (4, .int (nI w)), (5, .int (nI (B + i + 1)))], [.int ((nI (4096 + 1024 * (pW (c (i + 1))))) + (nI w))], M)) rfl rfl rfl ?_
                      rw [nI_add1 (p := 4096 + 1024 * (pW (c (i + 1)))) (k := w) (x := (nI w)) rfl (by omega)]
                      show pl _ _ _ (_, [(0, .ref q), (2, .int (nI (B + e))), (4, .int (nI w)), (5, .int (nI (B + i + 1)))], [.int (nI (4096 + 1024 * (pW (c (i + 1))) + w))], M) _
                      exact ps_reti rfl ((fun (he : s_ms c e i0 = 4096 + 1024 * pW (c (i + 1)) + w) => Or.inr ⟨by omega, by rw [he], rfl⟩) (by
                          unfold s_ms
                          rw [← hs]
                          rw [s_ar_0 (by omega)]
                          dsimp only
                          rw [if_neg (by omega), if_neg (by omega), if_pos (by rw [q108_s]; congr 1; omega)]))
                    · have c_112 : ¬ ((nI (B + x32)) = (nI (B + e))) := of_decide_eq_false c_112
                      have n_112 : ¬ (B + x32 = B + e) := fun h9 => c_112 ((eq_nI (p := B + x32) (n := B + e) (by omega) (by omega)).mpr h9)
                      refine ps_st (S' := (116, [(0, .ref q), (2, .int (nI (B + e))), (4, .int (nI w)), (5, .int (nI (B + i + 1)))], [.int (-1)], M)) rfl rfl rfl ?_
                      exact ps_ret rfl rfl (Or.inl ⟨by
                          unfold s_ms
                          rw [← hs]
                          rw [s_ar_0 (by omega)]
                          dsimp only
                          rw [q108_s]
                          repeat' split
                          all_goals first | rfl | (exfalso; omega) | (exfalso; simp_all; done) | (exfalso; simp_all; omega), rfl, rfl⟩)
                · have c_86 : ¬ (¬ (nI (c (i + 1))) = 86) := of_decide_eq_false c_86
                  have n_86 : c (i + 1) = 86 := (eq_nI (p := c (i + 1)) (n := 86) (by omega) (by decide)).mp (Decidable.not_not.mp c_86)
                  refine ps_st (S' := (91, [(5, .int (nI (B + i + 1))), (0, .ref q), (2, .int (nI (B + e))), (3, .int (nI (B + i))), (4, .int (nI w))], [.int (nI (B + i + 1))], M)) rfl rfl rfl ?_
                  refine ps_st (S' := (92, [(5, .int (nI (B + i + 1))), (0, .ref q), (2, .int (nI (B + e))), (3, .int (nI (B + i))), (4, .int (nI w))], [.int 1, .int (nI (B + i + 1))], M)) rfl rfl rfl ?_
                  refine ps_st (S' := (93, [(5, .int (nI (B + i + 1))), (0, .ref q), (2, .int (nI (B + e))), (3, .int (nI (B + i))), (4, .int (nI w))], [.int ((nI (B + i + 1)) + 1)], M)) rfl rfl rfl ?_
                  rw [nI_add1 (p := B + i + 1) (k := 1) (x := 1) rfl (by omega)]
                  show pl _ _ _ (_, [(5, .int (nI (B + i + 1))), (0, .ref q), (2, .int (nI (B + e))), (3, .int (nI (B + i))), (4, .int (nI w))], [.int (nI (B + i + 2))], M) _
                  refine ps_st (S' := (94, [(5, .int (nI (B + i + 1))), (0, .ref q), (2, .int (nI (B + e))), (3, .int (nI (B + i))), (4, .int (nI w))], [.int (nI (B + e)), .int (nI (B + i + 2))], M)) rfl rfl rfl ?_
                  refine ps_if2 (S1 := (104, [(0, .ref q), (2, .int (nI (B + e))), (4, .int (nI w)), (5, .int (nI (B + i + 1)))], [], M)) (S2 := (97, [(5, .int (nI (B + i + 1))), (0, .ref q), (2, .int (nI (B + e))), (3, .int (nI (B + i))), (4, .int (nI w))], [], M)) rfl rfl rfl (fun c_94 => ?_) (fun c_94 => ?_)
                  · have c_94 : ¬ (nI (B + i + 2)) = (nI (B + e)) := of_decide_eq_true c_94
                    have n_94 : ¬ (B + i + 2 = B + e) := fun h9 => c_94 ((eq_nI (p := B + i + 2) (n := B + e) (by omega) (by omega)).mpr h9)
                    refine ps_st (S' := (105, [(0, .ref q), (2, .int (nI (B + e))), (4, .int (nI w)), (5, .int (nI (B + i + 1)))], [.ref q], M)) rfl rfl rfl ?_
                    refine ps_st (S' := (107, [(0, .ref q), (2, .int (nI (B + e))), (4, .int (nI w)), (5, .int (nI (B + i + 1)))], [.int (nI (B + i + 1)), .ref q], M)) rfl rfl rfl ?_
                    refine ps_st (S' := (108, [(0, .ref q), (2, .int (nI (B + e))), (4, .int (nI w)), (5, .int (nI (B + i + 1)))], [.int (nI (B + e)), .int (nI (B + i + 1)), .ref q], M)) rfl rfl rfl ?_
                    refine pl_call (a := [.ref q, .int (nI (B + i + 1)), .int (nI (B + e))]) (rest := []) rfl rfl rfl (dy_typeEnd (q := q) (c := c) (B := B) (e := e) (i0 := (i + 1)) (hP) (hm) (hc) (by omega)) (fun v36 M37 q38 => ?_)
                    rcases q38 with q38 | q38
                    · skip
                      obtain ⟨q108_s, rfl, rfl⟩ := q38
                      show pl _ _ _ (111, [(0, .ref q), (2, .int (nI (B + e))), (4, .int (nI w)), (5, .int (nI (B + i + 1)))], [.int (-1)], M) _
                      refine ps_st (S' := (112, [(0, .ref q), (2, .int (nI (B + e))), (4, .int (nI w)), (5, .int (nI (B + i + 1)))], [.int (nI (B + e)), .int (-1)], M)) rfl rfl rfl ?_
                      refine ps_if2 (S1 := (117, [(0, .ref q), (2, .int (nI (B + e))), (4, .int (nI w)), (5, .int (nI (B + i + 1)))], [], M)) (S2 := (115, [(0, .ref q), (2, .int (nI (B + e))), (4, .int (nI w)), (5, .int (nI (B + i + 1)))], [], M)) rfl rfl rfl (fun c_112 => ?_) (fun c_112 => ?_)
                      · exact absurd (of_decide_eq_true c_112) (m1_ne (by omega))
                      refine ps_st (S' := (116, [(0, .ref q), (2, .int (nI (B + e))), (4, .int (nI w)), (5, .int (nI (B + i + 1)))], [.int (-1)], M)) rfl rfl rfl ?_
                      exact ps_ret rfl rfl (Or.inl ⟨by
                          unfold s_ms
                          rw [← hs]
                          rw [s_ar_0 (by omega)]
                          dsimp only
                          rw [q108_s]
                          repeat' split
                          all_goals first | rfl | (exfalso; omega) | (exfalso; simp_all; done) | (exfalso; simp_all; omega), rfl, rfl⟩)
                    · skip
                      obtain ⟨x39, q108_s, rfl, rfl⟩ := q38
                      show pl _ _ _ (111, [(0, .ref q), (2, .int (nI (B + e))), (4, .int (nI w)), (5, .int (nI (B + i + 1)))], [.int (nI (B + x39))], M) _
                      have hl_108 := s_ty_le q108_s
                      refine ps_st (S' := (112, [(0, .ref q), (2, .int (nI (B + e))), (4, .int (nI w)), (5, .int (nI (B + i + 1)))], [.int (nI (B + e)), .int (nI (B + x39))], M)) rfl rfl rfl ?_
                      refine ps_if2 (S1 := (117, [(0, .ref q), (2, .int (nI (B + e))), (4, .int (nI w)), (5, .int (nI (B + i + 1)))], [], M)) (S2 := (115, [(0, .ref q), (2, .int (nI (B + e))), (4, .int (nI w)), (5, .int (nI (B + i + 1)))], [], M)) rfl rfl rfl (fun c_112 => ?_) (fun c_112 => ?_)
                      · have c_112 : (nI (B + x39)) = (nI (B + e)) := of_decide_eq_true c_112
                        have n_112 : B + x39 = B + e := (eq_nI (p := B + x39) (n := B + e) (by omega) (by omega)).mp c_112
                        refine ps_st (S' := (120, [(0, .ref q), (2, .int (nI (B + e))), (4, .int (nI w)), (5, .int (nI (B + i + 1)))], [.int 4096], M)) rfl rfl rfl ?_
                        refine ps_st (S' := (123, [(0, .ref q), (2, .int (nI (B + e))), (4, .int (nI w)), (5, .int (nI (B + i + 1)))], [.int 1024, .int 4096], M)) rfl rfl rfl ?_
                        refine ps_st (S' := (124, [(0, .ref q), (2, .int (nI (B + e))), (4, .int (nI w)), (5, .int (nI (B + i + 1)))], [.ref q, .int 1024, .int 4096], M)) rfl rfl rfl ?_
                        refine ps_get (S' := (127, [(0, .ref q), (2, .int (nI (B + e))), (4, .int (nI w)), (5, .int (nI (B + i + 1)))], [.ref (qq 6), .int 1024, .int 4096], M)) rfl h_q rfl rfl ?_
                        refine ps_st (S' := (129, [(0, .ref q), (2, .int (nI (B + e))), (4, .int (nI w)), (5, .int (nI (B + i + 1)))], [.int (nI (B + i + 1)), .ref (qq 6), .int 1024, .int 4096], M)) rfl rfl rfl ?_
                        refine ps_ald (S' := (130, [(0, .ref q), (2, .int (nI (B + e))), (4, .int (nI w)), (5, .int (nI (B + i + 1)))], [.int ((F 6) (Int32.toNatClampNeg (nI (B + i + 1)))), .int 1024, .int 4096], M)) rfl h_qq_6 rfl (fun i0_129 i1_129 => ?_)
                        have hb_129 := (hc (i + 1) (by omega)).2
                        rw [show ((F 6) (Int32.toNatClampNeg (nI (B + i + 1)))) = (nI (c (i + 1))) from (congrArg (F 6) (nI_toNat (k := B + i + 1) (by omega))).trans ((hc (i + 1) (by omega)).1)]
                        show pl _ _ _ (_, [(0, .ref q), (2, .int (nI (B + e))), (4, .int (nI w)), (5, .int (nI (B + i + 1)))], [.int (nI (c (i + 1))), .int 1024, .int 4096], M) _
                        refine pl_call (a := [.int (nI (c (i + 1)))]) (rest := [.int 1024, .int 4096]) rfl rfl rfl (dy_places (x := (c (i + 1))) (by omega)) (fun v40 M41 q42 => ?_)
                        obtain ⟨rfl, rfl⟩ := q42
                        show pl _ _ _ (133, [(0, .ref q), (2, .int (nI (B + e))), (4, .int (nI w)), (5, .int (nI (B + i + 1)))], [.int (nI (pW (c (i + 1)))), .int 1024, .int 4096], M) _
                        have hp_130 := pW_le (c (i + 1))
                        refine ps_st (S' := (134, [(0, .ref q), (2, .int (nI (B + e))), (4, .int (nI w)), (5, .int (nI (B + i + 1)))], [.int (1024 * (nI (pW (c (i + 1))))), .int 4096], M)) rfl rfl rfl ?_
                        rw [nI_mul1 (p := 1024) (k := pW (c (i + 1))) (x := 1024) (y := (nI (pW (c (i + 1))))) rfl rfl (by omega)]
                        show pl _ _ _ (_, [(0, .ref q), (2, .int (nI (B + e))), (4, .int (nI w)), (5, .int (nI (B + i + 1)))], [.int (nI (1024 * (pW (c (i + 1))))), .int 4096], M) _
                        refine ps_st (S' := (135, [(0, .ref q), (2, .int (nI (B + e))), (4, .int (nI w)), (5, .int (nI (B + i + 1)))], [.int (4096 + (nI (1024 * (pW (c (i + 1))))))], M)) rfl rfl rfl ?_
                        rw [nI_add2 (p := 4096) (k := 1024 * (pW (c (i + 1)))) (x := 4096) (y := (nI (1024 * (pW (c (i + 1)))))) rfl rfl (by omega)]
                        show pl _ _ _ (_, [(0, .ref q), (2, .int (nI (B + e))), (4, .int (nI w)), (5, .int (nI (B + i + 1)))], [.int (nI (4096 + 1024 * (pW (c (i + 1)))))], M) _
                        refine ps_st (S' := (137, [(0, .ref q), (2, .int (nI (B + e))), (4, .int (nI w)), (5, .int (nI (B + i + 1)))], [.int (nI w), .int (nI (4096 + 1024 * (pW (c (i + 1)))))], M)) rfl rfl rfl ?_
                        refine ps_st (S' := (138, [(0, .ref q), (2, .int (nI (B + e))), (4, .int (nI w)), (5, .int (nI (B + i + 1)))], [.int ((nI (4096 + 1024 * (pW (c (i + 1))))) + (nI w))], M)) rfl rfl rfl ?_
                        rw [nI_add1 (p := 4096 + 1024 * (pW (c (i + 1)))) (k := w) (x := (nI w)) rfl (by omega)]
                        show pl _ _ _ (_, [(0, .ref q), (2, .int (nI (B + e))), (4, .int (nI w)), (5, .int (nI (B + i + 1)))], [.int (nI (4096 + 1024 * (pW (c (i + 1))) + w))], M) _
                        exact ps_reti rfl ((fun (he : s_ms c e i0 = 4096 + 1024 * pW (c (i + 1)) + w) => Or.inr ⟨by omega, by rw [he], rfl⟩) (by
                            unfold s_ms
                            rw [← hs]
                            rw [s_ar_0 (by omega)]
                            dsimp only
                            rw [if_neg (by omega), if_neg (by omega), if_pos (by rw [q108_s]; congr 1; omega)]))
                      · have c_112 : ¬ ((nI (B + x39)) = (nI (B + e))) := of_decide_eq_false c_112
                        have n_112 : ¬ (B + x39 = B + e) := fun h9 => c_112 ((eq_nI (p := B + x39) (n := B + e) (by omega) (by omega)).mpr h9)
                        refine ps_st (S' := (116, [(0, .ref q), (2, .int (nI (B + e))), (4, .int (nI w)), (5, .int (nI (B + i + 1)))], [.int (-1)], M)) rfl rfl rfl ?_
                        exact ps_ret rfl rfl (Or.inl ⟨by
                            unfold s_ms
                            rw [← hs]
                            rw [s_ar_0 (by omega)]
                            dsimp only
                            rw [q108_s]
                            repeat' split
                            all_goals first | rfl | (exfalso; omega) | (exfalso; simp_all; done) | (exfalso; simp_all; omega), rfl, rfl⟩)
                  · have c_94 : ¬ (¬ (nI (B + i + 2)) = (nI (B + e))) := of_decide_eq_false c_94
                    have n_94 : B + i + 2 = B + e := (eq_nI (p := B + i + 2) (n := B + e) (by omega) (by omega)).mp (Decidable.not_not.mp c_94)
                    refine ps_st (S' := (100, [(5, .int (nI (B + i + 1))), (0, .ref q), (2, .int (nI (B + e))), (3, .int (nI (B + i))), (4, .int (nI w))], [.int 4096], M)) rfl rfl rfl ?_
                    refine ps_st (S' := (102, [(5, .int (nI (B + i + 1))), (0, .ref q), (2, .int (nI (B + e))), (3, .int (nI (B + i))), (4, .int (nI w))], [.int (nI w), .int 4096], M)) rfl rfl rfl ?_
                    refine ps_st (S' := (103, [(5, .int (nI (B + i + 1))), (0, .ref q), (2, .int (nI (B + e))), (3, .int (nI (B + i))), (4, .int (nI w))], [.int (4096 + (nI w))], M)) rfl rfl rfl ?_
                    rw [nI_add2 (p := 4096) (k := w) (x := 4096) (y := (nI w)) rfl rfl (by omega)]
                    show pl _ _ _ (_, [(5, .int (nI (B + i + 1))), (0, .ref q), (2, .int (nI (B + e))), (3, .int (nI (B + i))), (4, .int (nI w))], [.int (nI (4096 + w))], M) _
                    exact ps_reti rfl ((fun (he : s_ms c e i0 = 4096 + w) => Or.inr ⟨by omega, by rw [he], rfl⟩) (by
                        unfold s_ms
                        rw [← hs]
                        rw [s_ar_0 (by omega)]
                        dsimp only
                        rw [if_neg (by omega), if_pos (by omega)]))
              · have c_72 : ¬ ((nI w) ≤ 255) := of_decide_eq_false c_72
                have n_72 : ¬ (w ≤ 255) := fun h9 => c_72 ((le_nI (p := w) (n := 255) (by omega) (by decide)).mpr h9)
                refine ps_st (S' := (76, [], [.int (-1)], M)) rfl rfl rfl ?_
                exact ps_ret rfl rfl (Or.inl ⟨by
                    unfold s_ms
                    rw [← hs]
                    rw [s_ar_0 (by omega)]
                    dsimp only
                    repeat' split
                    all_goals first | rfl | (exfalso; omega) | (exfalso; simp_all; done) | (exfalso; simp_all; omega), rfl, rfl⟩)
          · have c_26 : ¬ ((nI (c i)) = 41) := of_decide_eq_false c_26
            have n_26 : ¬ (c i = 41) := fun h9 => c_26 ((eq_nI (p := c i) (n := 41) (by omega) (by decide)).mpr h9)
            refine ps_st (S' := (31, [(0, .ref q), (2, .int (nI (B + e))), (3, .int (nI (B + i))), (4, .int (nI w))], [.int (nI w)], M)) rfl rfl rfl ?_
            refine ps_st (S' := (32, [(0, .ref q), (2, .int (nI (B + e))), (3, .int (nI (B + i))), (4, .int (nI w))], [.ref q, .int (nI w)], M)) rfl rfl rfl ?_
            refine ps_get (S' := (35, [(0, .ref q), (2, .int (nI (B + e))), (3, .int (nI (B + i))), (4, .int (nI w))], [.ref (qq 6), .int (nI w)], M)) rfl h_q rfl rfl ?_
            refine ps_st (S' := (36, [(0, .ref q), (2, .int (nI (B + e))), (3, .int (nI (B + i))), (4, .int (nI w))], [.int (nI (B + i)), .ref (qq 6), .int (nI w)], M)) rfl rfl rfl ?_
            refine ps_ald (S' := (37, [(0, .ref q), (2, .int (nI (B + e))), (3, .int (nI (B + i))), (4, .int (nI w))], [.int ((F 6) (Int32.toNatClampNeg (nI (B + i)))), .int (nI w)], M)) rfl h_qq_6 rfl (fun i0_36 i1_36 => ?_)
            have hb_36 := (hc (i) (by omega)).2
            rw [show ((F 6) (Int32.toNatClampNeg (nI (B + i)))) = (nI (c i)) from (congrArg (F 6) (nI_toNat (k := B + i) (by omega))).trans ((hc (i) (by omega)).1)]
            show pl _ _ _ (_, [(0, .ref q), (2, .int (nI (B + e))), (3, .int (nI (B + i))), (4, .int (nI w))], [.int (nI (c i)), .int (nI w)], M) _
            refine pl_call (a := [.int (nI (c i))]) (rest := [.int (nI w)]) rfl rfl rfl (dy_places (x := (c i)) (by omega)) (fun v43 M44 q45 => ?_)
            obtain ⟨rfl, rfl⟩ := q45
            show pl _ _ _ (40, [(0, .ref q), (2, .int (nI (B + e))), (3, .int (nI (B + i))), (4, .int (nI w))], [.int (nI (pW (c i))), .int (nI w)], M) _
            have hp_37 := pW_le (c i)
            refine ps_st (S' := (41, [(0, .ref q), (2, .int (nI (B + e))), (3, .int (nI (B + i))), (4, .int (nI w))], [.int ((nI w) + (nI (pW (c i))))], M)) rfl rfl rfl ?_
            rw [nI_add1 (p := w) (k := pW (c i)) (x := (nI (pW (c i)))) rfl (by omega)]
            show pl _ _ _ (_, [(0, .ref q), (2, .int (nI (B + e))), (3, .int (nI (B + i))), (4, .int (nI w))], [.int (nI (w + pW (c i)))], M) _
            refine ps_st (S' := (43, [(4, .int (nI (w + pW (c i)))), (0, .ref q), (2, .int (nI (B + e))), (3, .int (nI (B + i)))], [], M)) rfl rfl rfl ?_
            refine ps_st (S' := (44, [(4, .int (nI (w + pW (c i)))), (0, .ref q), (2, .int (nI (B + e))), (3, .int (nI (B + i)))], [.ref q], M)) rfl rfl rfl ?_
            refine ps_st (S' := (45, [(4, .int (nI (w + pW (c i)))), (0, .ref q), (2, .int (nI (B + e))), (3, .int (nI (B + i)))], [.int (nI (B + i)), .ref q], M)) rfl rfl rfl ?_
            refine ps_st (S' := (46, [(4, .int (nI (w + pW (c i)))), (0, .ref q), (2, .int (nI (B + e))), (3, .int (nI (B + i)))], [.int (nI (B + e)), .int (nI (B + i)), .ref q], M)) rfl rfl rfl ?_
            refine pl_call (a := [.ref q, .int (nI (B + i)), .int (nI (B + e))]) (rest := []) rfl rfl rfl (dy_typeEnd (q := q) (c := c) (B := B) (e := e) (i0 := i) (hP) (hm) (hc) (by omega)) (fun v46 M47 q48 => ?_)
            rcases q48 with q48 | q48
            · skip
              obtain ⟨q46_s, rfl, rfl⟩ := q48
              show pl _ _ _ (49, [(4, .int (nI (w + pW (c i)))), (0, .ref q), (2, .int (nI (B + e))), (3, .int (nI (B + i)))], [.int (-1)], M) _
              refine ps_st (S' := (50, [(3, .int (-1)), (4, .int (nI (w + pW (c i)))), (0, .ref q), (2, .int (nI (B + e)))], [], M)) rfl rfl rfl ?_
              refine ps_st (S' := (51, [(3, .int (-1)), (4, .int (nI (w + pW (c i)))), (0, .ref q), (2, .int (nI (B + e)))], [.int (-1)], M)) rfl rfl rfl ?_
              refine ps_if (S1 := (5, [(0, .ref q), (2, .int (nI (B + e))), (3, .int (-1)), (4, .int (nI (w + pW (c i))))], [], M)) (S2 := (54, [(3, .int (-1)), (4, .int (nI (w + pW (c i)))), (0, .ref q), (2, .int (nI (B + e)))], [], M)) rfl rfl rfl (fun c_51 => ?_) (fun c_51 => ?_)
              · exact absurd (of_decide_eq_true c_51) (by decide)
              refine ps_st (S' := (55, [(3, .int (-1)), (4, .int (nI (w + pW (c i)))), (0, .ref q), (2, .int (nI (B + e)))], [.int (-1)], M)) rfl rfl rfl ?_
              exact ps_ret rfl rfl (Or.inl ⟨by
                  unfold s_ms
                  rw [← hs]
                  rw [s_ar_bad (by omega) q46_s], rfl, rfl⟩)
            · skip
              obtain ⟨x49, q46_s, rfl, rfl⟩ := q48
              show pl _ _ _ (49, [(4, .int (nI (w + pW (c i)))), (0, .ref q), (2, .int (nI (B + e))), (3, .int (nI (B + i)))], [.int (nI (B + x49))], M) _
              have hl_46 := s_ty_le q46_s
              refine ps_st (S' := (50, [(3, .int (nI (B + x49))), (4, .int (nI (w + pW (c i)))), (0, .ref q), (2, .int (nI (B + e)))], [], M)) rfl rfl rfl ?_
              refine ps_st (S' := (51, [(3, .int (nI (B + x49))), (4, .int (nI (w + pW (c i)))), (0, .ref q), (2, .int (nI (B + e)))], [.int (nI (B + x49))], M)) rfl rfl rfl ?_
              refine ps_if (S1 := (5, [(0, .ref q), (2, .int (nI (B + e))), (3, .int (nI (B + x49))), (4, .int (nI (w + pW (c i))))], [], M)) (S2 := (54, [(3, .int (nI (B + x49))), (4, .int (nI (w + pW (c i)))), (0, .ref q), (2, .int (nI (B + e)))], [], M)) rfl rfl rfl (fun c_51 => ?_) (fun c_51 => ?_)
              rotate_left
              · exact absurd (Int32.not_lt.mp (nI_n0 (by omega))) (of_decide_eq_false c_51)
              exact ih (x49) (w + pW (c i))  (by have := s_ty_le q46_s; omega) (by unfold pW; split <;> omega) (by rw [← hs]; exact (s_ar_step (by omega) q46_s).symm)
  refine ps_st (S' := (1, [(0, .ref q), (1, .int (nI (B + i0))), (2, .int (nI (B + e)))], [.int (nI (B + i0))], M)) rfl rfl rfl ?_
  refine ps_st (S' := (2, [(3, .int (nI (B + i0))), (0, .ref q), (1, .int (nI (B + i0))), (2, .int (nI (B + e)))], [], M)) rfl rfl rfl ?_
  refine ps_st (S' := (3, [(3, .int (nI (B + i0))), (0, .ref q), (1, .int (nI (B + i0))), (2, .int (nI (B + e)))], [.int 0], M)) rfl rfl rfl ?_
  refine ps_st (S' := (5, [(0, .ref q), (2, .int (nI (B + e))), (3, .int (nI (B + i0))), (4, .int 0)], [], M)) rfl rfl rfl ?_
  exact (LL kf) (i0) (0)  (by omega) (by omega) (rfl)
set_option maxHeartbeats 1000000 in
theorem dy_shapeOf {g : xe_G} {M : mi_H} {q H m : Nat} {qq : Nat → Nat} {F : Nat → Nat → Int32} {sz cc : Int32} {c : Nat → Nat} {B e : Nat}  (hP : PL M q sz H m qq F cc) (hm : B + e ≤ m ∧ m ≤ 65540) (hc : ∀ i, i < e → F 6 (B + i) = nI (c i) ∧ c i < 65536) : pt (mT g) 137 [.ref q, .int (nI B), .int (nI (B + e))] M (fun v M' => (v = some (.int (shI (s_sh c e))) ∧ M = M')) := by
  refine pt_in (b := mb_137 g) rfl (fun kf => ?_)
  show pl (mT g) kf (mb_137 g).2 (0, [(0, .ref q), (1, .int (nI B)), (2, .int (nI (B + e)))], [], M) _
  have h_q := hP.1
  have h_qq_1 := hP.2.1 1 (by decide) (by decide)
  have h_qq_2 := hP.2.1 2 (by decide) (by decide)
  have h_qq_3 := hP.2.1 3 (by decide) (by decide)
  have h_qq_4 := hP.2.1 4 (by decide) (by decide)
  have h_qq_5 := hP.2.1 5 (by decide) (by decide)
  have h_qq_6 := hP.2.2
  have hc0 : ∀ (h : 0 < e), F 6 B = nI (c 0) ∧ c 0 < 65536 := fun h => hc 0 h
  refine ps_st (S' := (1, [(0, .ref q), (1, .int (nI B)), (2, .int (nI (B + e)))], [.int (nI B)], M)) rfl rfl rfl ?_
  refine ps_st (S' := (2, [(0, .ref q), (1, .int (nI B)), (2, .int (nI (B + e)))], [.int (nI (B + e)), .int (nI B)], M)) rfl rfl rfl ?_
  refine ps_if2 (S1 := (7, [(0, .ref q), (1, .int (nI B)), (2, .int (nI (B + e)))], [], M)) (S2 := (5, [(0, .ref q), (1, .int (nI B)), (2, .int (nI (B + e)))], [], M)) rfl rfl rfl (fun c_2 => ?_) (fun c_2 => ?_)
  · have c_2 : (nI B) < (nI (B + e)) := of_decide_eq_true c_2
    have n_2 : B < B + e := (lt_nI (p := B) (n := B + e) (by omega) (by omega)).mp c_2
    refine ps_st (S' := (8, [(0, .ref q), (1, .int (nI B)), (2, .int (nI (B + e)))], [.ref q], M)) rfl rfl rfl ?_
    refine ps_get (S' := (11, [(0, .ref q), (1, .int (nI B)), (2, .int (nI (B + e)))], [.ref (qq 6)], M)) rfl h_q rfl rfl ?_
    refine ps_st (S' := (12, [(0, .ref q), (1, .int (nI B)), (2, .int (nI (B + e)))], [.int (nI B), .ref (qq 6)], M)) rfl rfl rfl ?_
    refine ps_ald (S' := (13, [(0, .ref q), (1, .int (nI B)), (2, .int (nI (B + e)))], [.int ((F 6) (Int32.toNatClampNeg (nI B)))], M)) rfl h_qq_6 rfl (fun i0_12 i1_12 => ?_)
    have hb_12 := (hc (0) (by omega)).2
    rw [show ((F 6) (Int32.toNatClampNeg (nI B))) = (nI (c 0)) from (congrArg (F 6) (nI_toNat (k := B) (by omega))).trans ((hc (0) (by omega)).1)]
    show pl _ _ _ (_, [(0, .ref q), (1, .int (nI B)), (2, .int (nI (B + e)))], [.int (nI (c 0))], M) _
    refine ps_st (S' := (15, [(0, .ref q), (1, .int (nI B)), (2, .int (nI (B + e)))], [.int 40, .int (nI (c 0))], M)) rfl rfl rfl ?_
    refine ps_if2 (S1 := (27, [(0, .ref q), (1, .int (nI B)), (2, .int (nI (B + e)))], [], M)) (S2 := (18, [(0, .ref q), (1, .int (nI B)), (2, .int (nI (B + e)))], [], M)) rfl rfl rfl (fun c_15 => ?_) (fun c_15 => ?_)
    · have c_15 : ¬ (nI (c 0)) = 40 := of_decide_eq_true c_15
      have n_15 : ¬ (c 0 = 40) := fun h9 => c_15 ((eq_nI (p := c 0) (n := 40) (by omega) (by decide)).mpr h9)
      refine ps_st (S' := (28, [(0, .ref q), (1, .int (nI B)), (2, .int (nI (B + e)))], [.ref q], M)) rfl rfl rfl ?_
      refine ps_st (S' := (29, [(0, .ref q), (1, .int (nI B)), (2, .int (nI (B + e)))], [.int (nI B), .ref q], M)) rfl rfl rfl ?_
      refine ps_st (S' := (30, [(0, .ref q), (1, .int (nI B)), (2, .int (nI (B + e)))], [.int (nI (B + e)), .int (nI B), .ref q], M)) rfl rfl rfl ?_
      refine pl_call (a := [.ref q, .int (nI B), .int (nI (B + e))]) (rest := []) rfl rfl rfl (dy_typeEnd (q := q) (c := c) (B := B) (e := e) (i0 := 0) (hP) (hm) (hc) (by omega)) (fun v1 M2 q3 => ?_)
      rcases q3 with q3 | q3
      · skip
        obtain ⟨q30_s, rfl, rfl⟩ := q3
        show pl _ _ _ (33, [(0, .ref q), (1, .int (nI B)), (2, .int (nI (B + e)))], [.int (-1)], M) _
        refine ps_st (S' := (34, [(0, .ref q), (1, .int (nI B)), (2, .int (nI (B + e)))], [.int (nI (B + e)), .int (-1)], M)) rfl rfl rfl ?_
        refine ps_if2 (S1 := (49, [(0, .ref q), (1, .int (nI B)), (2, .int (nI (B + e)))], [], M)) (S2 := (37, [(0, .ref q), (1, .int (nI B)), (2, .int (nI (B + e)))], [], M)) rfl rfl rfl (fun c_34 => ?_) (fun c_34 => ?_)
        rotate_left
        · exact absurd (m1_ne (by omega)) (of_decide_eq_false c_34)
        refine ps_st (S' := (50, [], [.int (-1)], M)) rfl rfl rfl ?_
        exact ps_ret rfl rfl (⟨by rw [show s_sh c e = 0 by unfold s_sh; rw [if_neg (by omega), if_neg (by omega), if_neg (by rw [q30_s]; exact fun h => by cases h)]]; rfl, rfl⟩)
      · skip
        obtain ⟨x4, q30_s, rfl, rfl⟩ := q3
        show pl _ _ _ (33, [(0, .ref q), (1, .int (nI B)), (2, .int (nI (B + e)))], [.int (nI (B + x4))], M) _
        have hl_30 := s_ty_le q30_s
        refine ps_st (S' := (34, [(0, .ref q), (1, .int (nI B)), (2, .int (nI (B + e)))], [.int (nI (B + e)), .int (nI (B + x4))], M)) rfl rfl rfl ?_
        refine ps_if2 (S1 := (49, [(0, .ref q), (1, .int (nI B)), (2, .int (nI (B + e)))], [], M)) (S2 := (37, [(0, .ref q), (1, .int (nI B)), (2, .int (nI (B + e)))], [], M)) rfl rfl rfl (fun c_34 => ?_) (fun c_34 => ?_)
        · have c_34 : ¬ (nI (B + x4)) = (nI (B + e)) := of_decide_eq_true c_34
          have n_34 : ¬ (B + x4 = B + e) := fun h9 => c_34 ((eq_nI (p := B + x4) (n := B + e) (by omega) (by omega)).mpr h9)
          refine ps_st (S' := (50, [], [.int (-1)], M)) rfl rfl rfl ?_
          exact ps_ret rfl rfl (⟨by rw [show s_sh c e = 0 by unfold s_sh; rw [if_neg (by omega), if_neg (by omega), if_neg (by rw [q30_s]; exact fun h => by cases h; omega)]]; rfl, rfl⟩)
        · have c_34 : ¬ (¬ (nI (B + x4)) = (nI (B + e))) := of_decide_eq_false c_34
          have n_34 : B + x4 = B + e := (eq_nI (p := B + x4) (n := B + e) (by omega) (by omega)).mp (Decidable.not_not.mp c_34)
          refine ps_st (S' := (38, [(0, .ref q), (1, .int (nI B)), (2, .int (nI (B + e)))], [.ref q], M)) rfl rfl rfl ?_
          refine ps_get (S' := (41, [(0, .ref q), (1, .int (nI B)), (2, .int (nI (B + e)))], [.ref (qq 6)], M)) rfl h_q rfl rfl ?_
          refine ps_st (S' := (42, [(0, .ref q), (1, .int (nI B)), (2, .int (nI (B + e)))], [.int (nI B), .ref (qq 6)], M)) rfl rfl rfl ?_
          refine ps_ald (S' := (43, [(0, .ref q), (1, .int (nI B)), (2, .int (nI (B + e)))], [.int ((F 6) (Int32.toNatClampNeg (nI B)))], M)) rfl h_qq_6 rfl (fun i0_42 i1_42 => ?_)
          have hb_42 := (hc (0) (by omega)).2
          rw [show ((F 6) (Int32.toNatClampNeg (nI B))) = (nI (c 0)) from (congrArg (F 6) (nI_toNat (k := B) (by omega))).trans ((hc (0) (by omega)).1)]
          show pl _ _ _ (_, [(0, .ref q), (1, .int (nI B)), (2, .int (nI (B + e)))], [.int (nI (c 0))], M) _
          refine pl_call (a := [.int (nI (c 0))]) (rest := []) rfl rfl rfl (dy_places (x := (c 0)) (by omega)) (fun v5 M6 q7 => ?_)
          obtain ⟨rfl, rfl⟩ := q7
          show pl _ _ _ (46, [(0, .ref q), (1, .int (nI B)), (2, .int (nI (B + e)))], [.int (nI (pW (c 0)))], M) _
          have hp_43 := pW_le (c 0)
          refine ps_st (S' := (50, [], [.int (nI (pW (c 0)))], M)) rfl rfl rfl ?_
          exact ps_reti rfl (⟨by rw [show s_sh c e = pW (c 0) by unfold s_sh; rw [if_neg (by omega), if_neg (by omega), if_pos (by rw [q30_s]; congr 1; omega)]]; unfold shI; rw [if_neg (by unfold pW; split <;> omega)], rfl⟩)
    · have c_15 : ¬ (¬ (nI (c 0)) = 40) := of_decide_eq_false c_15
      have n_15 : c 0 = 40 := (eq_nI (p := c 0) (n := 40) (by omega) (by decide)).mp (Decidable.not_not.mp c_15)
      refine ps_st (S' := (19, [(0, .ref q), (1, .int (nI B)), (2, .int (nI (B + e)))], [.ref q], M)) rfl rfl rfl ?_
      refine ps_st (S' := (20, [(0, .ref q), (1, .int (nI B)), (2, .int (nI (B + e)))], [.int (nI B), .ref q], M)) rfl rfl rfl ?_
      refine ps_st (S' := (21, [(0, .ref q), (1, .int (nI B)), (2, .int (nI (B + e)))], [.int 1, .int (nI B), .ref q], M)) rfl rfl rfl ?_
      refine ps_st (S' := (22, [(0, .ref q), (1, .int (nI B)), (2, .int (nI (B + e)))], [.int ((nI B) + 1), .ref q], M)) rfl rfl rfl ?_
      rw [nI_add1 (p := B) (k := 1) (x := 1) rfl (by omega)]
      show pl _ _ _ (_, [(0, .ref q), (1, .int (nI B)), (2, .int (nI (B + e)))], [.int (nI (B + 1)), .ref q], M) _
      refine ps_st (S' := (23, [(0, .ref q), (1, .int (nI B)), (2, .int (nI (B + e)))], [.int (nI (B + e)), .int (nI (B + 1)), .ref q], M)) rfl rfl rfl ?_
      refine pl_call (a := [.ref q, .int (nI (B + 1)), .int (nI (B + e))]) (rest := []) rfl rfl rfl (dy_methodShape (q := q) (c := c) (B := B) (e := e) (i0 := 1) (hP) (hm) (hc) (by omega)) (fun v8 M9 q10 => ?_)
      rcases q10 with q10 | q10
      · skip
        obtain ⟨q23_s, rfl, rfl⟩ := q10
        show pl _ _ _ (26, [(0, .ref q), (1, .int (nI B)), (2, .int (nI (B + e)))], [.int (-1)], M) _
        exact ps_ret rfl rfl (⟨by rw [show s_sh c e = s_ms c e 1 by unfold s_sh; rw [if_neg (by omega), if_pos (by omega)]]; unfold shI; rw [if_pos q23_s], rfl⟩)
      · skip
        obtain ⟨q23_s, rfl, rfl⟩ := q10
        show pl _ _ _ (26, [(0, .ref q), (1, .int (nI B)), (2, .int (nI (B + e)))], [.int (nI (s_ms c e 1))], M) _
        exact ps_reti rfl (⟨by rw [show s_sh c e = s_ms c e 1 by unfold s_sh; rw [if_neg (by omega), if_pos (by omega)]]; unfold shI; rw [if_neg q23_s], rfl⟩)
  · have c_2 : ¬ ((nI B) < (nI (B + e))) := of_decide_eq_false c_2
    have n_2 : ¬ (B < B + e) := fun h9 => c_2 ((lt_nI (p := B) (n := B + e) (by omega) (by omega)).mpr h9)
    refine ps_st (S' := (6, [(0, .ref q), (1, .int (nI B)), (2, .int (nI (B + e)))], [.int (-1)], M)) rfl rfl rfl ?_
    exact ps_ret rfl rfl (⟨by rw [show s_sh c e = 0 by unfold s_sh; rw [if_pos (by omega)]]; rfl, rfl⟩)
