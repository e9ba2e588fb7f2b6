
theorem n64_val (lo hi : Nat) : ((Int32.toInt64 (nI hi)) - (Int32.toInt64 (nI lo)) + 1).toInt = nuI lo hi := by
  have h1 := i32_bd (nI hi)
  have h2 := i32_bd (nI lo)
  have e1 := i2l_val (nI hi)
  have e2 := i2l_val (nI lo)
  unfold nuI
  rw [Int64.toInt_add, Int64.toInt_sub, e1, e2, show (1 : Int64).toInt = 1 from rfl]
  rw [Int.bmod_eq_of_le (n := (nI hi).toInt - (nI lo).toInt) (by omega) (by omega)]
  exact Int.bmod_eq_of_le (by omega) (by omega)
theorem m64_val {x : Int64} {y : Int} (h : x.toInt = y) (hb : -8589934592 ≤ y ∧ y ≤ 8589934592) : (x * 4).toInt = 4 * y := by
  rw [Int64.toInt_mul, h, show (4 : Int64).toInt = 4 from rfl, Int.bmod_eq_of_le (by omega) (by omega)]
  omega
theorem nuI_bd (lo hi : Nat) : -8589934592 ≤ nuI lo hi ∧ nuI lo hi ≤ 8589934592 := by
  have h1 := i32_bd (nI hi)
  have h2 := i32_bd (nI lo)
  unfold nuI
  omega
theorem le_nI31 {p n : Nat} (hp : p < 2147483648) (hn : n < 2147483648) : nI p ≤ nI n ↔ p ≤ n := by
  rw [Int32.le_iff_toInt_le, nI_val31 hp, nI_val31 hn]
  omega
theorem i2l_nI {k : Nat} (h : k < 1073741824) : (Int32.toInt64 (nI k)).toInt = k := by
  rw [i2l_val, nI_val h]
set_option maxHeartbeats 1000000 in
theorem dk_isTableTaken {g : xe_G} {M : mi_H} {f : Nat → Int32} {n on b da cb L : Nat} {y10 : Int32} {pc : Nat} (h_on : M.1 on = some (ob 5 [.ref b, .int (nI cb), .int (nI L), .int 170, .int 1, .int 0, .int 0, .int 0, .int 0, .int (nI pc), .int y10, .int (nI (pdN pc))])) (h_b : M.1 b = some (ob 1 [.ref da])) (h_da : M.1 da = some (ar .byte n f)) (hn : n ≤ 65540) (hcl : cb + L + 4 ≤ n) (hpl : pc < L) : pt (mT g) 97 [.ref on] M (fun v M' => (∃ (x : Nat × Int32 × Int32 × Nat), (tbS f cb L pc = some x) ∧ (x.2.2.2 < 131072 ∧ x.1 < 131072) ∧ v = some (.int 1) ∧ M'.1 on = some (ob 5 [.ref b, .int (nI cb), .int (nI L), .int 170, .int (nI x.1), .int x.2.1, .int x.2.2.1, .int 0, .int (nI x.2.2.2), .int (nI pc), .int y10, .int (nI (pdN pc))]) ∧ fm [on] M M') ∨ (∃ (z4 z5 z6 z8 : Int32), (tbS f cb L pc = none) ∧ v = some (.int 0) ∧ M'.1 on = some (ob 5 [.ref b, .int (nI cb), .int (nI L), .int 170, .int z4, .int z5, .int z6, .int 0, .int z8, .int (nI pc), .int y10, .int (nI (pdN pc))]) ∧ fm [on] M M')) := by
  refine pt_in (b := mb_97 g) rfl (fun kf => ?_)
  show pl (mT g) kf (mb_97 g).2 (0, [(0, .ref on)], [], M) _
  have hF : fm [on] M M := fm.rf
  have hpd := pd_le pc
  refine ps_st (S' := (1, [(0, .ref on)], [.ref on], M)) rfl rfl rfl ?_
  refine ps_get (S' := (4, [(0, .ref on)], [.int (nI L)], M)) rfl h_on rfl rfl ?_
  refine ps_st (S' := (5, [(0, .ref on)], [.ref on, .int (nI L)], M)) rfl rfl rfl ?_
  refine ps_get (S' := (8, [(0, .ref on)], [.int (nI (pdN pc)), .int (nI L)], M)) rfl h_on rfl rfl ?_
  refine ps_st (S' := (9, [(0, .ref on)], [.int ((nI L) - (nI (pdN pc)))], M)) rfl rfl rfl ?_
  refine ps_st (S' := (11, [(0, .ref on)], [.int 12, .int ((nI L) - (nI (pdN pc)))], M)) rfl rfl rfl ?_
  refine ps_if2 (S1 := (16, [(0, .ref on)], [], M)) (S2 := (14, [(0, .ref on)], [], M)) rfl rfl rfl (fun c_11 => ?_) (fun c_11 => ?_)
  · have c_11 : 12 ≤ ((nI L) - (nI (pdN pc))) := of_decide_eq_true c_11
    have n_11 : 12 + (pdN pc) ≤ L := (le_sub1 (e := L) (p := pdN pc) (k := 12) (by omega) (by omega) (by omega)).mp c_11
    refine ps_st (S' := (17, [(0, .ref on)], [.ref on], M)) rfl rfl rfl ?_
    refine ps_st (S' := (18, [(0, .ref on)], [.ref on, .ref on], M)) rfl rfl rfl ?_
    refine ps_st (S' := (19, [(0, .ref on)], [.ref on, .ref on, .ref on], M)) rfl rfl rfl ?_
    refine ps_get (S' := (22, [(0, .ref on)], [.int (nI (pdN pc)), .ref on, .ref on], M)) rfl h_on rfl rfl ?_
    refine ps_st (S' := (23, [(0, .ref on)], [.int 4, .int (nI (pdN pc)), .ref on, .ref on], M)) rfl rfl rfl ?_
    refine ps_st (S' := (24, [(0, .ref on)], [.int ((nI (pdN pc)) + 4), .ref on, .ref on], M)) rfl rfl rfl ?_
    rw [nI_add1 (p := pdN pc) (k := 4) (x := 4) rfl (by omega)]
    show pl _ _ _ (_, [(0, .ref on)], [.int (nI (pdN pc + 4)), .ref on, .ref on], M) _
    refine pl_call (a := [.ref on, .int (nI (pdN pc + 4))]) (rest := [.ref on]) rfl rfl rfl (dk_is4 (f := f) (n := n) (on := on) (b := b) (da := da) (cb := cb) (L := L) (y3 := 170) (y4 := 1) (y5 := 0) (y6 := 0) (y7 := 0) (y8 := 0) (y9 := (nI pc)) (y10 := y10) (y11 := (nI (pdN pc))) (a := (pdN pc + 4)) h_on h_b h_da (hn) (by omega)) (fun v1 M2 q3 => ?_)
    obtain ⟨rfl, rfl⟩ := q3
    show pl _ _ _ (27, [(0, .ref on)], [.int (nI (by4 f (cb + (pdN pc + 4)))), .ref on], M) _
    have hb_24 := by4_lt f (cb + (pdN pc + 4))
    refine ps_put (l' := [.ref b, .int (nI cb), .int (nI L), .int 170, .int 1, .int (nI (by4 f (cb + (pdN pc + 4)))), .int 0, .int 0, .int 0, .int (nI pc), .int y10, .int (nI (pdN pc))]) rfl h_on rfl rfl (fun M4 h5 f6 z7 => ?_)
    have h8 := (f6 b (ob_ne h_b h_on (by decide))).trans h_b
    have h9 := (f6 da (Ne.symm (ob_ar h_on h_da))).trans h_da
    have hF10 := hF.up (by simp) f6 z7
    show pl _ _ _ (30, [(0, .ref on)], [], M4) _
    refine ps_st (S' := (31, [(0, .ref on)], [.ref on], M4)) rfl rfl rfl ?_
    refine ps_st (S' := (32, [(0, .ref on)], [.ref on, .ref on], M4)) rfl rfl rfl ?_
    refine ps_st (S' := (33, [(0, .ref on)], [.ref on, .ref on, .ref on], M4)) rfl rfl rfl ?_
    refine ps_get (S' := (36, [(0, .ref on)], [.int (nI (pdN pc)), .ref on, .ref on], M4)) rfl h5 rfl rfl ?_
    refine ps_st (S' := (38, [(0, .ref on)], [.int 8, .int (nI (pdN pc)), .ref on, .ref on], M4)) rfl rfl rfl ?_
    refine ps_st (S' := (39, [(0, .ref on)], [.int ((nI (pdN pc)) + 8), .ref on, .ref on], M4)) rfl rfl rfl ?_
    rw [nI_add1 (p := pdN pc) (k := 8) (x := 8) rfl (by omega)]
    show pl _ _ _ (_, [(0, .ref on)], [.int (nI (pdN pc + 8)), .ref on, .ref on], M4) _
    refine pl_call (a := [.ref on, .int (nI (pdN pc + 8))]) (rest := [.ref on]) rfl rfl rfl (dk_is4 (f := f) (n := n) (on := on) (b := b) (da := da) (cb := cb) (L := L) (y3 := 170) (y4 := 1) (y5 := (nI (by4 f (cb + (pdN pc + 4))))) (y6 := 0) (y7 := 0) (y8 := 0) (y9 := (nI pc)) (y10 := y10) (y11 := (nI (pdN pc))) (a := (pdN pc + 8)) h5 h8 h9 (hn) (by omega)) (fun v11 M12 q13 => ?_)
    obtain ⟨rfl, rfl⟩ := q13
    show pl _ _ _ (42, [(0, .ref on)], [.int (nI (by4 f (cb + (pdN pc + 8)))), .ref on], M4) _
    have hb_39 := by4_lt f (cb + (pdN pc + 8))
    refine ps_put (l' := [.ref b, .int (nI cb), .int (nI L), .int 170, .int 1, .int (nI (by4 f (cb + (pdN pc + 4)))), .int (nI (by4 f (cb + (pdN pc + 8)))), .int 0, .int 0, .int (nI pc), .int y10, .int (nI (pdN pc))]) rfl h5 rfl rfl (fun M14 h15 f16 z17 => ?_)
    have h18 := (f16 b (ob_ne h8 h5 (by decide))).trans h8
    have h19 := (f16 da (Ne.symm (ob_ar h5 h9))).trans h9
    have hF20 := hF10.up (by simp) f16 z17
    show pl _ _ _ (45, [(0, .ref on)], [], M14) _
    refine ps_st (S' := (46, [(0, .ref on)], [.ref on], M14)) rfl rfl rfl ?_
    refine ps_get (S' := (49, [(0, .ref on)], [.int (nI (by4 f (cb + (pdN pc + 8))))], M14)) rfl h15 rfl rfl ?_
    refine ps_st (S' := (50, [(0, .ref on)], [.long (Int32.toInt64 (nI (by4 f (cb + (pdN pc + 8)))))], M14)) rfl rfl rfl ?_
    refine ps_st (S' := (51, [(0, .ref on)], [.ref on, .long (Int32.toInt64 (nI (by4 f (cb + (pdN pc + 8)))))], M14)) rfl rfl rfl ?_
    refine ps_get (S' := (54, [(0, .ref on)], [.int (nI (by4 f (cb + (pdN pc + 4)))), .long (Int32.toInt64 (nI (by4 f (cb + (pdN pc + 8)))))], M14)) rfl h15 rfl rfl ?_
    refine ps_st (S' := (55, [(0, .ref on)], [.long (Int32.toInt64 (nI (by4 f (cb + (pdN pc + 4))))), .long (Int32.toInt64 (nI (by4 f (cb + (pdN pc + 8)))))], M14)) rfl rfl rfl ?_
    refine ps_st (S' := (56, [(0, .ref on)], [.long ((Int32.toInt64 (nI (by4 f (cb + (pdN pc + 8))))) - (Int32.toInt64 (nI (by4 f (cb + (pdN pc + 4))))))], M14)) rfl rfl rfl ?_
    refine ps_st (S' := (57, [(0, .ref on)], [.long 1, .long ((Int32.toInt64 (nI (by4 f (cb + (pdN pc + 8))))) - (Int32.toInt64 (nI (by4 f (cb + (pdN pc + 4))))))], M14)) rfl rfl rfl ?_
    refine ps_st (S' := (58, [(0, .ref on)], [.long (((Int32.toInt64 (nI (by4 f (cb + (pdN pc + 8))))) - (Int32.toInt64 (nI (by4 f (cb + (pdN pc + 4)))))) + 1)], M14)) rfl rfl rfl ?_
    refine ps_st (S' := (59, [(1, .long (((Int32.toInt64 (nI (by4 f (cb + (pdN pc + 8))))) - (Int32.toInt64 (nI (by4 f (cb + (pdN pc + 4)))))) + 1)), (0, .ref on)], [], M14)) rfl rfl rfl ?_
    obtain ⟨n64, hn64⟩ : ∃ n64 : Int64, n64 = (((Int32.toInt64 (nI (by4 f (cb + (pdN pc + 8))))) - (Int32.toInt64 (nI (by4 f (cb + (pdN pc + 4)))))) + 1) := ⟨_, rfl⟩
    have hv64 : n64.toInt = nuI (by4 f (cb + (pdN pc + 4))) (by4 f (cb + (pdN pc + 8))) := by rw [hn64]; exact n64_val _ _
    rw [← hn64]
    show pl _ _ _ (59, [(1, .long n64), (0, .ref on)], [], M14) _
    refine ps_st (S' := (60, [(1, .long n64), (0, .ref on)], [.long n64], M14)) rfl rfl rfl ?_
    refine ps_st (S' := (61, [(1, .long n64), (0, .ref on)], [.long 1, .long n64], M14)) rfl rfl rfl ?_
    refine ps_st (S' := (62, [(1, .long n64), (0, .ref on)], [.int (lg_cmp n64 1)], M14)) rfl rfl rfl ?_
    refine ps_if (S1 := (87, [], [], M14)) (S2 := (65, [(1, .long n64), (0, .ref on)], [], M14)) rfl rfl rfl (fun c_62 => ?_) (fun c_62 => ?_)
    · have c_62 : (lg_cmp n64 1) < 0 := of_decide_eq_true c_62
      have hbad : nuI (by4 f (cb + (pdN pc + 4))) (by4 f (cb + (pdN pc + 8))) < 1 ∨ ((L - pdN pc - 12 : Nat) : Int) < 4 * nuI (by4 f (cb + (pdN pc + 4))) (by4 f (cb + (pdN pc + 8))) := Or.inl (by have h9 := lgc_lt.mp c_62; rw [hv64] at h9; exact h9)
      refine ps_st (S' := (88, [], [.int 0], M14)) rfl rfl rfl ?_
      exact ps_ret rfl rfl (Or.inr ⟨_, _, _, _, by
          unfold tbS
          rw [if_neg (by omega), if_pos hbad], rfl, h15, hF20⟩)
    · have c_62 : ¬ ((lg_cmp n64 1) < 0) := of_decide_eq_false c_62
      refine ps_st (S' := (66, [(1, .long n64), (0, .ref on)], [.long n64], M14)) rfl rfl rfl ?_
      refine ps_st (S' := (69, [(1, .long n64), (0, .ref on)], [.long 4, .long n64], M14)) rfl rfl rfl ?_
      refine ps_st (S' := (70, [(1, .long n64), (0, .ref on)], [.long (n64 * 4)], M14)) rfl rfl rfl ?_
      refine ps_st (S' := (71, [(1, .long n64), (0, .ref on)], [.ref on, .long (n64 * 4)], M14)) rfl rfl rfl ?_
      refine ps_get (S' := (74, [(1, .long n64), (0, .ref on)], [.int (nI L), .long (n64 * 4)], M14)) rfl h15 rfl rfl ?_
      refine ps_st (S' := (75, [(1, .long n64), (0, .ref on)], [.ref on, .int (nI L), .long (n64 * 4)], M14)) rfl rfl rfl ?_
      refine ps_get (S' := (78, [(1, .long n64), (0, .ref on)], [.int (nI (pdN pc)), .int (nI L), .long (n64 * 4)], M14)) rfl h15 rfl rfl ?_
      refine ps_st (S' := (79, [(1, .long n64), (0, .ref on)], [.int ((nI L) - (nI (pdN pc))), .long (n64 * 4)], M14)) rfl rfl rfl ?_
      rw [nI_sub1 (p := L) (k := pdN pc) (x := (nI (pdN pc))) rfl (by omega) (by omega)]
      show pl _ _ _ (_, [(1, .long n64), (0, .ref on)], [.int (nI (L - (pdN pc))), .long (n64 * 4)], M14) _
      refine ps_st (S' := (81, [(1, .long n64), (0, .ref on)], [.int 12, .int (nI (L - (pdN pc))), .long (n64 * 4)], M14)) rfl rfl rfl ?_
      refine ps_st (S' := (82, [(1, .long n64), (0, .ref on)], [.int ((nI (L - (pdN pc))) - 12), .long (n64 * 4)], M14)) rfl rfl rfl ?_
      rw [nI_sub1 (p := L - (pdN pc)) (k := 12) (x := 12) rfl (by omega) (by omega)]
      show pl _ _ _ (_, [(1, .long n64), (0, .ref on)], [.int (nI ((L - (pdN pc)) - 12)), .long (n64 * 4)], M14) _
      refine ps_st (S' := (83, [(1, .long n64), (0, .ref on)], [.long (Int32.toInt64 (nI ((L - (pdN pc)) - 12))), .long (n64 * 4)], M14)) rfl rfl rfl ?_
      refine ps_st (S' := (84, [(1, .long n64), (0, .ref on)], [.int (lg_cmp (n64 * 4) (Int32.toInt64 (nI ((L - (pdN pc)) - 12))))], M14)) rfl rfl rfl ?_
      refine ps_if (S1 := (89, [(1, .long n64), (0, .ref on)], [], M14)) (S2 := (87, [], [], M14)) rfl rfl rfl (fun c_84 => ?_) (fun c_84 => ?_)
      · have c_84 : (lg_cmp (n64 * 4) (Int32.toInt64 (nI ((L - (pdN pc)) - 12)))) ≤ 0 := of_decide_eq_true c_84
        have h62 : ¬ nuI (by4 f (cb + (pdN pc + 4))) (by4 f (cb + (pdN pc + 8))) < 1 := fun h9 => c_62 (lgc_lt.mpr (by rw [hv64]; exact h9))
        have h84 : 4 * nuI (by4 f (cb + (pdN pc + 4))) (by4 f (cb + (pdN pc + 8))) ≤ ((L - pdN pc - 12 : Nat) : Int) := by have h9 := lgc_le.mp c_84; rw [m64_val hv64 (nuI_bd _ _), i2l_nI (by omega)] at h9; exact h9
        obtain ⟨nu, hnu⟩ : ∃ nu : Nat, (nu : Int) = nuI (by4 f (cb + (pdN pc + 4))) (by4 f (cb + (pdN pc + 8))) := ⟨(nuI (by4 f (cb + (pdN pc + 4))) (by4 f (cb + (pdN pc + 8)))).toNat, by omega⟩
        have hnu2 : nu = (nuI (by4 f (cb + (pdN pc + 4))) (by4 f (cb + (pdN pc + 8)))).toNat := by omega
        have e64 : n64 = nL nu := Int64.toInt_inj.mp (by rw [hv64, nL_val (by omega)]; exact hnu.symm)
        rw [e64]
        show pl _ _ _ (89, [(1, .long (nL nu)), (0, .ref on)], [], M14) _
        refine ps_st (S' := (90, [(1, .long (nL nu)), (0, .ref on)], [.ref on], M14)) rfl rfl rfl ?_
        refine ps_st (S' := (91, [(1, .long (nL nu)), (0, .ref on)], [.long (nL nu), .ref on], M14)) rfl rfl rfl ?_
        refine ps_st (S' := (92, [(1, .long (nL nu)), (0, .ref on)], [.int (Int64.toInt32 (nL nu)), .ref on], M14)) rfl rfl rfl ?_
        rw [l2i_nL (p := nu) (by omega)]
        show pl _ _ _ (_, [(1, .long (nL nu)), (0, .ref on)], [.int (nI nu), .ref on], M14) _
        refine ps_st (S' := (93, [(1, .long (nL nu)), (0, .ref on)], [.int 1, .int (nI nu), .ref on], M14)) rfl rfl rfl ?_
        refine ps_st (S' := (94, [(1, .long (nL nu)), (0, .ref on)], [.int ((nI nu) + 1), .ref on], M14)) rfl rfl rfl ?_
        rw [nI_add1 (p := nu) (k := 1) (x := 1) rfl (by omega)]
        show pl _ _ _ (_, [(1, .long (nL nu)), (0, .ref on)], [.int (nI (nu + 1)), .ref on], M14) _
        refine ps_put (l' := [.ref b, .int (nI cb), .int (nI L), .int 170, .int 1, .int (nI (by4 f (cb + (pdN pc + 4)))), .int (nI (by4 f (cb + (pdN pc + 8)))), .int 0, .int (nI (nu + 1)), .int (nI pc), .int y10, .int (nI (pdN pc))]) rfl h15 rfl rfl (fun M21 h22 f23 z24 => ?_)
        have h25 := (f23 b (ob_ne h18 h15 (by decide))).trans h18
        have h26 := (f23 da (Ne.symm (ob_ar h15 h19))).trans h19
        have hF27 := hF20.up (by simp) f23 z24
        show pl _ _ _ (97, [(1, .long (nL nu)), (0, .ref on)], [], M21) _
        refine ps_st (S' := (98, [(1, .long (nL nu)), (0, .ref on)], [.ref on], M21)) rfl rfl rfl ?_
        refine ps_st (S' := (99, [(1, .long (nL nu)), (0, .ref on)], [.ref on, .ref on], M21)) rfl rfl rfl ?_
        refine ps_get (S' := (102, [(1, .long (nL nu)), (0, .ref on)], [.int (nI (pdN pc)), .ref on], M21)) rfl h22 rfl rfl ?_
        refine ps_st (S' := (104, [(1, .long (nL nu)), (0, .ref on)], [.int 12, .int (nI (pdN pc)), .ref on], M21)) rfl rfl rfl ?_
        refine ps_st (S' := (105, [(1, .long (nL nu)), (0, .ref on)], [.int ((nI (pdN pc)) + 12), .ref on], M21)) rfl rfl rfl ?_
        rw [nI_add1 (p := pdN pc) (k := 12) (x := 12) rfl (by omega)]
        show pl _ _ _ (_, [(1, .long (nL nu)), (0, .ref on)], [.int (nI (pdN pc + 12)), .ref on], M21) _
        refine ps_st (S' := (106, [(1, .long (nL nu)), (0, .ref on)], [.int 4, .int (nI (pdN pc + 12)), .ref on], M21)) rfl rfl rfl ?_
        refine ps_st (S' := (107, [(1, .long (nL nu)), (0, .ref on)], [.long (nL nu), .int 4, .int (nI (pdN pc + 12)), .ref on], M21)) rfl rfl rfl ?_
        refine ps_st (S' := (108, [(1, .long (nL nu)), (0, .ref on)], [.int (Int64.toInt32 (nL nu)), .int 4, .int (nI (pdN pc + 12)), .ref on], M21)) rfl rfl rfl ?_
        rw [l2i_nL (p := nu) (by omega)]
        show pl _ _ _ (_, [(1, .long (nL nu)), (0, .ref on)], [.int (nI nu), .int 4, .int (nI (pdN pc + 12)), .ref on], M21) _
        refine ps_st (S' := (109, [(1, .long (nL nu)), (0, .ref on)], [.int (4 * (nI nu)), .int (nI (pdN pc + 12)), .ref on], M21)) rfl rfl rfl ?_
        rw [nI_mul1 (p := 4) (k := nu) (x := 4) (y := (nI nu)) rfl rfl (by omega)]
        show pl _ _ _ (_, [(1, .long (nL nu)), (0, .ref on)], [.int (nI (4 * nu)), .int (nI (pdN pc + 12)), .ref on], M21) _
        refine ps_st (S' := (110, [(1, .long (nL nu)), (0, .ref on)], [.int ((nI (pdN pc + 12)) + (nI (4 * nu))), .ref on], M21)) rfl rfl rfl ?_
        rw [nI_add1 (p := pdN pc + 12) (k := 4 * nu) (x := (nI (4 * nu))) rfl (by omega)]
        show pl _ _ _ (_, [(1, .long (nL nu)), (0, .ref on)], [.int (nI (pdN pc + 12 + 4 * nu)), .ref on], M21) _
        refine ps_st (S' := (111, [(1, .long (nL nu)), (0, .ref on)], [.ref on, .int (nI (pdN pc + 12 + 4 * nu)), .ref on], M21)) rfl rfl rfl ?_
        refine ps_get (S' := (114, [(1, .long (nL nu)), (0, .ref on)], [.int (nI pc), .int (nI (pdN pc + 12 + 4 * nu)), .ref on], M21)) rfl h22 rfl rfl ?_
        refine ps_st (S' := (115, [(1, .long (nL nu)), (0, .ref on)], [.int ((nI (pdN pc + 12 + 4 * nu)) - (nI pc)), .ref on], M21)) rfl rfl rfl ?_
        rw [nI_sub1 (p := pdN pc + 12 + 4 * nu) (k := pc) (x := (nI pc)) rfl (by omega) (by omega)]
        show pl _ _ _ (_, [(1, .long (nL nu)), (0, .ref on)], [.int (nI ((pdN pc + 12 + 4 * nu) - pc)), .ref on], M21) _
        refine ps_put (l' := [.ref b, .int (nI cb), .int (nI L), .int 170, .int (nI ((pdN pc + 12 + 4 * nu) - pc)), .int (nI (by4 f (cb + (pdN pc + 4)))), .int (nI (by4 f (cb + (pdN pc + 8)))), .int 0, .int (nI (nu + 1)), .int (nI pc), .int y10, .int (nI (pdN pc))]) rfl h22 rfl rfl (fun M28 h29 f30 z31 => ?_)
        have h32 := (f30 b (ob_ne h25 h22 (by decide))).trans h25
        have h33 := (f30 da (Ne.symm (ob_ar h22 h26))).trans h26
        have hF34 := hF27.up (by simp) f30 z31
        show pl _ _ _ (118, [(1, .long (nL nu)), (0, .ref on)], [], M28) _
        refine ps_st (S' := (119, [(1, .long (nL nu)), (0, .ref on)], [.int 1], M28)) rfl rfl rfl ?_
        exact ps_ret rfl rfl (Or.inl ⟨((pdN pc + 12 + 4 * nu) - pc, (nI (by4 f (cb + (pdN pc + 4)))), (nI (by4 f (cb + (pdN pc + 8)))), nu + 1), by
            unfold tbS
            rw [if_neg (by omega), if_neg (by omega), ← hnu2], ⟨by show nu + 1 < 131072; omega, by show (pdN pc + 12 + 4 * nu) - pc < 131072; omega⟩, rfl, h29, hF34⟩)
      · have c_84 : ¬ ((lg_cmp (n64 * 4) (Int32.toInt64 (nI ((L - (pdN pc)) - 12)))) ≤ 0) := of_decide_eq_false c_84
        have h62 : ¬ nuI (by4 f (cb + (pdN pc + 4))) (by4 f (cb + (pdN pc + 8))) < 1 := fun h9 => c_62 (lgc_lt.mpr (by rw [hv64]; exact h9))
        have hbad : nuI (by4 f (cb + (pdN pc + 4))) (by4 f (cb + (pdN pc + 8))) < 1 ∨ ((L - pdN pc - 12 : Nat) : Int) < 4 * nuI (by4 f (cb + (pdN pc + 4))) (by4 f (cb + (pdN pc + 8))) := Or.inr (Int.not_le.mp (fun h8 => c_84 (lgc_le.mpr (by rw [m64_val hv64 (nuI_bd _ _), i2l_nI (by omega)]; exact h8))))
        refine ps_st (S' := (88, [], [.int 0], M14)) rfl rfl rfl ?_
        exact ps_ret rfl rfl (Or.inr ⟨_, _, _, _, by
            unfold tbS
            rw [if_neg (by omega), if_pos hbad], rfl, h15, hF20⟩)
  · have c_11 : ¬ (12 ≤ ((nI L) - (nI (pdN pc)))) := of_decide_eq_false c_11
    have n_11 : ¬ (12 + (pdN pc) ≤ L) := fun h8 => c_11 ((le_sub1 (e := L) (p := pdN pc) (k := 12) (by omega) (by omega) (by omega)).mpr h8)
    refine ps_st (S' := (15, [(0, .ref on)], [.int 0], M)) rfl rfl rfl ?_
    exact ps_ret rfl rfl (Or.inr ⟨_, _, _, _, by
        unfold tbS
        rw [if_pos (by omega)], rfl, h_on, hF⟩)
set_option maxHeartbeats 1000000 in
theorem dk_keyOfL {g : xe_G} {M : mi_H} {f : Nat → Int32} {n on b da cb L : Nat} {y4 y5 y6 y7 y8 y9 y10 : Int32} {sw i : Nat} (h_on : M.1 on = some (ob 5 [.ref b, .int (nI cb), .int (nI L), .int 171, .int y4, .int y5, .int y6, .int y7, .int y8, .int y9, .int y10, .int (nI sw)])) (h_b : M.1 b = some (ob 1 [.ref da])) (h_da : M.1 da = some (ar .byte n f)) (hn : n ≤ 65540) (hi : 1 ≤ i ∧ i < 65536) (hsw : sw < 65540) (hin : cb + (sw + 8 * i) + 4 ≤ n) : pt (mT g) 100 [.ref on, .int (nI i)] M (fun v M' => (v = some (.int (nI (by4 f (cb + (sw + 8 * i))))) ∧ M = M')) := by
  refine pt_in (b := mb_100 g) rfl (fun kf => ?_)
  show pl (mT g) kf (mb_100 g).2 (0, [(0, .ref on), (1, .int (nI i))], [], M) _
  refine ps_st (S' := (1, [(0, .ref on), (1, .int (nI i))], [.int (nI i)], M)) rfl rfl rfl ?_
  refine ps_if (S1 := (6, [(0, .ref on), (1, .int (nI i))], [], M)) (S2 := (4, [(0, .ref on), (1, .int (nI i))], [], M)) rfl rfl rfl (fun c_1 => ?_) (fun c_1 => ?_)
  rotate_left
  · exact absurd (show ¬ ((nI i) = 0) from fun h9 => absurd ((eq_nI (p := i) (n := 0) (by omega) (by decide)).mp h9) (by omega)) (of_decide_eq_false c_1)
  refine ps_st (S' := (7, [(0, .ref on), (1, .int (nI i))], [.ref on], M)) rfl rfl rfl ?_
  refine ps_get (S' := (10, [(0, .ref on), (1, .int (nI i))], [.int 171], M)) rfl h_on rfl rfl ?_
  refine ps_st (S' := (13, [(0, .ref on), (1, .int (nI i))], [.int 170, .int 171], M)) rfl rfl rfl ?_
  refine ps_if2 (S1 := (27, [(0, .ref on), (1, .int (nI i))], [], M)) (S2 := (16, [(0, .ref on), (1, .int (nI i))], [], M)) rfl rfl rfl (fun c_13 => ?_) (fun c_13 => ?_)
  rotate_left
  · exact absurd (by decide) (of_decide_eq_false c_13)
  refine ps_st (S' := (28, [(0, .ref on), (1, .int (nI i))], [.ref on], M)) rfl rfl rfl ?_
  refine ps_st (S' := (29, [(0, .ref on), (1, .int (nI i))], [.ref on, .ref on], M)) rfl rfl rfl ?_
  refine ps_get (S' := (32, [(0, .ref on), (1, .int (nI i))], [.int (nI sw), .ref on], M)) rfl h_on rfl rfl ?_
  refine ps_st (S' := (34, [(0, .ref on), (1, .int (nI i))], [.int 8, .int (nI sw), .ref on], M)) rfl rfl rfl ?_
  refine ps_st (S' := (35, [(0, .ref on), (1, .int (nI i))], [.int (nI i), .int 8, .int (nI sw), .ref on], M)) rfl rfl rfl ?_
  refine ps_st (S' := (36, [(0, .ref on), (1, .int (nI i))], [.int (8 * (nI i)), .int (nI sw), .ref on], M)) rfl rfl rfl ?_
  rw [nI_mul1 (p := 8) (k := i) (x := 8) (y := (nI i)) rfl rfl (by omega)]
  show pl _ _ _ (_, [(0, .ref on), (1, .int (nI i))], [.int (nI (8 * i)), .int (nI sw), .ref on], M) _
  refine ps_st (S' := (37, [(0, .ref on), (1, .int (nI i))], [.int ((nI sw) + (nI (8 * i))), .ref on], M)) rfl rfl rfl ?_
  rw [nI_add1 (p := sw) (k := 8 * i) (x := (nI (8 * i))) rfl (by omega)]
  show pl _ _ _ (_, [(0, .ref on), (1, .int (nI i))], [.int (nI (sw + 8 * i)), .ref on], M) _
  refine pl_call (a := [.ref on, .int (nI (sw + 8 * i))]) (rest := []) rfl rfl rfl (dk_is4 (f := f) (n := n) (on := on) (b := b) (da := da) (cb := cb) (L := L) (y3 := 171) (y4 := y4) (y5 := y5) (y6 := y6) (y7 := y7) (y8 := y8) (y9 := y9) (y10 := y10) (y11 := (nI sw)) (a := (sw + 8 * i)) h_on h_b h_da (hn) (by omega)) (fun v1 M2 q3 => ?_)
  obtain ⟨rfl, rfl⟩ := q3
  show pl _ _ _ (40, [], [.int (nI (by4 f (cb + (sw + 8 * i))))], M) _
  have hb_37 := by4_lt f (cb + (sw + 8 * i))
  exact ps_reti rfl (⟨rfl, rfl⟩)
set_option maxHeartbeats 1000000 in
theorem dk_isLookupTaken {g : xe_G} {M : mi_H} {f : Nat → Int32} {n on b da cb L : Nat} {y10 : Int32} {pc : Nat} (h_on : M.1 on = some (ob 5 [.ref b, .int (nI cb), .int (nI L), .int 171, .int 1, .int 0, .int 0, .int 0, .int 0, .int (nI pc), .int y10, .int (nI (pdN pc))])) (h_b : M.1 b = some (ob 1 [.ref da])) (h_da : M.1 da = some (ar .byte n f)) (hn : n ≤ 65540) (hcl : cb + L + 4 ≤ n) (hpl : pc < L) : pt (mT g) 93 [.ref on] M (fun v M' => (∃ (x : Nat × Int32 × Int32 × Nat), (lkS f cb L pc = some x) ∧ (x.2.2.2 < 131072 ∧ x.1 < 131072) ∧ v = some (.int 1) ∧ M'.1 on = some (ob 5 [.ref b, .int (nI cb), .int (nI L), .int 171, .int (nI x.1), .int x.2.1, .int x.2.2.1, .int 0, .int (nI x.2.2.2), .int (nI pc), .int y10, .int (nI (pdN pc))]) ∧ fm [on] M M') ∨ (∃ (z4 z5 z6 z8 : Int32), (lkS f cb L pc = none) ∧ v = some (.int 0) ∧ M'.1 on = some (ob 5 [.ref b, .int (nI cb), .int (nI L), .int 171, .int z4, .int z5, .int z6, .int 0, .int z8, .int (nI pc), .int y10, .int (nI (pdN pc))]) ∧ fm [on] M M')) := by
  refine pt_in (b := mb_93 g) rfl (fun kf => ?_)
  show pl (mT g) kf (mb_93 g).2 (0, [(0, .ref on)], [], M) _
  have hF : fm [on] M M := fm.rf
  have hpd := pd_le pc
  have LL : ∀ (kf : Nat), (∀ (i np : Nat) (M1 : mi_H), (M1.1 on = some (ob 5 [.ref b, .int (nI cb), .int (nI L), .int 171, .int (nI (pdN pc + 8 + 8 * np - pc)), .int (nI np), .int 0, .int 0, .int (nI (np + 1)), .int (nI pc), .int y10, .int (nI (pdN pc))])) → (M1.1 b = some (ob 1 [.ref da])) → (M1.1 da = some (ar .byte n f)) → (fm [on] M M1) → (np = by4 f (cb + (pdN pc + 4))) → (2 ≤ i ∧ (i ≤ np + 1 ∨ i = 2)) → (pdN pc + 8 + 8 * np ≤ L) → (keA f cb (pdN pc) (np + 1 - i) i = keA f cb (pdN pc) (np - 1) 2) →  pl (mT g) kf (mb_93 g).2 (97, [(0, .ref on), (1, .int (nI i))], [], M1) (fun v M' => (∃ (x : Nat × Int32 × Int32 × Nat), (lkS f cb L pc = some x) ∧ (x.2.2.2 < 131072 ∧ x.1 < 131072) ∧ v = some (.int 1) ∧ M'.1 on = some (ob 5 [.ref b, .int (nI cb), .int (nI L), .int 171, .int (nI x.1), .int x.2.1, .int x.2.2.1, .int 0, .int (nI x.2.2.2), .int (nI pc), .int y10, .int (nI (pdN pc))]) ∧ fm [on] M M') ∨ (∃ (z4 z5 z6 z8 : Int32), (lkS f cb L pc = none) ∧ v = some (.int 0) ∧ M'.1 on = some (ob 5 [.ref b, .int (nI cb), .int (nI L), .int 171, .int z4, .int z5, .int z6, .int 0, .int z8, .int (nI pc), .int y10, .int (nI (pdN pc))]) ∧ fm [on] M M'))) := by
    intro kf
    induction kf with
    | zero => exact (by intros; exact pl_0)
    | succ kf ih =>
      intro i np M1 hl_on hl_b hl_da hF1 hnp hi hle hk
      refine ps_st1 (S' := (98, [(0, .ref on), (1, .int (nI i))], [.int (nI i)], M1)) rfl rfl rfl ?_
      refine ps_st (S' := (99, [(0, .ref on), (1, .int (nI i))], [.ref on, .int (nI i)], M1)) rfl rfl rfl ?_
      refine ps_get (S' := (102, [(0, .ref on), (1, .int (nI i))], [.int (nI (np + 1)), .int (nI i)], M1)) rfl hl_on rfl rfl ?_
      refine ps_if2 (S1 := (128, [(0, .ref on), (1, .int (nI i))], [], M1)) (S2 := (105, [(0, .ref on), (1, .int (nI i))], [], M1)) rfl rfl rfl (fun c_102 => ?_) (fun c_102 => ?_)
      · have c_102 : (nI (np + 1)) ≤ (nI i) := of_decide_eq_true c_102
        have n_102 : np + 1 ≤ i := (le_nI (p := np + 1) (n := i) (by omega) (by omega)).mp c_102
        refine ps_st (S' := (129, [(0, .ref on), (1, .int (nI i))], [.int 1], M1)) rfl rfl rfl ?_
        exact ps_ret rfl rfl (Or.inl ⟨(pdN pc + 8 + 8 * np - pc, nI np, 0, np + 1), by
            unfold lkS
            rw [← hnp, if_neg (by omega), if_neg (by omega), if_neg (by rw [← hk, show np + 1 - i = 0 by omega]; exact Nat.one_ne_zero)], ⟨by show np + 1 < 131072; omega, by show pdN pc + 8 + 8 * np - pc < 131072; omega⟩, rfl, hl_on, hF1⟩)
      · have c_102 : ¬ ((nI (np + 1)) ≤ (nI i)) := of_decide_eq_false c_102
        have n_102 : ¬ (np + 1 ≤ i) := fun h9 => c_102 ((le_nI (p := np + 1) (n := i) (by omega) (by omega)).mpr h9)
        refine ps_st (S' := (106, [(0, .ref on), (1, .int (nI i))], [.ref on], M1)) rfl rfl rfl ?_
        refine ps_st (S' := (107, [(0, .ref on), (1, .int (nI i))], [.int (nI i), .ref on], M1)) rfl rfl rfl ?_
        refine ps_st (S' := (108, [(0, .ref on), (1, .int (nI i))], [.int 1, .int (nI i), .ref on], M1)) rfl rfl rfl ?_
        refine ps_st (S' := (109, [(0, .ref on), (1, .int (nI i))], [.int ((nI i) - 1), .ref on], M1)) rfl rfl rfl ?_
        rw [nI_sub1 (p := i) (k := 1) (x := 1) rfl (by omega) (by omega)]
        show pl _ _ _ (_, [(0, .ref on), (1, .int (nI i))], [.int (nI (i - 1)), .ref on], M1) _
        refine pl_call (a := [.ref on, .int (nI (i - 1))]) (rest := []) rfl rfl rfl (dk_keyOfL (f := f) (n := n) (on := on) (b := b) (da := da) (cb := cb) (L := L) (y4 := (nI (pdN pc + 8 + 8 * np - pc))) (y5 := (nI np)) (y6 := 0) (y7 := 0) (y8 := (nI (np + 1))) (y9 := (nI pc)) (y10 := y10) (sw := (pdN pc)) (i := (i - 1)) hl_on hl_b hl_da (hn) (by omega) (by omega) (by omega)) (fun v1 M2 q3 => ?_)
        obtain ⟨rfl, rfl⟩ := q3
        show pl _ _ _ (112, [(0, .ref on), (1, .int (nI i))], [.int (nI (by4 f (cb + ((pdN pc) + 8 * (i - 1)))))], M1) _
        refine ps_st (S' := (113, [(0, .ref on), (1, .int (nI i))], [.ref on, .int (nI (by4 f (cb + ((pdN pc) + 8 * (i - 1)))))], M1)) rfl rfl rfl ?_
        refine ps_st (S' := (114, [(0, .ref on), (1, .int (nI i))], [.int (nI i), .ref on, .int (nI (by4 f (cb + ((pdN pc) + 8 * (i - 1)))))], M1)) rfl rfl rfl ?_
        refine pl_call (a := [.ref on, .int (nI i)]) (rest := [.int (nI (by4 f (cb + ((pdN pc) + 8 * (i - 1)))))]) rfl rfl rfl (dk_keyOfL (f := f) (n := n) (on := on) (b := b) (da := da) (cb := cb) (L := L) (y4 := (nI (pdN pc + 8 + 8 * np - pc))) (y5 := (nI np)) (y6 := 0) (y7 := 0) (y8 := (nI (np + 1))) (y9 := (nI pc)) (y10 := y10) (sw := (pdN pc)) (i := i) hl_on hl_b hl_da (hn) (by omega) (by omega) (by omega)) (fun v4 M5 q6 => ?_)
        obtain ⟨rfl, rfl⟩ := q6
        show pl _ _ _ (117, [(0, .ref on), (1, .int (nI i))], [.int (nI (by4 f (cb + ((pdN pc) + 8 * i)))), .int (nI (by4 f (cb + ((pdN pc) + 8 * (i - 1)))))], M1) _
        refine ps_if2 (S1 := (122, [(0, .ref on), (1, .int (nI i))], [], M1)) (S2 := (120, [(0, .ref on), (1, .int (nI i))], [], M1)) rfl rfl rfl (fun c_117 => ?_) (fun c_117 => ?_)
        · have c_117 : (nI (by4 f (cb + ((pdN pc) + 8 * (i - 1))))) < (nI (by4 f (cb + ((pdN pc) + 8 * i)))) := of_decide_eq_true c_117
          refine ps_st (S' := (125, [(1, .int ((nI i) + 1)), (0, .ref on)], [], M1)) rfl rfl rfl ?_
          rw [nI_add1 (p := i) (k := 1) (x := 1) rfl (by omega)]
          show pl _ _ _ (_, [(1, .int (nI (i + 1))), (0, .ref on)], [], M1) _
          refine ps_st (S' := (97, [(0, .ref on), (1, .int (nI (i + 1)))], [], M1)) rfl rfl rfl ?_
          exact ih (i + 1) (np) M1 hl_on hl_b hl_da hF1 (hnp) (by omega) (hle) (by
              rw [← hk, keA_st (c := np + 1) (i := i) (j := i) (by omega), if_pos c_117])
        · have c_117 : ¬ ((nI (by4 f (cb + ((pdN pc) + 8 * (i - 1))))) < (nI (by4 f (cb + ((pdN pc) + 8 * i))))) := of_decide_eq_false c_117
          refine ps_st (S' := (121, [(0, .ref on), (1, .int (nI i))], [.int 0], M1)) rfl rfl rfl ?_
          exact ps_ret rfl rfl (Or.inr ⟨_, _, _, _, by
              unfold lkS
              rw [← hnp, if_neg (by omega), if_neg (by omega), if_pos (by rw [← hk, keA_st (c := np + 1) (i := i) (j := i) (by omega), if_neg c_117])], rfl, hl_on, hF1⟩)
  refine ps_st (S' := (1, [(0, .ref on)], [.ref on], M)) rfl rfl rfl ?_
  refine ps_get (S' := (4, [(0, .ref on)], [.int (nI L)], M)) rfl h_on rfl rfl ?_
  refine ps_st (S' := (5, [(0, .ref on)], [.ref on, .int (nI L)], M)) rfl rfl rfl ?_
  refine ps_get (S' := (8, [(0, .ref on)], [.int (nI (pdN pc)), .int (nI L)], M)) rfl h_on rfl rfl ?_
  refine ps_st (S' := (9, [(0, .ref on)], [.int ((nI L) - (nI (pdN pc)))], M)) rfl rfl rfl ?_
  refine ps_st (S' := (11, [(0, .ref on)], [.int 8, .int ((nI L) - (nI (pdN pc)))], M)) rfl rfl rfl ?_
  refine ps_if2 (S1 := (16, [(0, .ref on)], [], M)) (S2 := (14, [(0, .ref on)], [], M)) rfl rfl rfl (fun c_11 => ?_) (fun c_11 => ?_)
  · have c_11 : 8 ≤ ((nI L) - (nI (pdN pc))) := of_decide_eq_true c_11
    have n_11 : 8 + (pdN pc) ≤ L := (le_sub1 (e := L) (p := pdN pc) (k := 8) (by omega) (by omega) (by omega)).mp c_11
    refine ps_st (S' := (17, [(0, .ref on)], [.ref on], M)) rfl rfl rfl ?_
    refine ps_st (S' := (18, [(0, .ref on)], [.ref on, .ref on], M)) rfl rfl rfl ?_
    refine ps_st (S' := (19, [(0, .ref on)], [.ref on, .ref on, .ref on], M)) rfl rfl rfl ?_
    refine ps_get (S' := (22, [(0, .ref on)], [.int (nI (pdN pc)), .ref on, .ref on], M)) rfl h_on rfl rfl ?_
    refine ps_st (S' := (23, [(0, .ref on)], [.int 4, .int (nI (pdN pc)), .ref on, .ref on], M)) rfl rfl rfl ?_
    refine ps_st (S' := (24, [(0, .ref on)], [.int ((nI (pdN pc)) + 4), .ref on, .ref on], M)) rfl rfl rfl ?_
    rw [nI_add1 (p := pdN pc) (k := 4) (x := 4) rfl (by omega)]
    show pl _ _ _ (_, [(0, .ref on)], [.int (nI (pdN pc + 4)), .ref on, .ref on], M) _
    refine pl_call (a := [.ref on, .int (nI (pdN pc + 4))]) (rest := [.ref on]) rfl rfl rfl (dk_is4 (f := f) (n := n) (on := on) (b := b) (da := da) (cb := cb) (L := L) (y3 := 171) (y4 := 1) (y5 := 0) (y6 := 0) (y7 := 0) (y8 := 0) (y9 := (nI pc)) (y10 := y10) (y11 := (nI (pdN pc))) (a := (pdN pc + 4)) h_on h_b h_da (hn) (by omega)) (fun v7 M8 q9 => ?_)
    obtain ⟨rfl, rfl⟩ := q9
    show pl _ _ _ (27, [(0, .ref on)], [.int (nI (by4 f (cb + (pdN pc + 4)))), .ref on], M) _
    have hb_24 := by4_lt f (cb + (pdN pc + 4))
    obtain ⟨np, hnp⟩ : ∃ np, np = by4 f (cb + (pdN pc + 4)) := ⟨_, rfl⟩
    have hnl : np < 4294967296 := by rw [hnp]; exact by4_lt _ _
    rw [← hnp]
    show pl _ _ _ (27, [(0, .ref on)], [.int (nI np), .ref on], M) _
    refine ps_put (l' := [.ref b, .int (nI cb), .int (nI L), .int 171, .int 1, .int (nI np), .int 0, .int 0, .int 0, .int (nI pc), .int y10, .int (nI (pdN pc))]) rfl h_on rfl rfl (fun M10 h11 f12 z13 => ?_)
    have h14 := (f12 b (ob_ne h_b h_on (by decide))).trans h_b
    have h15 := (f12 da (Ne.symm (ob_ar h_on h_da))).trans h_da
    have hF16 := hF.up (by simp) f12 z13
    show pl _ _ _ (30, [(0, .ref on)], [], M10) _
    refine ps_st (S' := (31, [(0, .ref on)], [.ref on], M10)) rfl rfl rfl ?_
    refine ps_get (S' := (34, [(0, .ref on)], [.int (nI np)], M10)) rfl h11 rfl rfl ?_
    by_cases hneg : 2147483648 ≤ np
    · skip
      refine ps_if (S1 := (59, [], [], M10)) (S2 := (37, [(0, .ref on)], [], M10)) rfl rfl rfl (fun c_34 => ?_) (fun c_34 => ?_)
      rotate_left
      · exact absurd ((neg_nI hnl).mpr hneg) (of_decide_eq_false c_34)
      refine ps_st (S' := (60, [], [.int 0], M10)) rfl rfl rfl ?_
      exact ps_ret rfl rfl (Or.inr ⟨_, _, _, _, by
          unfold lkS
          rw [← hnp, if_neg (by omega), if_pos (by omega)], rfl, h11, hF16⟩)
    · skip
      refine ps_if (S1 := (59, [], [], M10)) (S2 := (37, [(0, .ref on)], [], M10)) rfl rfl rfl (fun c_34 => ?_) (fun c_34 => ?_)
      · exact absurd (of_decide_eq_true c_34) (fun h9 => hneg ((neg_nI hnl).mp h9))
      refine ps_st (S' := (38, [(0, .ref on)], [.ref on], M10)) rfl rfl rfl ?_
      refine ps_get (S' := (41, [(0, .ref on)], [.int (nI np)], M10)) rfl h11 rfl rfl ?_
      refine ps_st (S' := (42, [(0, .ref on)], [.ref on, .int (nI np)], M10)) rfl rfl rfl ?_
      refine ps_get (S' := (45, [(0, .ref on)], [.int (nI L), .int (nI np)], M10)) rfl h11 rfl rfl ?_
      refine ps_st (S' := (46, [(0, .ref on)], [.ref on, .int (nI L), .int (nI np)], M10)) rfl rfl rfl ?_
      refine ps_get (S' := (49, [(0, .ref on)], [.int (nI (pdN pc)), .int (nI L), .int (nI np)], M10)) rfl h11 rfl rfl ?_
      refine ps_st (S' := (50, [(0, .ref on)], [.int ((nI L) - (nI (pdN pc))), .int (nI np)], M10)) rfl rfl rfl ?_
      rw [nI_sub1 (p := L) (k := pdN pc) (x := (nI (pdN pc))) rfl (by omega) (by omega)]
      show pl _ _ _ (_, [(0, .ref on)], [.int (nI (L - (pdN pc))), .int (nI np)], M10) _
      refine ps_st (S' := (52, [(0, .ref on)], [.int 8, .int (nI (L - (pdN pc))), .int (nI np)], M10)) rfl rfl rfl ?_
      refine ps_st (S' := (53, [(0, .ref on)], [.int ((nI (L - (pdN pc))) - 8), .int (nI np)], M10)) rfl rfl rfl ?_
      rw [nI_sub1 (p := L - (pdN pc)) (k := 8) (x := 8) rfl (by omega) (by omega)]
      show pl _ _ _ (_, [(0, .ref on)], [.int (nI ((L - (pdN pc)) - 8)), .int (nI np)], M10) _
      refine ps_st (S' := (55, [(0, .ref on)], [.int 8, .int (nI ((L - (pdN pc)) - 8)), .int (nI np)], M10)) rfl rfl rfl ?_
      refine ps_st (S' := (56, [(0, .ref on)], [.int ((nI ((L - (pdN pc)) - 8)) / 8), .int (nI np)], M10)) rfl rfl rfl ?_
      rw [ndiv_nI (k := 8) rfl (by decide) (by omega)]
      show pl _ _ _ (_, [(0, .ref on)], [.int (nI (((L - (pdN pc)) - 8) / 8)), .int (nI np)], M10) _
      by_cases hb56 : np ≤ ((L - (pdN pc)) - 8) / 8
      · skip
        refine ps_if2 (S1 := (61, [(0, .ref on)], [], M10)) (S2 := (59, [], [], M10)) rfl rfl rfl (fun c_56 => ?_) (fun c_56 => ?_)
        rotate_left
        · exact absurd ((le_nI31 (by omega) (by omega)).mpr hb56) (of_decide_eq_false c_56)
        refine ps_st (S' := (62, [(0, .ref on)], [.ref on], M10)) rfl rfl rfl ?_
        refine ps_st (S' := (63, [(0, .ref on)], [.ref on, .ref on], M10)) rfl rfl rfl ?_
        refine ps_get (S' := (66, [(0, .ref on)], [.int (nI np), .ref on], M10)) rfl h11 rfl rfl ?_
        refine ps_st (S' := (67, [(0, .ref on)], [.int 1, .int (nI np), .ref on], M10)) rfl rfl rfl ?_
        refine ps_st (S' := (68, [(0, .ref on)], [.int ((nI np) + 1), .ref on], M10)) rfl rfl rfl ?_
        rw [nI_add1 (p := np) (k := 1) (x := 1) rfl (by omega)]
        show pl _ _ _ (_, [(0, .ref on)], [.int (nI (np + 1)), .ref on], M10) _
        refine ps_put (l' := [.ref b, .int (nI cb), .int (nI L), .int 171, .int 1, .int (nI np), .int 0, .int 0, .int (nI (np + 1)), .int (nI pc), .int y10, .int (nI (pdN pc))]) rfl h11 rfl rfl (fun M17 h18 f19 z20 => ?_)
        have h21 := (f19 b (ob_ne h14 h11 (by decide))).trans h14
        have h22 := (f19 da (Ne.symm (ob_ar h11 h15))).trans h15
        have hF23 := hF16.up (by simp) f19 z20
        show pl _ _ _ (71, [(0, .ref on)], [], M17) _
        refine ps_st (S' := (72, [(0, .ref on)], [.ref on], M17)) rfl rfl rfl ?_
        refine ps_st (S' := (73, [(0, .ref on)], [.ref on, .ref on], M17)) rfl rfl rfl ?_
        refine ps_get (S' := (76, [(0, .ref on)], [.int (nI (pdN pc)), .ref on], M17)) rfl h18 rfl rfl ?_
        refine ps_st (S' := (78, [(0, .ref on)], [.int 8, .int (nI (pdN pc)), .ref on], M17)) rfl rfl rfl ?_
        refine ps_st (S' := (79, [(0, .ref on)], [.int ((nI (pdN pc)) + 8), .ref on], M17)) rfl rfl rfl ?_
        rw [nI_add1 (p := pdN pc) (k := 8) (x := 8) rfl (by omega)]
        show pl _ _ _ (_, [(0, .ref on)], [.int (nI (pdN pc + 8)), .ref on], M17) _
        refine ps_st (S' := (81, [(0, .ref on)], [.int 8, .int (nI (pdN pc + 8)), .ref on], M17)) rfl rfl rfl ?_
        refine ps_st (S' := (82, [(0, .ref on)], [.ref on, .int 8, .int (nI (pdN pc + 8)), .ref on], M17)) rfl rfl rfl ?_
        refine ps_get (S' := (85, [(0, .ref on)], [.int (nI np), .int 8, .int (nI (pdN pc + 8)), .ref on], M17)) rfl h18 rfl rfl ?_
        refine ps_st (S' := (86, [(0, .ref on)], [.int (8 * (nI np)), .int (nI (pdN pc + 8)), .ref on], M17)) rfl rfl rfl ?_
        rw [nI_mul1 (p := 8) (k := np) (x := 8) (y := (nI np)) rfl rfl (by omega)]
        show pl _ _ _ (_, [(0, .ref on)], [.int (nI (8 * np)), .int (nI (pdN pc + 8)), .ref on], M17) _
        refine ps_st (S' := (87, [(0, .ref on)], [.int ((nI (pdN pc + 8)) + (nI (8 * np))), .ref on], M17)) rfl rfl rfl ?_
        rw [nI_add1 (p := pdN pc + 8) (k := 8 * np) (x := (nI (8 * np))) rfl (by omega)]
        show pl _ _ _ (_, [(0, .ref on)], [.int (nI (pdN pc + 8 + 8 * np)), .ref on], M17) _
        refine ps_st (S' := (88, [(0, .ref on)], [.ref on, .int (nI (pdN pc + 8 + 8 * np)), .ref on], M17)) rfl rfl rfl ?_
        refine ps_get (S' := (91, [(0, .ref on)], [.int (nI pc), .int (nI (pdN pc + 8 + 8 * np)), .ref on], M17)) rfl h18 rfl rfl ?_
        refine ps_st (S' := (92, [(0, .ref on)], [.int ((nI (pdN pc + 8 + 8 * np)) - (nI pc)), .ref on], M17)) rfl rfl rfl ?_
        rw [nI_sub1 (p := pdN pc + 8 + 8 * np) (k := pc) (x := (nI pc)) rfl (by omega) (by omega)]
        show pl _ _ _ (_, [(0, .ref on)], [.int (nI ((pdN pc + 8 + 8 * np) - pc)), .ref on], M17) _
        refine ps_put (l' := [.ref b, .int (nI cb), .int (nI L), .int 171, .int (nI ((pdN pc + 8 + 8 * np) - pc)), .int (nI np), .int 0, .int 0, .int (nI (np + 1)), .int (nI pc), .int y10, .int (nI (pdN pc))]) rfl h18 rfl rfl (fun M24 h25 f26 z27 => ?_)
        have h28 := (f26 b (ob_ne h21 h18 (by decide))).trans h21
        have h29 := (f26 da (Ne.symm (ob_ar h18 h22))).trans h22
        have hF30 := hF23.up (by simp) f26 z27
        show pl _ _ _ (95, [(0, .ref on)], [], M24) _
        refine ps_st (S' := (96, [(0, .ref on)], [.int 2], M24)) rfl rfl rfl ?_
        refine ps_st (S' := (97, [(0, .ref on), (1, .int 2)], [], M24)) rfl rfl rfl ?_
        exact (LL kf) (2) (np) M24 h25 h28 h29 hF30 (hnp) (by omega) (by omega) (by rw [show np + 1 - 2 = np - 1 by omega])
      · skip
        refine ps_if2 (S1 := (61, [(0, .ref on)], [], M10)) (S2 := (59, [], [], M10)) rfl rfl rfl (fun c_56 => ?_) (fun c_56 => ?_)
        · exact absurd (of_decide_eq_true c_56) (fun h9 => hb56 ((le_nI31 (by omega) (by omega)).mp h9))
        refine ps_st (S' := (60, [], [.int 0], M10)) rfl rfl rfl ?_
        exact ps_ret rfl rfl (Or.inr ⟨_, _, _, _, by
            unfold lkS
            rw [← hnp, if_neg (by omega), if_pos (by omega)], rfl, h11, hF16⟩)
  · have c_11 : ¬ (8 ≤ ((nI L) - (nI (pdN pc)))) := of_decide_eq_false c_11
    have n_11 : ¬ (8 + (pdN pc) ≤ L) := fun h8 => c_11 ((le_sub1 (e := L) (p := pdN pc) (k := 8) (by omega) (by omega) (by omega)).mpr h8)
    refine ps_st (S' := (15, [(0, .ref on)], [.int 0], M)) rfl rfl rfl ?_
    exact ps_ret rfl rfl (Or.inr ⟨_, _, _, _, by
        unfold lkS
        rw [if_pos (by omega)], rfl, h_on, hF⟩)
set_option maxHeartbeats 1000000 in
theorem dk_isSwitchTaken {g : xe_G} {M : mi_H} {f : Nat → Int32} {n on b da cb L : Nat} {y10 y11 : Int32} {pc o : Nat} (h_on : M.1 on = some (ob 5 [.ref b, .int (nI cb), .int (nI L), .int (nI o), .int 1, .int 0, .int 0, .int 0, .int 0, .int (nI pc), .int y10, .int y11])) (h_b : M.1 b = some (ob 1 [.ref da])) (h_da : M.1 da = some (ar .byte n f)) (hn : n ≤ 65540) (hcl : cb + L + 4 ≤ n) (hpl : pc < L) (ho : o = 170 ∨ o = 171) : pt (mT g) 96 [.ref on] M (fun v M' => (∃ (x : Nat × Int32 × Int32 × Nat), (swS f cb L pc o = some x) ∧ (x.2.2.2 < 131072 ∧ x.1 < 131072) ∧ v = some (.int 1) ∧ M'.1 on = some (ob 5 [.ref b, .int (nI cb), .int (nI L), .int (nI o), .int (nI x.1), .int x.2.1, .int x.2.2.1, .int 0, .int (nI x.2.2.2), .int (nI pc), .int y10, .int (nI (pdN pc))]) ∧ fm [on] M M') ∨ (∃ (z4 z5 z6 z8 z11 : Int32), (swS f cb L pc o = none) ∧ v = some (.int 0) ∧ M'.1 on = some (ob 5 [.ref b, .int (nI cb), .int (nI L), .int (nI o), .int z4, .int z5, .int z6, .int 0, .int z8, .int (nI pc), .int y10, .int z11]) ∧ fm [on] M M')) := by
  refine pt_in (b := mb_96 g) rfl (fun kf => ?_)
  show pl (mT g) kf (mb_96 g).2 (0, [(0, .ref on)], [], M) _
  have hF : fm [on] M M := fm.rf
  have hpd := pd_le pc
  have LL : ∀ (kf : Nat), (∀ (i : Nat) (M1 : mi_H), (M1.1 on = some (ob 5 [.ref b, .int (nI cb), .int (nI L), .int (nI o), .int 1, .int 0, .int 0, .int 0, .int 0, .int (nI pc), .int y10, .int (nI (pdN pc))])) → (M1.1 b = some (ob 1 [.ref da])) → (M1.1 da = some (ar .byte n f)) → (fm [on] M M1) → (pc + 1 ≤ i ∧ i ≤ pdN pc) → (zrN f cb (pdN pc - i) i = zrN f cb (pdN pc - (pc + 1)) (pc + 1)) →  pl (mT g) kf (mb_96 g).2 (20, [(0, .ref on), (1, .int (nI i))], [], M1) (fun v M' => (∃ (x : Nat × Int32 × Int32 × Nat), (swS f cb L pc o = some x) ∧ (x.2.2.2 < 131072 ∧ x.1 < 131072) ∧ v = some (.int 1) ∧ M'.1 on = some (ob 5 [.ref b, .int (nI cb), .int (nI L), .int (nI o), .int (nI x.1), .int x.2.1, .int x.2.2.1, .int 0, .int (nI x.2.2.2), .int (nI pc), .int y10, .int (nI (pdN pc))]) ∧ fm [on] M M') ∨ (∃ (z4 z5 z6 z8 z11 : Int32), (swS f cb L pc o = none) ∧ v = some (.int 0) ∧ M'.1 on = some (ob 5 [.ref b, .int (nI cb), .int (nI L), .int (nI o), .int z4, .int z5, .int z6, .int 0, .int z8, .int (nI pc), .int y10, .int z11]) ∧ fm [on] M M'))) := by
    intro kf
    induction kf with
    | zero => exact (by intros; exact pl_0)
    | succ kf ih =>
      intro i M1 hl_on hl_b hl_da hF1 hi hz
      refine ps_st1 (S' := (21, [(0, .ref on), (1, .int (nI i))], [.int (nI i)], M1)) rfl rfl rfl ?_
      refine ps_st (S' := (22, [(0, .ref on), (1, .int (nI i))], [.ref on, .int (nI i)], M1)) rfl rfl rfl ?_
      refine ps_get (S' := (25, [(0, .ref on), (1, .int (nI i))], [.int (nI (pdN pc)), .int (nI i)], M1)) rfl hl_on rfl rfl ?_
      refine ps_if2 (S1 := (44, [(0, .ref on), (1, .int (nI i))], [], M1)) (S2 := (28, [(0, .ref on), (1, .int (nI i))], [], M1)) rfl rfl rfl (fun c_25 => ?_) (fun c_25 => ?_)
      · have c_25 : (nI (pdN pc)) ≤ (nI i) := of_decide_eq_true c_25
        have n_25 : pdN pc ≤ i := (le_nI (p := pdN pc) (n := i) (by omega) (by omega)).mp c_25
        refine ps_st (S' := (45, [(0, .ref on), (1, .int (nI i))], [.ref on], M1)) rfl rfl rfl ?_
        refine ps_get (S' := (48, [(0, .ref on), (1, .int (nI i))], [.int (nI o)], M1)) rfl hl_on rfl rfl ?_
        refine ps_st (S' := (51, [(0, .ref on), (1, .int (nI i))], [.int 170, .int (nI o)], M1)) rfl rfl rfl ?_
        refine ps_if2 (S1 := (61, [(0, .ref on), (1, .int (nI i))], [], M1)) (S2 := (54, [(0, .ref on), (1, .int (nI i))], [], M1)) rfl rfl rfl (fun c_51 => ?_) (fun c_51 => ?_)
        · have c_51 : ¬ (nI o) = 170 := of_decide_eq_true c_51
          have n_51 : ¬ (o = 170) := fun h9 => c_51 ((eq_nI (p := o) (n := 170) (by omega) (by decide)).mpr h9)
          have eo : o = 171 := by omega
          subst eo
          refine ps_st (S' := (62, [(0, .ref on), (1, .int (nI i))], [.ref on], M1)) rfl rfl rfl ?_
          refine pl_call (a := [.ref on]) (rest := []) rfl rfl rfl (dk_isLookupTaken (f := f) (n := n) (on := on) (b := b) (da := da) (cb := cb) (L := L) (y10 := y10) (pc := pc) hl_on hl_b hl_da (hn) (hcl) (hpl)) (fun v1 M2 q3 => ?_)
          rcases q3 with q3 | q3
          · skip
            obtain ⟨x4, q62_s, q62_l, rfl, h5, f6⟩ := q3
            have h8 := (f6.1 b (nin1 (ob_ne hl_b hl_on (by decide)))).trans hl_b
            have h9 := (f6.1 da (nin1 (Ne.symm (ob_ar hl_on hl_da)))).trans hl_da
            have hF10 := hF1.tr f6 (by simp)
            show pl _ _ _ (65, [], [.int 1], M2) _
            exact ps_ret rfl rfl (Or.inl ⟨x4, by
                unfold swS
                rw [if_neg (by rw [← hz, show pdN pc - i = 0 by omega]; exact Nat.one_ne_zero), if_neg (by decide)]
                exact q62_s, q62_l, rfl, h5, hF10⟩)
          · skip
            obtain ⟨z411, z512, z613, z814, q62_s, rfl, h15, f16⟩ := q3
            have h18 := (f16.1 b (nin1 (ob_ne hl_b hl_on (by decide)))).trans hl_b
            have h19 := (f16.1 da (nin1 (Ne.symm (ob_ar hl_on hl_da)))).trans hl_da
            have hF20 := hF1.tr f16 (by simp)
            show pl _ _ _ (65, [], [.int 0], M2) _
            exact ps_ret rfl rfl (Or.inr ⟨_, _, _, _, _, by
                unfold swS
                rw [if_neg (by rw [← hz, show pdN pc - i = 0 by omega]; exact Nat.one_ne_zero), if_neg (by decide)]
                exact q62_s, rfl, h15, hF20⟩)
        · have c_51 : ¬ (¬ (nI o) = 170) := of_decide_eq_false c_51
          have n_51 : o = 170 := (eq_nI (p := o) (n := 170) (by omega) (by decide)).mp (Decidable.not_not.mp c_51)
          have eo : o = 170 := by omega
          subst eo
          refine ps_st (S' := (55, [(0, .ref on), (1, .int (nI i))], [.ref on], M1)) rfl rfl rfl ?_
          refine pl_call (a := [.ref on]) (rest := []) rfl rfl rfl (dk_isTableTaken (f := f) (n := n) (on := on) (b := b) (da := da) (cb := cb) (L := L) (y10 := y10) (pc := pc) hl_on hl_b hl_da (hn) (hcl) (hpl)) (fun v21 M22 q23 => ?_)
          rcases q23 with q23 | q23
          · skip
            obtain ⟨x24, q55_s, q55_l, rfl, h25, f26⟩ := q23
            have h28 := (f26.1 b (nin1 (ob_ne hl_b hl_on (by decide)))).trans hl_b
            have h29 := (f26.1 da (nin1 (Ne.symm (ob_ar hl_on hl_da)))).trans hl_da
            have hF30 := hF1.tr f26 (by simp)
            show pl _ _ _ (58, [(0, .ref on), (1, .int (nI i))], [.int 1], M22) _
            refine ps_st (S' := (65, [], [.int 1], M22)) rfl rfl rfl ?_
            exact ps_ret rfl rfl (Or.inl ⟨x24, by
                unfold swS
                rw [if_neg (by rw [← hz, show pdN pc - i = 0 by omega]; exact Nat.one_ne_zero), if_pos rfl]
                exact q55_s, q55_l, rfl, h25, hF30⟩)
          · skip
            obtain ⟨z431, z532, z633, z834, q55_s, rfl, h35, f36⟩ := q23
            have h38 := (f36.1 b (nin1 (ob_ne hl_b hl_on (by decide)))).trans hl_b
            have h39 := (f36.1 da (nin1 (Ne.symm (ob_ar hl_on hl_da)))).trans hl_da
            have hF40 := hF1.tr f36 (by simp)
            show pl _ _ _ (58, [(0, .ref on), (1, .int (nI i))], [.int 0], M22) _
            refine ps_st (S' := (65, [], [.int 0], M22)) rfl rfl rfl ?_
            exact ps_ret rfl rfl (Or.inr ⟨_, _, _, _, _, by
                unfold swS
                rw [if_neg (by rw [← hz, show pdN pc - i = 0 by omega]; exact Nat.one_ne_zero), if_pos rfl]
                exact q55_s, rfl, h35, hF40⟩)
      · have c_25 : ¬ ((nI (pdN pc)) ≤ (nI i)) := of_decide_eq_false c_25
        have n_25 : ¬ (pdN pc ≤ i) := fun h9 => c_25 ((le_nI (p := pdN pc) (n := i) (by omega) (by omega)).mpr h9)
        refine ps_st (S' := (29, [(0, .ref on), (1, .int (nI i))], [.ref on], M1)) rfl rfl rfl ?_
        refine ps_st (S' := (30, [(0, .ref on), (1, .int (nI i))], [.int (nI i), .ref on], M1)) rfl rfl rfl ?_
        refine pl_call (a := [.ref on, .int (nI i)]) (rest := []) rfl rfl rfl (dk_iu1 (f := f) (n := n) (on := on) (b := b) (da := da) (cb := cb) (L := L) (y3 := (nI o)) (y4 := 1) (y5 := 0) (y6 := 0) (y7 := 0) (y8 := 0) (y9 := (nI pc)) (y10 := y10) (y11 := (nI (pdN pc))) (a := i) hl_on hl_b hl_da (hn) (by omega)) (fun v41 M42 q43 => ?_)
        obtain ⟨rfl, rfl⟩ := q43
        show pl _ _ _ (33, [(0, .ref on), (1, .int (nI i))], [.int (nI (by1 f (cb + i)))], M1) _
        have hb_30 := by1_lt f (cb + i)
        refine ps_if (S1 := (38, [(0, .ref on), (1, .int (nI i))], [], M1)) (S2 := (36, [(0, .ref on), (1, .int (nI i))], [], M1)) rfl rfl rfl (fun c_33 => ?_) (fun c_33 => ?_)
        · have c_33 : (nI (by1 f (cb + i))) = 0 := of_decide_eq_true c_33
          have n_33 : by1 f (cb + i) = 0 := (eq_nI (p := by1 f (cb + i)) (n := 0) (Nat.lt_trans (by1_lt _ _) (by decide)) (by decide)).mp c_33
          refine ps_st (S' := (41, [(1, .int ((nI i) + 1)), (0, .ref on)], [], M1)) rfl rfl rfl ?_
          rw [nI_add1 (p := i) (k := 1) (x := 1) rfl (by omega)]
          show pl _ _ _ (_, [(1, .int (nI (i + 1))), (0, .ref on)], [], M1) _
          refine ps_st (S' := (20, [(0, .ref on), (1, .int (nI (i + 1)))], [], M1)) rfl rfl rfl ?_
          exact ih (i + 1) M1 hl_on hl_b hl_da hF1 (by omega) (by
              rw [← hz, zrN_st (c := pdN pc) (i := i) (j := i) (by omega), if_pos (by omega)])
        · have c_33 : ¬ ((nI (by1 f (cb + i))) = 0) := of_decide_eq_false c_33
          have n_33 : ¬ (by1 f (cb + i) = 0) := fun h9 => c_33 ((eq_nI (p := by1 f (cb + i)) (n := 0) (Nat.lt_trans (by1_lt _ _) (by decide)) (by decide)).mpr h9)
          refine ps_st (S' := (37, [(0, .ref on), (1, .int (nI i))], [.int 0], M1)) rfl rfl rfl ?_
          exact ps_ret rfl rfl (Or.inr ⟨_, _, _, _, _, by
              unfold swS
              rw [if_pos (by rw [← hz, zrN_st (c := pdN pc) (i := i) (j := i) (by omega), if_neg (by omega)])], rfl, hl_on, hF1⟩)
  refine ps_st (S' := (1, [(0, .ref on)], [.ref on], M)) rfl rfl rfl ?_
  refine ps_st (S' := (2, [(0, .ref on)], [.ref on, .ref on], M)) rfl rfl rfl ?_
  refine ps_get (S' := (5, [(0, .ref on)], [.int (nI pc), .ref on], M)) rfl h_on rfl rfl ?_
  refine ps_st (S' := (7, [(0, .ref on)], [.int (-4), .int (nI pc), .ref on], M)) rfl rfl rfl ?_
  refine ps_st (S' := (8, [(0, .ref on)], [.int ((nI pc) &&& (-4)), .ref on], M)) rfl rfl rfl ?_
  rw [nI_an (p := pc) (k := 4294967292) (x := (-4)) rfl]
  show pl _ _ _ (_, [(0, .ref on)], [.int (nI (aN pc 4294967292)), .ref on], M) _
  rw [an_m4 (by omega)]
  show pl _ _ _ (8, [(0, .ref on)], [.int (nI (pc / 4 * 4)), .ref on], M) _
  refine ps_st (S' := (9, [(0, .ref on)], [.int 4, .int (nI (pc / 4 * 4)), .ref on], M)) rfl rfl rfl ?_
  refine ps_st (S' := (10, [(0, .ref on)], [.int ((nI (pc / 4 * 4)) + 4), .ref on], M)) rfl rfl rfl ?_
  rw [nI_add1 (p := pc / 4 * 4) (k := 4) (x := 4) rfl (by omega)]
  show pl _ _ _ (_, [(0, .ref on)], [.int (nI (pc / 4 * 4 + 4)), .ref on], M) _
  show pl _ _ _ (10, [(0, .ref on)], [.int (nI (pdN pc)), .ref on], M) _
  refine ps_put (l' := [.ref b, .int (nI cb), .int (nI L), .int (nI o), .int 1, .int 0, .int 0, .int 0, .int 0, .int (nI pc), .int y10, .int (nI (pdN pc))]) rfl h_on rfl rfl (fun M44 h45 f46 z47 => ?_)
  have h48 := (f46 b (ob_ne h_b h_on (by decide))).trans h_b
  have h49 := (f46 da (Ne.symm (ob_ar h_on h_da))).trans h_da
  have hF50 := hF.up (by simp) f46 z47
  show pl _ _ _ (13, [(0, .ref on)], [], M44) _
  refine ps_st (S' := (14, [(0, .ref on)], [.ref on], M44)) rfl rfl rfl ?_
  refine ps_get (S' := (17, [(0, .ref on)], [.int (nI pc)], M44)) rfl h45 rfl rfl ?_
  refine ps_st (S' := (18, [(0, .ref on)], [.int 1, .int (nI pc)], M44)) rfl rfl rfl ?_
  refine ps_st (S' := (19, [(0, .ref on)], [.int ((nI pc) + 1)], M44)) rfl rfl rfl ?_
  rw [nI_add1 (p := pc) (k := 1) (x := 1) rfl (by omega)]
  show pl _ _ _ (_, [(0, .ref on)], [.int (nI (pc + 1))], M44) _
  refine ps_st (S' := (20, [(0, .ref on), (1, .int (nI (pc + 1)))], [], M44)) rfl rfl rfl ?_
  exact (LL kf) (pc + 1) M44 h45 h48 h49 hF50 (by omega) (rfl)
set_option maxHeartbeats 1000000 in
theorem dk_isTakenApart {g : xe_G} {M : mi_H} {f : Nat → Int32} {n on b da cb L : Nat} {y3 y4 y5 y6 y7 y8 y9 y10 y11 : Int32} {pc : Nat} (h_on : M.1 on = some (ob 5 [.ref b, .int (nI cb), .int (nI L), .int y3, .int y4, .int y5, .int y6, .int y7, .int y8, .int y9, .int y10, .int y11])) (h_b : M.1 b = some (ob 1 [.ref da])) (h_da : M.1 da = some (ar .byte n f)) (hn : n ≤ 65540) (hcl : cb + L + 4 ≤ n) (hpl : pc < L) : pt (mT g) 98 [.ref on, .int (nI pc)] M (fun v M' => (∃ (x : IC), (inC f cb L pc = some x) ∧ v = some (.int 1) ∧ M'.1 on = some (ob 5 [.ref b, .int (nI cb), .int (nI L), .int (nI x.1), .int (nI x.2.1), .int x.2.2.1, .int x.2.2.2.1, .int (nI x.2.2.2.2.1), .int (nI x.2.2.2.2.2.1), .int (nI pc), .int (x.2.2.2.2.2.2.1.getD y10), .int ((x.2.2.2.2.2.2.2.map nI).getD y11)]) ∧ fm [on] M M') ∨ (∃ (z3 z4 z5 z6 z7 z8 z9 z10 z11 : Int32), (inC f cb L pc = none) ∧ v = some (.int 0) ∧ M'.1 on = some (ob 5 [.ref b, .int (nI cb), .int (nI L), .int z3, .int z4, .int z5, .int z6, .int z7, .int z8, .int z9, .int z10, .int z11]) ∧ fm [on] M M')) := by
  refine pt_in (b := mb_98 g) rfl (fun kf => ?_)
  show pl (mT g) kf (mb_98 g).2 (0, [(0, .ref on), (1, .int (nI pc))], [], M) _
  have hF : fm [on] M M := fm.rf
  have hpd := pd_le pc
  refine ps_st (S' := (1, [(0, .ref on), (1, .int (nI pc))], [.ref on], M)) rfl rfl rfl ?_
  refine ps_st (S' := (2, [(0, .ref on), (1, .int (nI pc))], [.int (nI pc), .ref on], M)) rfl rfl rfl ?_
  refine ps_put (l' := [.ref b, .int (nI cb), .int (nI L), .int y3, .int y4, .int y5, .int y6, .int y7, .int y8, .int (nI pc), .int y10, .int y11]) rfl h_on rfl rfl (fun M1 h2 f3 z4 => ?_)
  have h5 := (f3 b (ob_ne h_b h_on (by decide))).trans h_b
  have h6 := (f3 da (Ne.symm (ob_ar h_on h_da))).trans h_da
  have hF7 := hF.up (by simp) f3 z4
  show pl _ _ _ (5, [(0, .ref on), (1, .int (nI pc))], [], M1) _
  refine ps_st (S' := (6, [(0, .ref on), (1, .int (nI pc))], [.ref on], M1)) rfl rfl rfl ?_
  refine ps_st (S' := (7, [(0, .ref on), (1, .int (nI pc))], [.ref on, .ref on], M1)) rfl rfl rfl ?_
  refine ps_st (S' := (8, [(0, .ref on), (1, .int (nI pc))], [.int (nI pc), .ref on, .ref on], M1)) rfl rfl rfl ?_
  refine pl_call (a := [.ref on, .int (nI pc)]) (rest := [.ref on]) rfl rfl rfl (dk_iu1 (f := f) (n := n) (on := on) (b := b) (da := da) (cb := cb) (L := L) (y3 := y3) (y4 := y4) (y5 := y5) (y6 := y6) (y7 := y7) (y8 := y8) (y9 := (nI pc)) (y10 := y10) (y11 := y11) (a := pc) h2 h5 h6 (hn) (by omega)) (fun v8 M9 q10 => ?_)
  obtain ⟨rfl, rfl⟩ := q10
  show pl _ _ _ (11, [(0, .ref on), (1, .int (nI pc))], [.int (nI (by1 f (cb + pc))), .ref on], M1) _
  have hb_8 := by1_lt f (cb + pc)
  refine ps_put (l' := [.ref b, .int (nI cb), .int (nI L), .int (nI (by1 f (cb + pc))), .int y4, .int y5, .int y6, .int y7, .int y8, .int (nI pc), .int y10, .int y11]) rfl h2 rfl rfl (fun M11 h12 f13 z14 => ?_)
  have h15 := (f13 b (ob_ne h5 h2 (by decide))).trans h5
  have h16 := (f13 da (Ne.symm (ob_ar h2 h6))).trans h6
  have hF17 := hF7.up (by simp) f13 z14
  show pl _ _ _ (14, [(0, .ref on), (1, .int (nI pc))], [], M11) _
  refine ps_st (S' := (15, [(0, .ref on), (1, .int (nI pc))], [.ref on], M11)) rfl rfl rfl ?_
  refine ps_st (S' := (16, [(0, .ref on), (1, .int (nI pc))], [.int 1, .ref on], M11)) rfl rfl rfl ?_
  refine ps_put (l' := [.ref b, .int (nI cb), .int (nI L), .int (nI (by1 f (cb + pc))), .int 1, .int y5, .int y6, .int y7, .int y8, .int (nI pc), .int y10, .int y11]) rfl h12 rfl rfl (fun M18 h19 f20 z21 => ?_)
  have h22 := (f20 b (ob_ne h15 h12 (by decide))).trans h15
  have h23 := (f20 da (Ne.symm (ob_ar h12 h16))).trans h16
  have hF24 := hF17.up (by simp) f20 z21
  show pl _ _ _ (19, [(0, .ref on), (1, .int (nI pc))], [], M18) _
  refine ps_st (S' := (20, [(0, .ref on), (1, .int (nI pc))], [.ref on], M18)) rfl rfl rfl ?_
  refine ps_st (S' := (21, [(0, .ref on), (1, .int (nI pc))], [.int 0, .ref on], M18)) rfl rfl rfl ?_
  refine ps_put (l' := [.ref b, .int (nI cb), .int (nI L), .int (nI (by1 f (cb + pc))), .int 1, .int 0, .int y6, .int y7, .int y8, .int (nI pc), .int y10, .int y11]) rfl h19 rfl rfl (fun M25 h26 f27 z28 => ?_)
  have h29 := (f27 b (ob_ne h22 h19 (by decide))).trans h22
  have h30 := (f27 da (Ne.symm (ob_ar h19 h23))).trans h23
  have hF31 := hF24.up (by simp) f27 z28
  show pl _ _ _ (24, [(0, .ref on), (1, .int (nI pc))], [], M25) _
  refine ps_st (S' := (25, [(0, .ref on), (1, .int (nI pc))], [.ref on], M25)) rfl rfl rfl ?_
  refine ps_st (S' := (26, [(0, .ref on), (1, .int (nI pc))], [.int 0, .ref on], M25)) rfl rfl rfl ?_
  refine ps_put (l' := [.ref b, .int (nI cb), .int (nI L), .int (nI (by1 f (cb + pc))), .int 1, .int 0, .int 0, .int y7, .int y8, .int (nI pc), .int y10, .int y11]) rfl h26 rfl rfl (fun M32 h33 f34 z35 => ?_)
  have h36 := (f34 b (ob_ne h29 h26 (by decide))).trans h29
  have h37 := (f34 da (Ne.symm (ob_ar h26 h30))).trans h30
  have hF38 := hF31.up (by simp) f34 z35
  show pl _ _ _ (29, [(0, .ref on), (1, .int (nI pc))], [], M32) _
  refine ps_st (S' := (30, [(0, .ref on), (1, .int (nI pc))], [.ref on], M32)) rfl rfl rfl ?_
  refine ps_st (S' := (31, [(0, .ref on), (1, .int (nI pc))], [.int 0, .ref on], M32)) rfl rfl rfl ?_
  refine ps_put (l' := [.ref b, .int (nI cb), .int (nI L), .int (nI (by1 f (cb + pc))), .int 1, .int 0, .int 0, .int 0, .int y8, .int (nI pc), .int y10, .int y11]) rfl h33 rfl rfl (fun M39 h40 f41 z42 => ?_)
  have h43 := (f41 b (ob_ne h36 h33 (by decide))).trans h36
  have h44 := (f41 da (Ne.symm (ob_ar h33 h37))).trans h37
  have hF45 := hF38.up (by simp) f41 z42
  show pl _ _ _ (34, [(0, .ref on), (1, .int (nI pc))], [], M39) _
  refine ps_st (S' := (35, [(0, .ref on), (1, .int (nI pc))], [.ref on], M39)) rfl rfl rfl ?_
  refine ps_st (S' := (36, [(0, .ref on), (1, .int (nI pc))], [.int 0, .ref on], M39)) rfl rfl rfl ?_
  refine ps_put (l' := [.ref b, .int (nI cb), .int (nI L), .int (nI (by1 f (cb + pc))), .int 1, .int 0, .int 0, .int 0, .int 0, .int (nI pc), .int y10, .int y11]) rfl h40 rfl rfl (fun M46 h47 f48 z49 => ?_)
  have h50 := (f48 b (ob_ne h43 h40 (by decide))).trans h43
  have h51 := (f48 da (Ne.symm (ob_ar h40 h44))).trans h44
  have hF52 := hF45.up (by simp) f48 z49
  show pl _ _ _ (39, [(0, .ref on), (1, .int (nI pc))], [], M46) _
  refine ps_st (S' := (40, [(0, .ref on), (1, .int (nI pc))], [.int (nI pc)], M46)) rfl rfl rfl ?_
  refine ps_if (S1 := (61, [], [], M46)) (S2 := (43, [(0, .ref on), (1, .int (nI pc))], [], M46)) rfl rfl rfl (fun c_40 => ?_) (fun c_40 => ?_)
  · exact absurd (of_decide_eq_true c_40) (nI_n0 (by omega))
  refine ps_st (S' := (44, [(0, .ref on), (1, .int (nI pc))], [.int (nI pc)], M46)) rfl rfl rfl ?_
  refine ps_st (S' := (45, [(0, .ref on), (1, .int (nI pc))], [.ref on, .int (nI pc)], M46)) rfl rfl rfl ?_
  refine ps_get (S' := (48, [(0, .ref on), (1, .int (nI pc))], [.int (nI L), .int (nI pc)], M46)) rfl h47 rfl rfl ?_
  refine ps_if2 (S1 := (61, [], [], M46)) (S2 := (51, [(0, .ref on), (1, .int (nI pc))], [], M46)) rfl rfl rfl (fun c_48 => ?_) (fun c_48 => ?_)
  · have c_48 : (nI L) ≤ (nI pc) := of_decide_eq_true c_48
    have n_48 : L ≤ pc := (le_nI (p := L) (n := pc) (by omega) (by omega)).mp c_48
    refine ps_st (S' := (62, [], [.int 0], M46)) rfl rfl rfl ?_
    exact ps_ret rfl rfl (Or.inr ⟨_, _, _, _, _, _, _, _, _, by
        unfold inC
        rw [if_pos (by omega)], rfl, h47, hF52⟩)
  · have c_48 : ¬ ((nI L) ≤ (nI pc)) := of_decide_eq_false c_48
    have n_48 : ¬ (L ≤ pc) := fun h9 => c_48 ((le_nI (p := L) (n := pc) (by omega) (by omega)).mpr h9)
    refine ps_st (S' := (52, [(0, .ref on), (1, .int (nI pc))], [.ref on], M46)) rfl rfl rfl ?_
    refine ps_get (S' := (55, [(0, .ref on), (1, .int (nI pc))], [.int (nI (by1 f (cb + pc)))], M46)) rfl h47 rfl rfl ?_
    refine ps_st (S' := (58, [(0, .ref on), (1, .int (nI pc))], [.int 201, .int (nI (by1 f (cb + pc)))], M46)) rfl rfl rfl ?_
    refine ps_if2 (S1 := (63, [(0, .ref on), (1, .int (nI pc))], [], M46)) (S2 := (61, [], [], M46)) rfl rfl rfl (fun c_58 => ?_) (fun c_58 => ?_)
    · have c_58 : (nI (by1 f (cb + pc))) ≤ 201 := of_decide_eq_true c_58
      have n_58 : by1 f (cb + pc) ≤ 201 := (le_nI (p := by1 f (cb + pc)) (n := 201) (Nat.lt_trans (by1_lt _ _) (by decide)) (by decide)).mp c_58
      refine ps_st (S' := (64, [(0, .ref on), (1, .int (nI pc))], [.ref on], M46)) rfl rfl rfl ?_
      refine pl_call (a := [.ref on]) (rest := []) rfl rfl rfl (dk_isSwitch (on := on) (b := b) (cb := cb) (L := L) (y4 := 1) (y5 := 0) (y6 := 0) (y7 := 0) (y8 := 0) (y9 := (nI pc)) (y10 := y10) (y11 := y11) (o := (by1 f (cb + pc))) h47 (by omega)) (fun v53 M54 q55 => ?_)
      obtain ⟨rfl, rfl⟩ := q55
      show pl _ _ _ (67, [(0, .ref on), (1, .int (nI pc))], [.int (nI (swN (by1 f (cb + pc))))], M46) _
      have hsw_64 := swO_le (by1 f (cb + pc))
      refine ps_if (S1 := (75, [(0, .ref on), (1, .int (nI pc))], [], M46)) (S2 := (70, [(0, .ref on), (1, .int (nI pc))], [], M46)) rfl rfl rfl (fun c_67 => ?_) (fun c_67 => ?_)
      · have c_67 : (nI (swN (by1 f (cb + pc)))) = 0 := of_decide_eq_true c_67
        have n_67 : swN (by1 f (cb + pc)) = 0 := (eq_nI (p := swN (by1 f (cb + pc))) (n := 0) (by omega) (by decide)).mp c_67
        refine ps_st (S' := (76, [(0, .ref on), (1, .int (nI pc))], [.ref on], M46)) rfl rfl rfl ?_
        refine ps_get (S' := (79, [(0, .ref on), (1, .int (nI pc))], [.int (nI (by1 f (cb + pc)))], M46)) rfl h47 rfl rfl ?_
        refine ps_st (S' := (82, [(0, .ref on), (1, .int (nI pc))], [.int 196, .int (nI (by1 f (cb + pc)))], M46)) rfl rfl rfl ?_
        refine ps_if2 (S1 := (90, [(0, .ref on), (1, .int (nI pc))], [], M46)) (S2 := (85, [(0, .ref on), (1, .int (nI pc))], [], M46)) rfl rfl rfl (fun c_82 => ?_) (fun c_82 => ?_)
        · have c_82 : ¬ (nI (by1 f (cb + pc))) = 196 := of_decide_eq_true c_82
          have n_82 : ¬ (by1 f (cb + pc) = 196) := fun h9 => c_82 ((eq_nI (p := by1 f (cb + pc)) (n := 196) (Nat.lt_trans (by1_lt _ _) (by decide)) (by decide)).mpr h9)
          refine ps_st (S' := (91, [(0, .ref on), (1, .int (nI pc))], [.ref on], M46)) rfl rfl rfl ?_
          refine ps_st (S' := (92, [(0, .ref on), (1, .int (nI pc))], [.ref on, .ref on], M46)) rfl rfl rfl ?_
          refine ps_get (S' := (95, [(0, .ref on), (1, .int (nI pc))], [.int (nI (by1 f (cb + pc))), .ref on], M46)) rfl h47 rfl rfl ?_
          refine pl_call (a := [.int (nI (by1 f (cb + pc)))]) (rest := [.ref on]) rfl rfl rfl (dk_sizeOf (o := (by1 f (cb + pc))) (by omega)) (fun v56 M57 q58 => ?_)
          obtain ⟨rfl, rfl⟩ := q58
          show pl _ _ _ (98, [(0, .ref on), (1, .int (nI pc))], [.int (nI (szO (by1 f (cb + pc)))), .ref on], M46) _
          have hz8 := szO_le (by1 f (cb + pc))
          refine ps_put (l' := [.ref b, .int (nI cb), .int (nI L), .int (nI (by1 f (cb + pc))), .int (nI (szO (by1 f (cb + pc)))), .int 0, .int 0, .int 0, .int 0, .int (nI pc), .int y10, .int y11]) rfl h47 rfl rfl (fun M59 h60 f61 z62 => ?_)
          have h63 := (f61 b (ob_ne h50 h47 (by decide))).trans h50
          have h64 := (f61 da (Ne.symm (ob_ar h47 h51))).trans h51
          have hF65 := hF52.up (by simp) f61 z62
          show pl _ _ _ (101, [(0, .ref on), (1, .int (nI pc))], [], M59) _
          refine ps_st (S' := (102, [(0, .ref on), (1, .int (nI pc))], [.ref on], M59)) rfl rfl rfl ?_
          refine ps_get (S' := (105, [(0, .ref on), (1, .int (nI pc))], [.int (nI (szO (by1 f (cb + pc))))], M59)) rfl h60 rfl rfl ?_
          refine ps_st (S' := (106, [(0, .ref on), (1, .int (nI pc))], [.ref on, .int (nI (szO (by1 f (cb + pc))))], M59)) rfl rfl rfl ?_
          refine ps_get (S' := (109, [(0, .ref on), (1, .int (nI pc))], [.int (nI L), .int (nI (szO (by1 f (cb + pc))))], M59)) rfl h60 rfl rfl ?_
          refine ps_st (S' := (110, [(0, .ref on), (1, .int (nI pc))], [.ref on, .int (nI L), .int (nI (szO (by1 f (cb + pc))))], M59)) rfl rfl rfl ?_
          refine ps_get (S' := (113, [(0, .ref on), (1, .int (nI pc))], [.int (nI pc), .int (nI L), .int (nI (szO (by1 f (cb + pc))))], M59)) rfl h60 rfl rfl ?_
          refine ps_st (S' := (114, [(0, .ref on), (1, .int (nI pc))], [.int ((nI L) - (nI pc)), .int (nI (szO (by1 f (cb + pc))))], M59)) rfl rfl rfl ?_
          refine ps_if2 (S1 := (128, [], [], M59)) (S2 := (117, [(0, .ref on), (1, .int (nI pc))], [], M59)) rfl rfl rfl (fun c_114 => ?_) (fun c_114 => ?_)
          · have c_114 : ((nI L) - (nI pc)) < (nI (szO (by1 f (cb + pc)))) := of_decide_eq_true c_114
            have n_114 : L < pc + (szO (by1 f (cb + pc))) := (sub_lt1 (e := L) (p := pc) (k := szO (by1 f (cb + pc))) (by omega) (by omega) (by omega)).mp c_114
            refine ps_st (S' := (129, [], [.int 0], M59)) rfl rfl rfl ?_
            exact ps_ret rfl rfl (Or.inr ⟨_, _, _, _, _, _, _, _, _, by
                unfold inC
                rw [if_neg (by omega), if_neg (show ¬ (by1 f (cb + pc) = 170 ∨ by1 f (cb + pc) = 171) from fun h9 => by unfold swN at n_67; rw [if_pos h9] at n_67; exact absurd n_67 (by decide)), if_neg (by omega), if_pos (by omega)], rfl, h60, hF65⟩)
          · have c_114 : ¬ (((nI L) - (nI pc)) < (nI (szO (by1 f (cb + pc))))) := of_decide_eq_false c_114
            have n_114 : ¬ (L < pc + (szO (by1 f (cb + pc)))) := fun h8 => c_114 ((sub_lt1 (e := L) (p := pc) (k := szO (by1 f (cb + pc))) (by omega) (by omega) (by omega)).mpr h8)
            refine ps_st (S' := (118, [(0, .ref on), (1, .int (nI pc))], [.ref on], M59)) rfl rfl rfl ?_
            refine pl_call (a := [.ref on]) (rest := []) rfl rfl rfl (dk_areOperandsTaken (f := f) (n := n) (on := on) (b := b) (da := da) (cb := cb) (L := L) (y10 := y10) (y11 := y11) (pc := pc) (o := (by1 f (cb + pc))) h60 h63 h64 (hn) (by omega) (hcl) (hpl) (by omega)) (fun v66 M67 q68 => ?_)
            rcases q68 with q68 | q68
            · skip
              obtain ⟨x69, q118_s, rfl, h70, f71⟩ := q68
              have h73 := (f71.1 b (nin1 (ob_ne h63 h60 (by decide)))).trans h63
              have h74 := (f71.1 da (nin1 (Ne.symm (ob_ar h60 h64)))).trans h64
              have hF75 := hF65.tr f71 (by simp)
              show pl _ _ _ (121, [(0, .ref on), (1, .int (nI pc))], [.int 1], M67) _
              refine ps_if (S1 := (128, [], [], M67)) (S2 := (124, [(0, .ref on), (1, .int (nI pc))], [], M67)) rfl rfl rfl (fun c_121 => ?_) (fun c_121 => ?_)
              · exact absurd (of_decide_eq_true c_121) (by decide)
              refine ps_st (S' := (125, [(0, .ref on), (1, .int (nI pc))], [.int 1], M67)) rfl rfl rfl ?_
              refine ps_st (S' := (129, [], [.int 1], M67)) rfl rfl rfl ?_
              exact ps_ret rfl rfl (Or.inl ⟨(x69.1, szO (by1 f (cb + pc)), x69.2.1, x69.2.2.1, x69.2.2.2.1, x69.2.2.2.2.1, x69.2.2.2.2.2, none), by
                  unfold inC
                  rw [if_neg (by omega), if_neg (show ¬ (by1 f (cb + pc) = 170 ∨ by1 f (cb + pc) = 171) from fun h9 => by unfold swN at n_67; rw [if_pos h9] at n_67; exact absurd n_67 (by decide)), if_neg (by omega), if_neg (by omega), q118_s], rfl, h70, hF75⟩)
            · skip
              obtain ⟨z376, z577, z678, z779, z880, z1081, q118_s, rfl, h82, f83⟩ := q68
              have h85 := (f83.1 b (nin1 (ob_ne h63 h60 (by decide)))).trans h63
              have h86 := (f83.1 da (nin1 (Ne.symm (ob_ar h60 h64)))).trans h64
              have hF87 := hF65.tr f83 (by simp)
              show pl _ _ _ (121, [(0, .ref on), (1, .int (nI pc))], [.int 0], M67) _
              refine ps_if (S1 := (128, [], [], M67)) (S2 := (124, [(0, .ref on), (1, .int (nI pc))], [], M67)) rfl rfl rfl (fun c_121 => ?_) (fun c_121 => ?_)
              rotate_left
              · exact absurd (by decide) (of_decide_eq_false c_121)
              refine ps_st (S' := (129, [], [.int 0], M67)) rfl rfl rfl ?_
              exact ps_ret rfl rfl (Or.inr ⟨_, _, _, _, _, _, _, _, _, by
                  unfold inC
                  rw [if_neg (by omega), if_neg (show ¬ (by1 f (cb + pc) = 170 ∨ by1 f (cb + pc) = 171) from fun h9 => by unfold swN at n_67; rw [if_pos h9] at n_67; exact absurd n_67 (by decide)), if_neg (by omega), if_neg (by omega), q118_s], rfl, h82, hF87⟩)
        · have c_82 : ¬ (¬ (nI (by1 f (cb + pc))) = 196) := of_decide_eq_false c_82
          have n_82 : by1 f (cb + pc) = 196 := (eq_nI (p := by1 f (cb + pc)) (n := 196) (Nat.lt_trans (by1_lt _ _) (by decide)) (by decide)).mp (Decidable.not_not.mp c_82)
          refine ps_st (S' := (86, [(0, .ref on), (1, .int (nI pc))], [.ref on], M46)) rfl rfl rfl ?_
          have e196 : (nI (by1 f (cb + pc))) = 196 := by rw [n_82]; rfl
          have h88 := h47
          rw [e196] at h88
          refine pl_call (a := [.ref on]) (rest := []) rfl rfl rfl (dk_isWideTaken (f := f) (n := n) (on := on) (b := b) (da := da) (cb := cb) (L := L) (y10 := y10) (y11 := y11) (pc := pc) h88 h50 h51 (hn) (hcl) (hpl)) (fun v89 M90 q91 => ?_)
          rcases q91 with q91 | q91
          · skip
            obtain ⟨x92, q86_s, rfl, h93, f94⟩ := q91
            have h96 := (f94.1 b (nin1 (ob_ne h50 h88 (by decide)))).trans h50
            have h97 := (f94.1 da (nin1 (Ne.symm (ob_ar h88 h51)))).trans h51
            have hF98 := hF52.tr f94 (by simp)
            show pl _ _ _ (89, [(0, .ref on), (1, .int (nI pc))], [.int 1], M90) _
            exact ps_ret rfl rfl (Or.inl ⟨(x92.1, x92.2.1, x92.2.2.1, x92.2.2.2, lpO x92.1, 0, none, none), by
                unfold inC
                rw [if_neg (by omega), if_neg (show ¬ (by1 f (cb + pc) = 170 ∨ by1 f (cb + pc) = 171) from fun h9 => by unfold swN at n_67; rw [if_pos h9] at n_67; exact absurd n_67 (by decide)), if_pos (by omega), q86_s], rfl, h93, hF98⟩)
          · skip
            obtain ⟨z399, z4100, z5101, z6102, z7103, q86_s, rfl, h104, f105⟩ := q91
            have h107 := (f105.1 b (nin1 (ob_ne h50 h88 (by decide)))).trans h50
            have h108 := (f105.1 da (nin1 (Ne.symm (ob_ar h88 h51)))).trans h51
            have hF109 := hF52.tr f105 (by simp)
            show pl _ _ _ (89, [(0, .ref on), (1, .int (nI pc))], [.int 0], M90) _
            exact ps_ret rfl rfl (Or.inr ⟨_, _, _, _, _, _, _, _, _, by
                unfold inC
                rw [if_neg (by omega), if_neg (show ¬ (by1 f (cb + pc) = 170 ∨ by1 f (cb + pc) = 171) from fun h9 => by unfold swN at n_67; rw [if_pos h9] at n_67; exact absurd n_67 (by decide)), if_pos (by omega), q86_s], rfl, h104, hF109⟩)
      · have c_67 : ¬ ((nI (swN (by1 f (cb + pc)))) = 0) := of_decide_eq_false c_67
        have n_67 : ¬ (swN (by1 f (cb + pc)) = 0) := fun h9 => c_67 ((eq_nI (p := swN (by1 f (cb + pc))) (n := 0) (by omega) (by decide)).mpr h9)
        refine ps_st (S' := (71, [(0, .ref on), (1, .int (nI pc))], [.ref on], M46)) rfl rfl rfl ?_
        refine pl_call (a := [.ref on]) (rest := []) rfl rfl rfl (dk_isSwitchTaken (f := f) (n := n) (on := on) (b := b) (da := da) (cb := cb) (L := L) (y10 := y10) (y11 := y11) (pc := pc) (o := (by1 f (cb + pc))) h47 h50 h51 (hn) (hcl) (hpl) (by unfold swN at n_67; split at n_67; assumption; exact absurd rfl n_67)) (fun v110 M111 q112 => ?_)
        rcases q112 with q112 | q112
        · skip
          obtain ⟨x113, q71_s, q71_l, rfl, h114, f115⟩ := q112
          have h117 := (f115.1 b (nin1 (ob_ne h50 h47 (by decide)))).trans h50
          have h118 := (f115.1 da (nin1 (Ne.symm (ob_ar h47 h51)))).trans h51
          have hF119 := hF52.tr f115 (by simp)
          show pl _ _ _ (74, [(0, .ref on), (1, .int (nI pc))], [.int 1], M111) _
          exact ps_ret rfl rfl (Or.inl ⟨(by1 f (cb + pc), x113.1, x113.2.1, x113.2.2.1, 0, x113.2.2.2, none, some (pdN pc)), by
              unfold inC
              rw [if_neg (by omega), if_pos (by unfold swN at n_67; split at n_67; assumption; exact absurd rfl n_67), q71_s], rfl, h114, hF119⟩)
        · skip
          obtain ⟨z4120, z5121, z6122, z8123, z11124, q71_s, rfl, h125, f126⟩ := q112
          have h128 := (f126.1 b (nin1 (ob_ne h50 h47 (by decide)))).trans h50
          have h129 := (f126.1 da (nin1 (Ne.symm (ob_ar h47 h51)))).trans h51
          have hF130 := hF52.tr f126 (by simp)
          show pl _ _ _ (74, [(0, .ref on), (1, .int (nI pc))], [.int 0], M111) _
          exact ps_ret rfl rfl (Or.inr ⟨_, _, _, _, _, _, _, _, _, by
              unfold inC
              rw [if_neg (by omega), if_pos (by unfold swN at n_67; split at n_67; assumption; exact absurd rfl n_67), q71_s], rfl, h125, hF130⟩)
    · have c_58 : ¬ ((nI (by1 f (cb + pc))) ≤ 201) := of_decide_eq_false c_58
      have n_58 : ¬ (by1 f (cb + pc) ≤ 201) := fun h9 => c_58 ((le_nI (p := by1 f (cb + pc)) (n := 201) (Nat.lt_trans (by1_lt _ _) (by decide)) (by decide)).mpr h9)
      refine ps_st (S' := (62, [], [.int 0], M46)) rfl rfl rfl ?_
      exact ps_ret rfl rfl (Or.inr ⟨_, _, _, _, _, _, _, _, _, by
          unfold inC
          rw [if_pos (by omega)], rfl, h47, hF52⟩)
