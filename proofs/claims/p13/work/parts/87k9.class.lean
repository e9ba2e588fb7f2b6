/-! flags (my own text) -/
section FLA
theorem an_pow (x i : Nat) : aN x (2 ^ i) = 0 ∨ aN x (2 ^ i) = 2 ^ i := by
  unfold aN
  cases h : x.testBit i with
  | false =>
    left
    apply Nat.eq_of_testBit_eq
    intro j
    rw [Nat.testBit_and, Nat.testBit_two_pow]
    by_cases e : i = j
    · subst e
      simp [h]
    · simp [e]
  | true =>
    right
    apply Nat.eq_of_testBit_eq
    intro j
    rw [Nat.testBit_and, Nat.testBit_two_pow]
    by_cases e : i = j
    · subst e
      simp [h]
    · simp [e]
theorem an_or (x a b : Nat) : aN x (a ||| b) = aN x a ||| aN x b := Nat.and_or_distrib_left x a b
theorem an_an (x a b : Nat) : aN (aN x a) b = aN x (a &&& b) := Nat.and_assoc x a b
theorem hall_1040 (x : Nat) : hallN x 1040 = 0 ↔ ¬ (¬ aN x 16 = 0 ∧ ¬ aN x 1024 = 0) := by
  have h1 : aN x 16 = 0 ∨ aN x 16 = 16 := an_pow x 4
  have h2 : aN x 1024 = 0 ∨ aN x 1024 = 1024 := an_pow x 10
  have h3 : aN x 1040 = aN x 16 ||| aN x 1024 := an_or x 16 1024
  unfold hallN
  rw [h3]
  rcases h1 with h1 | h1 <;> rcases h2 with h2 | h2 <;> rw [h1, h2] <;> decide
theorem hall_80 (x : Nat) : hallN x 80 = 0 ↔ ¬ (¬ aN x 16 = 0 ∧ ¬ aN x 64 = 0) := by
  have h1 : aN x 16 = 0 ∨ aN x 16 = 16 := an_pow x 4
  have h2 : aN x 64 = 0 ∨ aN x 64 = 64 := an_pow x 6
  have h3 : aN x 80 = aN x 16 ||| aN x 64 := an_or x 16 64
  unfold hallN
  rw [h3]
  rcases h1 with h1 | h1 <;> rcases h2 with h2 | h2 <;> rw [h1, h2] <;> decide
theorem hall_1025 (x : Nat) : hallN x 1025 = 0 ↔ ¬ (¬ aN x 1 = 0 ∧ ¬ aN x 1024 = 0) := by
  have h1 : aN x 1 = 0 ∨ aN x 1 = 1 := an_pow x 0
  have h2 : aN x 1024 = 0 ∨ aN x 1024 = 1024 := an_pow x 10
  have h3 : aN x 1025 = aN x 1 ||| aN x 1024 := an_or x 1 1024
  unfold hallN
  rw [h3]
  rcases h1 with h1 | h1 <;> rcases h2 with h2 | h2 <;> rw [h1, h2] <;> decide
theorem one_7 (x : Nat) : oneN x = 0 ↔ (¬ aN x 1 = 0 ∧ ¬ aN x 2 = 0) ∨ (¬ aN x 1 = 0 ∧ ¬ aN x 4 = 0) ∨ (¬ aN x 2 = 0 ∧ ¬ aN x 4 = 0) := by
  have h1 : aN x 1 = 0 ∨ aN x 1 = 1 := an_pow x 0
  have h2 : aN x 2 = 0 ∨ aN x 2 = 2 := an_pow x 1
  have h4 : aN x 4 = 0 ∨ aN x 4 = 4 := an_pow x 2
  have h3 : aN x 7 = (aN x 1 ||| aN x 2) ||| aN x 4 := by
    rw [← an_or, ← an_or]
    rfl
  unfold oneN
  rw [h3]
  rcases h1 with h1 | h1 <;> rcases h2 with h2 | h2 <;> rcases h4 with h4 | h4 <;> rw [h1, h2, h4] <;> decide
theorem has_0 (x w : Nat) : hasN x w = 0 ↔ aN x w = 0 := by
  unfold hasN
  split <;> omega
theorem ffl_25 (x : Nat) (h : aN x 16607 = 25) : ¬ oneN x = 0 ∧ hallN x 80 = 0 := by
  have e1 : aN (aN x 16607) 1 = aN x 1 := an_an x 16607 1
  have e2 : aN (aN x 16607) 2 = aN x 2 := an_an x 16607 2
  have e4 : aN (aN x 16607) 4 = aN x 4 := an_an x 16607 4
  have e6 : aN (aN x 16607) 64 = aN x 64 := an_an x 16607 64
  rw [h] at e1 e2 e4 e6
  rw [one_7, hall_80, ← e1, ← e2, ← e4, ← e6]
  exact ⟨by decide, fun h9 => h9.2 (by decide)⟩
def sevN (x : Nat) : Nat := if oneN x = 0 then 1 else 0
theorem le1_sev (x : Nat) : sevN x < 2 := by unfold sevN; split <;> decide
theorem sev_0 (x : Nat) : sevN x = 0 ↔ ¬ oneN x = 0 := by
  unfold sevN
  split <;> omega
theorem cfl_0 (x : Nat) : cflN x = 0 ↔ (¬ aN x 32768 = 0 ∨ (¬ aN x 512 = 0 ∧ (aN x 1024 = 0 ∨ ¬ aN x 16432 = 0)) ∨ (aN x 512 = 0 ∧ (¬ aN x 8192 = 0 ∨ (¬ aN x 16 = 0 ∧ ¬ aN x 1024 = 0)))) := by
  have h := hall_1040 x
  unfold cflN
  repeat' split
  all_goals omega
/-- whether a method's flags fit, its name being neither <clinit> -/
def fitN (mj c x i : Nat) : Nat := if ¬ i = 0 then (if ¬ oneN x = 0 ∧ hasN x 1400 = 0 then 1 else 0) else
  if ¬ hasN x 1024 = 0 ∧ absN mj x = 0 then 0 else if ¬ hasN c 512 = 0 then imhN mj x else oneN x
theorem abs_0 (mj x : Nat) : absN mj x = 0 ↔ (¬ aN x 314 = 0 ∨ (46 ≤ mj ∧ mj ≤ 60 ∧ ¬ aN x 2048 = 0)) := by
  have h1 := has_0 x 314
  have h2 := has_0 x 2048
  unfold absN
  repeat' split
  all_goals omega
theorem imh_0 (mj x : Nat) : imhN mj x = 0 ↔ (¬ aN x 308 = 0 ∨ (mj < 52 ∧ (aN x 1 = 0 ∨ aN x 1024 = 0 ∨ ¬ aN x 8 = 0)) ∨ (52 ≤ mj ∧ (aN x 1 = 0 ↔ aN x 2 = 0))) := by
  have h1 := has_0 x 308
  have h2 := has_0 x 8
  have h3 := has_0 x 1
  have h4 := has_0 x 2
  have b3 := le1_has x 1
  have b4 := le1_has x 2
  have h5 := hall_1025 x
  unfold imhN
  repeat' split
  all_goals omega
end FLA

theorem le1_fit (mj c x i : Nat) : fitN mj c x i < 2 := by
  have h1 := le1_imh mj x
  have h2 := le1_one x
  unfold fitN
  repeat' split
  all_goals omega
section FLB
variable {f : Nat → Int32} {n : Nat} {E : List (Nat × Nat)} {k m : Nat}
/-- head and interfaces -/
def ccS (f : Nat → Int32) (n : Nat) (E : List (Nat × Nat)) (h : Nat) : Option (Nat × Nat) := match hdS f n E h with
  | some e => some e
  | none => ifS f n E (h + 8) (by2 f (h + 6)) 0
theorem pln_in (h : ¬ plnN f n E k = 0) : tg f E k = 7 ∧ ¬ (tX f n E (fi f E k)).getD 0 0 = 91 := by
  unfold plnN at h
  split at h
  · assumption
  · exact absurd rfl h
theorem sm_sym {tx : List (List Nat)} {cN : Nat} {A : Nat → Nat} {I : rI} {R : rR} {s t : Nat} (h : SYT tx cN A I R) (hs : s < tx.length ∧ tx.getD s [] = tX f n E k) (ht : t < tx.length ∧ tx.getD t [] = tX f n E m) (hk : tg f E k = 1) (hm : tg f E m = 1) : s = t ↔ ¬ smN f n E k m = 0 := by
  rw [sym_eq h hs ht]
  unfold eqN smN
  by_cases e : tX f n E k = tX f n E m
  · rw [if_pos e, if_pos (Or.inr ⟨hk, hm, e⟩)]
  · rw [if_neg e, if_neg]
    rintro (h9 | h9)
    · exact e (by rw [h9])
    · exact e h9.2.2
end FLB
set_option maxHeartbeats 1000000 in
theorem rd_several {g : xe_G} {M : mi_H} {x : Nat}    : pt (mT g) 242 [.int (nI x), .int 1, .int 2, .int 4] M (fun v M' => (v = some (.int (nI (sevN x))) ∧ M = M')) := by
  refine pt_in (b := mb_242 g) rfl (fun kf => ?_)
  show pl (mT g) kf (mb_242 g).2 (0, [(0, .int (nI x)), (1, .int 1), (2, .int 2), (3, .int 4)], [], M) _
  refine ps_st (S' := (1, [(0, .int (nI x)), (1, .int 1), (2, .int 2), (3, .int 4)], [.int (nI x)], M)) rfl rfl rfl ?_
  refine ps_st (S' := (2, [(0, .int (nI x)), (1, .int 1), (2, .int 2), (3, .int 4)], [.int 1, .int (nI x)], M)) rfl rfl rfl ?_
  refine ps_st (S' := (3, [(0, .int (nI x)), (1, .int 1), (2, .int 2), (3, .int 4)], [.int ((nI x) &&& 1)], M)) rfl rfl rfl ?_
  rw [nI_an (p := x) (k := 1) (x := 1) rfl]
  show pl _ _ _ (_, [(0, .int (nI x)), (1, .int 1), (2, .int 2), (3, .int 4)], [.int (nI (aN x 1))], M) _
  refine ps_if (S1 := (10, [(0, .int (nI x)), (1, .int 1), (2, .int 2), (3, .int 4)], [], M)) (S2 := (6, [(0, .int (nI x)), (1, .int 1), (2, .int 2), (3, .int 4)], [], M)) rfl rfl rfl (fun c_3 => ?_) (fun c_3 => ?_)
  · have c_3 : (nI (aN x 1)) = 0 := of_decide_eq_true c_3
    have n_3 : aN x 1 = 0 := (eq_nI (p := aN x 1) (n := 0) (Nat.lt_of_le_of_lt (an_le _ _) (by decide)) (by decide)).mp c_3
    refine ps_st (S' := (11, [(0, .int (nI x)), (2, .int 2), (3, .int 4)], [.int 0], M)) rfl rfl rfl ?_
    refine ps_st (S' := (12, [(0, .int (nI x)), (2, .int 2), (3, .int 4)], [.int (nI x), .int 0], M)) rfl rfl rfl ?_
    refine ps_st (S' := (13, [(0, .int (nI x)), (2, .int 2), (3, .int 4)], [.int 2, .int (nI x), .int 0], M)) rfl rfl rfl ?_
    refine ps_st (S' := (14, [(0, .int (nI x)), (2, .int 2), (3, .int 4)], [.int ((nI x) &&& 2), .int 0], M)) rfl rfl rfl ?_
    rw [nI_an (p := x) (k := 2) (x := 2) rfl]
    show pl _ _ _ (_, [(0, .int (nI x)), (2, .int 2), (3, .int 4)], [.int (nI (aN x 2)), .int 0], M) _
    refine ps_if (S1 := (21, [(0, .int (nI x)), (2, .int 2), (3, .int 4)], [.int 0], M)) (S2 := (17, [(0, .int (nI x)), (2, .int 2), (3, .int 4)], [.int 0], M)) rfl rfl rfl (fun c_14 => ?_) (fun c_14 => ?_)
    · have c_14 : (nI (aN x 2)) = 0 := of_decide_eq_true c_14
      have n_14 : aN x 2 = 0 := (eq_nI (p := aN x 2) (n := 0) (Nat.lt_of_le_of_lt (an_le _ _) (by decide)) (by decide)).mp c_14
      refine ps_st (S' := (22, [(0, .int (nI x)), (3, .int 4)], [.int 0, .int 0], M)) rfl rfl rfl ?_
      refine ps_st (S' := (23, [(0, .int (nI x)), (3, .int 4)], [.int (0 + 0)], M)) rfl rfl rfl ?_
      refine ps_st (S' := (24, [(0, .int (nI x)), (3, .int 4)], [.int (nI x), .int (0 + 0)], M)) rfl rfl rfl ?_
      refine ps_st (S' := (25, [(0, .int (nI x)), (3, .int 4)], [.int 4, .int (nI x), .int (0 + 0)], M)) rfl rfl rfl ?_
      refine ps_st (S' := (26, [(0, .int (nI x)), (3, .int 4)], [.int ((nI x) &&& 4), .int (0 + 0)], M)) rfl rfl rfl ?_
      rw [nI_an (p := x) (k := 4) (x := 4) rfl]
      show pl _ _ _ (_, [(0, .int (nI x)), (3, .int 4)], [.int (nI (aN x 4)), .int (0 + 0)], M) _
      refine ps_if (S1 := (33, [(0, .int (nI x)), (3, .int 4)], [.int (0 + 0)], M)) (S2 := (29, [(0, .int (nI x)), (3, .int 4)], [.int (0 + 0)], M)) rfl rfl rfl (fun c_26 => ?_) (fun c_26 => ?_)
      · have c_26 : (nI (aN x 4)) = 0 := of_decide_eq_true c_26
        have n_26 : aN x 4 = 0 := (eq_nI (p := aN x 4) (n := 0) (Nat.lt_of_le_of_lt (an_le _ _) (by decide)) (by decide)).mp c_26
        refine ps_st (S' := (34, [], [.int 0, .int (0 + 0)], M)) rfl rfl rfl ?_
        refine ps_st (S' := (35, [], [.int ((0 + 0) + 0)], M)) rfl rfl rfl ?_
        refine ps_st (S' := (36, [], [.int 1, .int ((0 + 0) + 0)], M)) rfl rfl rfl ?_
        refine ps_if2 (S1 := (43, [], [], M)) (S2 := (39, [], [], M)) rfl rfl rfl (fun c_36 => ?_) (fun c_36 => ?_)
        · have c_36 : ((0 + 0) + 0) ≤ 1 := of_decide_eq_true c_36
          refine ps_st (S' := (44, [], [.int 0], M)) rfl rfl rfl ?_
          exact ps_ret rfl rfl (⟨congrArg (fun x => some (Value.int (nI x))) (show 0 = sevN x from by
              have e1 := one_7 x
              have e2 := sev_0 x
              have e3 := le1_sev x
              omega), rfl⟩)
        · have c_36 : ¬ (((0 + 0) + 0) ≤ 1) := of_decide_eq_false c_36
          refine ps_st (S' := (40, [], [.int 1], M)) rfl rfl rfl ?_
          refine ps_st (S' := (44, [], [.int 1], M)) rfl rfl rfl ?_
          exact ps_ret rfl rfl (⟨congrArg (fun x => some (Value.int (nI x))) (show 1 = sevN x from by
              have e1 := one_7 x
              have e2 := sev_0 x
              have e3 := le1_sev x
              omega), rfl⟩)
      · have c_26 : ¬ ((nI (aN x 4)) = 0) := of_decide_eq_false c_26
        have n_26 : ¬ (aN x 4 = 0) := fun h9 => c_26 ((eq_nI (p := aN x 4) (n := 0) (Nat.lt_of_le_of_lt (an_le _ _) (by decide)) (by decide)).mpr h9)
        refine ps_st (S' := (30, [(0, .int (nI x)), (3, .int 4)], [.int 1, .int (0 + 0)], M)) rfl rfl rfl ?_
        refine ps_st (S' := (34, [], [.int 1, .int (0 + 0)], M)) rfl rfl rfl ?_
        refine ps_st (S' := (35, [], [.int ((0 + 0) + 1)], M)) rfl rfl rfl ?_
        refine ps_st (S' := (36, [], [.int 1, .int ((0 + 0) + 1)], M)) rfl rfl rfl ?_
        refine ps_if2 (S1 := (43, [], [], M)) (S2 := (39, [], [], M)) rfl rfl rfl (fun c_36 => ?_) (fun c_36 => ?_)
        · have c_36 : ((0 + 0) + 1) ≤ 1 := of_decide_eq_true c_36
          refine ps_st (S' := (44, [], [.int 0], M)) rfl rfl rfl ?_
          exact ps_ret rfl rfl (⟨congrArg (fun x => some (Value.int (nI x))) (show 0 = sevN x from by
              have e1 := one_7 x
              have e2 := sev_0 x
              have e3 := le1_sev x
              omega), rfl⟩)
        · have c_36 : ¬ (((0 + 0) + 1) ≤ 1) := of_decide_eq_false c_36
          refine ps_st (S' := (40, [], [.int 1], M)) rfl rfl rfl ?_
          refine ps_st (S' := (44, [], [.int 1], M)) rfl rfl rfl ?_
          exact ps_ret rfl rfl (⟨congrArg (fun x => some (Value.int (nI x))) (show 1 = sevN x from by
              have e1 := one_7 x
              have e2 := sev_0 x
              have e3 := le1_sev x
              omega), rfl⟩)
    · have c_14 : ¬ ((nI (aN x 2)) = 0) := of_decide_eq_false c_14
      have n_14 : ¬ (aN x 2 = 0) := fun h9 => c_14 ((eq_nI (p := aN x 2) (n := 0) (Nat.lt_of_le_of_lt (an_le _ _) (by decide)) (by decide)).mpr h9)
      refine ps_st (S' := (18, [(0, .int (nI x)), (2, .int 2), (3, .int 4)], [.int 1, .int 0], M)) rfl rfl rfl ?_
      refine ps_st (S' := (22, [(0, .int (nI x)), (3, .int 4)], [.int 1, .int 0], M)) rfl rfl rfl ?_
      refine ps_st (S' := (23, [(0, .int (nI x)), (3, .int 4)], [.int (0 + 1)], M)) rfl rfl rfl ?_
      refine ps_st (S' := (24, [(0, .int (nI x)), (3, .int 4)], [.int (nI x), .int (0 + 1)], M)) rfl rfl rfl ?_
      refine ps_st (S' := (25, [(0, .int (nI x)), (3, .int 4)], [.int 4, .int (nI x), .int (0 + 1)], M)) rfl rfl rfl ?_
      refine ps_st (S' := (26, [(0, .int (nI x)), (3, .int 4)], [.int ((nI x) &&& 4), .int (0 + 1)], M)) rfl rfl rfl ?_
      rw [nI_an (p := x) (k := 4) (x := 4) rfl]
      show pl _ _ _ (_, [(0, .int (nI x)), (3, .int 4)], [.int (nI (aN x 4)), .int (0 + 1)], M) _
      refine ps_if (S1 := (33, [(0, .int (nI x)), (3, .int 4)], [.int (0 + 1)], M)) (S2 := (29, [(0, .int (nI x)), (3, .int 4)], [.int (0 + 1)], M)) rfl rfl rfl (fun c_26 => ?_) (fun c_26 => ?_)
      · have c_26 : (nI (aN x 4)) = 0 := of_decide_eq_true c_26
        have n_26 : aN x 4 = 0 := (eq_nI (p := aN x 4) (n := 0) (Nat.lt_of_le_of_lt (an_le _ _) (by decide)) (by decide)).mp c_26
        refine ps_st (S' := (34, [], [.int 0, .int (0 + 1)], M)) rfl rfl rfl ?_
        refine ps_st (S' := (35, [], [.int ((0 + 1) + 0)], M)) rfl rfl rfl ?_
        refine ps_st (S' := (36, [], [.int 1, .int ((0 + 1) + 0)], M)) rfl rfl rfl ?_
        refine ps_if2 (S1 := (43, [], [], M)) (S2 := (39, [], [], M)) rfl rfl rfl (fun c_36 => ?_) (fun c_36 => ?_)
        · have c_36 : ((0 + 1) + 0) ≤ 1 := of_decide_eq_true c_36
          refine ps_st (S' := (44, [], [.int 0], M)) rfl rfl rfl ?_
          exact ps_ret rfl rfl (⟨congrArg (fun x => some (Value.int (nI x))) (show 0 = sevN x from by
              have e1 := one_7 x
              have e2 := sev_0 x
              have e3 := le1_sev x
              omega), rfl⟩)
        · have c_36 : ¬ (((0 + 1) + 0) ≤ 1) := of_decide_eq_false c_36
          refine ps_st (S' := (40, [], [.int 1], M)) rfl rfl rfl ?_
          refine ps_st (S' := (44, [], [.int 1], M)) rfl rfl rfl ?_
          exact ps_ret rfl rfl (⟨congrArg (fun x => some (Value.int (nI x))) (show 1 = sevN x from by
              have e1 := one_7 x
              have e2 := sev_0 x
              have e3 := le1_sev x
              omega), rfl⟩)
      · have c_26 : ¬ ((nI (aN x 4)) = 0) := of_decide_eq_false c_26
        have n_26 : ¬ (aN x 4 = 0) := fun h9 => c_26 ((eq_nI (p := aN x 4) (n := 0) (Nat.lt_of_le_of_lt (an_le _ _) (by decide)) (by decide)).mpr h9)
        refine ps_st (S' := (30, [(0, .int (nI x)), (3, .int 4)], [.int 1, .int (0 + 1)], M)) rfl rfl rfl ?_
        refine ps_st (S' := (34, [], [.int 1, .int (0 + 1)], M)) rfl rfl rfl ?_
        refine ps_st (S' := (35, [], [.int ((0 + 1) + 1)], M)) rfl rfl rfl ?_
        refine ps_st (S' := (36, [], [.int 1, .int ((0 + 1) + 1)], M)) rfl rfl rfl ?_
        refine ps_if2 (S1 := (43, [], [], M)) (S2 := (39, [], [], M)) rfl rfl rfl (fun c_36 => ?_) (fun c_36 => ?_)
        · have c_36 : ((0 + 1) + 1) ≤ 1 := of_decide_eq_true c_36
          refine ps_st (S' := (44, [], [.int 0], M)) rfl rfl rfl ?_
          exact ps_ret rfl rfl (⟨congrArg (fun x => some (Value.int (nI x))) (show 0 = sevN x from by
              have e1 := one_7 x
              have e2 := sev_0 x
              have e3 := le1_sev x
              omega), rfl⟩)
        · have c_36 : ¬ (((0 + 1) + 1) ≤ 1) := of_decide_eq_false c_36
          refine ps_st (S' := (40, [], [.int 1], M)) rfl rfl rfl ?_
          refine ps_st (S' := (44, [], [.int 1], M)) rfl rfl rfl ?_
          exact ps_ret rfl rfl (⟨congrArg (fun x => some (Value.int (nI x))) (show 1 = sevN x from by
              have e1 := one_7 x
              have e2 := sev_0 x
              have e3 := le1_sev x
              omega), rfl⟩)
  · have c_3 : ¬ ((nI (aN x 1)) = 0) := of_decide_eq_false c_3
    have n_3 : ¬ (aN x 1 = 0) := fun h9 => c_3 ((eq_nI (p := aN x 1) (n := 0) (Nat.lt_of_le_of_lt (an_le _ _) (by decide)) (by decide)).mpr h9)
    refine ps_st (S' := (7, [(0, .int (nI x)), (1, .int 1), (2, .int 2), (3, .int 4)], [.int 1], M)) rfl rfl rfl ?_
    refine ps_st (S' := (11, [(0, .int (nI x)), (2, .int 2), (3, .int 4)], [.int 1], M)) rfl rfl rfl ?_
    refine ps_st (S' := (12, [(0, .int (nI x)), (2, .int 2), (3, .int 4)], [.int (nI x), .int 1], M)) rfl rfl rfl ?_
    refine ps_st (S' := (13, [(0, .int (nI x)), (2, .int 2), (3, .int 4)], [.int 2, .int (nI x), .int 1], M)) rfl rfl rfl ?_
    refine ps_st (S' := (14, [(0, .int (nI x)), (2, .int 2), (3, .int 4)], [.int ((nI x) &&& 2), .int 1], M)) rfl rfl rfl ?_
    rw [nI_an (p := x) (k := 2) (x := 2) rfl]
    show pl _ _ _ (_, [(0, .int (nI x)), (2, .int 2), (3, .int 4)], [.int (nI (aN x 2)), .int 1], M) _
    refine ps_if (S1 := (21, [(0, .int (nI x)), (2, .int 2), (3, .int 4)], [.int 1], M)) (S2 := (17, [(0, .int (nI x)), (2, .int 2), (3, .int 4)], [.int 1], M)) rfl rfl rfl (fun c_14 => ?_) (fun c_14 => ?_)
    · have c_14 : (nI (aN x 2)) = 0 := of_decide_eq_true c_14
      have n_14 : aN x 2 = 0 := (eq_nI (p := aN x 2) (n := 0) (Nat.lt_of_le_of_lt (an_le _ _) (by decide)) (by decide)).mp c_14
      refine ps_st (S' := (22, [(0, .int (nI x)), (3, .int 4)], [.int 0, .int 1], M)) rfl rfl rfl ?_
      refine ps_st (S' := (23, [(0, .int (nI x)), (3, .int 4)], [.int (1 + 0)], M)) rfl rfl rfl ?_
      refine ps_st (S' := (24, [(0, .int (nI x)), (3, .int 4)], [.int (nI x), .int (1 + 0)], M)) rfl rfl rfl ?_
      refine ps_st (S' := (25, [(0, .int (nI x)), (3, .int 4)], [.int 4, .int (nI x), .int (1 + 0)], M)) rfl rfl rfl ?_
      refine ps_st (S' := (26, [(0, .int (nI x)), (3, .int 4)], [.int ((nI x) &&& 4), .int (1 + 0)], M)) rfl rfl rfl ?_
      rw [nI_an (p := x) (k := 4) (x := 4) rfl]
      show pl _ _ _ (_, [(0, .int (nI x)), (3, .int 4)], [.int (nI (aN x 4)), .int (1 + 0)], M) _
      refine ps_if (S1 := (33, [(0, .int (nI x)), (3, .int 4)], [.int (1 + 0)], M)) (S2 := (29, [(0, .int (nI x)), (3, .int 4)], [.int (1 + 0)], M)) rfl rfl rfl (fun c_26 => ?_) (fun c_26 => ?_)
      · have c_26 : (nI (aN x 4)) = 0 := of_decide_eq_true c_26
        have n_26 : aN x 4 = 0 := (eq_nI (p := aN x 4) (n := 0) (Nat.lt_of_le_of_lt (an_le _ _) (by decide)) (by decide)).mp c_26
        refine ps_st (S' := (34, [], [.int 0, .int (1 + 0)], M)) rfl rfl rfl ?_
        refine ps_st (S' := (35, [], [.int ((1 + 0) + 0)], M)) rfl rfl rfl ?_
        refine ps_st (S' := (36, [], [.int 1, .int ((1 + 0) + 0)], M)) rfl rfl rfl ?_
        refine ps_if2 (S1 := (43, [], [], M)) (S2 := (39, [], [], M)) rfl rfl rfl (fun c_36 => ?_) (fun c_36 => ?_)
        · have c_36 : ((1 + 0) + 0) ≤ 1 := of_decide_eq_true c_36
          refine ps_st (S' := (44, [], [.int 0], M)) rfl rfl rfl ?_
          exact ps_ret rfl rfl (⟨congrArg (fun x => some (Value.int (nI x))) (show 0 = sevN x from by
              have e1 := one_7 x
              have e2 := sev_0 x
              have e3 := le1_sev x
              omega), rfl⟩)
        · have c_36 : ¬ (((1 + 0) + 0) ≤ 1) := of_decide_eq_false c_36
          refine ps_st (S' := (40, [], [.int 1], M)) rfl rfl rfl ?_
          refine ps_st (S' := (44, [], [.int 1], M)) rfl rfl rfl ?_
          exact ps_ret rfl rfl (⟨congrArg (fun x => some (Value.int (nI x))) (show 1 = sevN x from by
              have e1 := one_7 x
              have e2 := sev_0 x
              have e3 := le1_sev x
              omega), rfl⟩)
      · have c_26 : ¬ ((nI (aN x 4)) = 0) := of_decide_eq_false c_26
        have n_26 : ¬ (aN x 4 = 0) := fun h9 => c_26 ((eq_nI (p := aN x 4) (n := 0) (Nat.lt_of_le_of_lt (an_le _ _) (by decide)) (by decide)).mpr h9)
        refine ps_st (S' := (30, [(0, .int (nI x)), (3, .int 4)], [.int 1, .int (1 + 0)], M)) rfl rfl rfl ?_
        refine ps_st (S' := (34, [], [.int 1, .int (1 + 0)], M)) rfl rfl rfl ?_
        refine ps_st (S' := (35, [], [.int ((1 + 0) + 1)], M)) rfl rfl rfl ?_
        refine ps_st (S' := (36, [], [.int 1, .int ((1 + 0) + 1)], M)) rfl rfl rfl ?_
        refine ps_if2 (S1 := (43, [], [], M)) (S2 := (39, [], [], M)) rfl rfl rfl (fun c_36 => ?_) (fun c_36 => ?_)
        · have c_36 : ((1 + 0) + 1) ≤ 1 := of_decide_eq_true c_36
          refine ps_st (S' := (44, [], [.int 0], M)) rfl rfl rfl ?_
          exact ps_ret rfl rfl (⟨congrArg (fun x => some (Value.int (nI x))) (show 0 = sevN x from by
              have e1 := one_7 x
              have e2 := sev_0 x
              have e3 := le1_sev x
              omega), rfl⟩)
        · have c_36 : ¬ (((1 + 0) + 1) ≤ 1) := of_decide_eq_false c_36
          refine ps_st (S' := (40, [], [.int 1], M)) rfl rfl rfl ?_
          refine ps_st (S' := (44, [], [.int 1], M)) rfl rfl rfl ?_
          exact ps_ret rfl rfl (⟨congrArg (fun x => some (Value.int (nI x))) (show 1 = sevN x from by
              have e1 := one_7 x
              have e2 := sev_0 x
              have e3 := le1_sev x
              omega), rfl⟩)
    · have c_14 : ¬ ((nI (aN x 2)) = 0) := of_decide_eq_false c_14
      have n_14 : ¬ (aN x 2 = 0) := fun h9 => c_14 ((eq_nI (p := aN x 2) (n := 0) (Nat.lt_of_le_of_lt (an_le _ _) (by decide)) (by decide)).mpr h9)
      refine ps_st (S' := (18, [(0, .int (nI x)), (2, .int 2), (3, .int 4)], [.int 1, .int 1], M)) rfl rfl rfl ?_
      refine ps_st (S' := (22, [(0, .int (nI x)), (3, .int 4)], [.int 1, .int 1], M)) rfl rfl rfl ?_
      refine ps_st (S' := (23, [(0, .int (nI x)), (3, .int 4)], [.int (1 + 1)], M)) rfl rfl rfl ?_
      refine ps_st (S' := (24, [(0, .int (nI x)), (3, .int 4)], [.int (nI x), .int (1 + 1)], M)) rfl rfl rfl ?_
      refine ps_st (S' := (25, [(0, .int (nI x)), (3, .int 4)], [.int 4, .int (nI x), .int (1 + 1)], M)) rfl rfl rfl ?_
      refine ps_st (S' := (26, [(0, .int (nI x)), (3, .int 4)], [.int ((nI x) &&& 4), .int (1 + 1)], M)) rfl rfl rfl ?_
      rw [nI_an (p := x) (k := 4) (x := 4) rfl]
      show pl _ _ _ (_, [(0, .int (nI x)), (3, .int 4)], [.int (nI (aN x 4)), .int (1 + 1)], M) _
      refine ps_if (S1 := (33, [(0, .int (nI x)), (3, .int 4)], [.int (1 + 1)], M)) (S2 := (29, [(0, .int (nI x)), (3, .int 4)], [.int (1 + 1)], M)) rfl rfl rfl (fun c_26 => ?_) (fun c_26 => ?_)
      · have c_26 : (nI (aN x 4)) = 0 := of_decide_eq_true c_26
        have n_26 : aN x 4 = 0 := (eq_nI (p := aN x 4) (n := 0) (Nat.lt_of_le_of_lt (an_le _ _) (by decide)) (by decide)).mp c_26
        refine ps_st (S' := (34, [], [.int 0, .int (1 + 1)], M)) rfl rfl rfl ?_
        refine ps_st (S' := (35, [], [.int ((1 + 1) + 0)], M)) rfl rfl rfl ?_
        refine ps_st (S' := (36, [], [.int 1, .int ((1 + 1) + 0)], M)) rfl rfl rfl ?_
        refine ps_if2 (S1 := (43, [], [], M)) (S2 := (39, [], [], M)) rfl rfl rfl (fun c_36 => ?_) (fun c_36 => ?_)
        · have c_36 : ((1 + 1) + 0) ≤ 1 := of_decide_eq_true c_36
          refine ps_st (S' := (44, [], [.int 0], M)) rfl rfl rfl ?_
          exact ps_ret rfl rfl (⟨congrArg (fun x => some (Value.int (nI x))) (show 0 = sevN x from by
              have e1 := one_7 x
              have e2 := sev_0 x
              have e3 := le1_sev x
              omega), rfl⟩)
        · have c_36 : ¬ (((1 + 1) + 0) ≤ 1) := of_decide_eq_false c_36
          refine ps_st (S' := (40, [], [.int 1], M)) rfl rfl rfl ?_
          refine ps_st (S' := (44, [], [.int 1], M)) rfl rfl rfl ?_
          exact ps_ret rfl rfl (⟨congrArg (fun x => some (Value.int (nI x))) (show 1 = sevN x from by
              have e1 := one_7 x
              have e2 := sev_0 x
              have e3 := le1_sev x
              omega), rfl⟩)
      · have c_26 : ¬ ((nI (aN x 4)) = 0) := of_decide_eq_false c_26
        have n_26 : ¬ (aN x 4 = 0) := fun h9 => c_26 ((eq_nI (p := aN x 4) (n := 0) (Nat.lt_of_le_of_lt (an_le _ _) (by decide)) (by decide)).mpr h9)
        refine ps_st (S' := (30, [(0, .int (nI x)), (3, .int 4)], [.int 1, .int (1 + 1)], M)) rfl rfl rfl ?_
        refine ps_st (S' := (34, [], [.int 1, .int (1 + 1)], M)) rfl rfl rfl ?_
        refine ps_st (S' := (35, [], [.int ((1 + 1) + 1)], M)) rfl rfl rfl ?_
        refine ps_st (S' := (36, [], [.int 1, .int ((1 + 1) + 1)], M)) rfl rfl rfl ?_
        refine ps_if2 (S1 := (43, [], [], M)) (S2 := (39, [], [], M)) rfl rfl rfl (fun c_36 => ?_) (fun c_36 => ?_)
        · have c_36 : ((1 + 1) + 1) ≤ 1 := of_decide_eq_true c_36
          refine ps_st (S' := (44, [], [.int 0], M)) rfl rfl rfl ?_
          exact ps_ret rfl rfl (⟨congrArg (fun x => some (Value.int (nI x))) (show 0 = sevN x from by
              have e1 := one_7 x
              have e2 := sev_0 x
              have e3 := le1_sev x
              omega), rfl⟩)
        · have c_36 : ¬ (((1 + 1) + 1) ≤ 1) := of_decide_eq_false c_36
          refine ps_st (S' := (40, [], [.int 1], M)) rfl rfl rfl ?_
          refine ps_st (S' := (44, [], [.int 1], M)) rfl rfl rfl ?_
          exact ps_ret rfl rfl (⟨congrArg (fun x => some (Value.int (nI x))) (show 1 = sevN x from by
              have e1 := one_7 x
              have e2 := sev_0 x
              have e3 := le1_sev x
              omega), rfl⟩)
set_option maxHeartbeats 8000000 in
theorem rd_fit00 {g : xe_G} {m0 : Nat} {q : Nat → Nat} {z : Nat × Nat} {I : rI} {R : rR} {M : mi_H} {mj x c : Nat} (hR : RS g m0 q z I R M) (hi53 : I 53 = some (nI mj))  (hmj : mj < 65536) (hx : x < 65536) (hc : aN c 512 = 0) : pt (mT g) 209 [.ref m0, .int (nI x), .int 0, .int 0] M (fun v M' => (v = some (.int (nI (fitN mj c x 0))) ∧ M = M')) := by
  refine pt_in (b := mb_209 g) rfl (fun kf => ?_)
  show pl (mT g) kf (mb_209 g).2 (0, [(0, .ref m0), (1, .int (nI x)), (2, .int 0), (3, .int 0)], [], M) _
  refine ps_st (S' := (1, [(0, .ref m0), (1, .int (nI x)), (2, .int 0), (3, .int 0)], [.int 0], M)) rfl rfl rfl ?_
  refine ps_if (S1 := (28, [(0, .ref m0), (1, .int (nI x)), (2, .int 0), (3, .int 0)], [], M)) (S2 := (4, [(0, .ref m0), (1, .int (nI x)), (2, .int 0), (3, .int 0)], [], M)) rfl rfl rfl (fun c_1 => ?_) (fun c_1 => ?_)
  rotate_left
  · exact absurd (by decide) (of_decide_eq_false c_1)
  refine ps_st (S' := (29, [(0, .ref m0), (1, .int (nI x)), (2, .int 0), (3, .int 0)], [.int (nI x)], M)) rfl rfl rfl ?_
  refine ps_st (S' := (32, [(0, .ref m0), (1, .int (nI x)), (2, .int 0), (3, .int 0)], [.int 1024, .int (nI x)], M)) rfl rfl rfl ?_
  refine ps_st (S' := (33, [(0, .ref m0), (1, .int (nI x)), (2, .int 0), (3, .int 0)], [.int ((nI x) &&& 1024)], M)) rfl rfl rfl ?_
  rw [nI_an (p := x) (k := 1024) (x := 1024) rfl]
  show pl _ _ _ (_, [(0, .ref m0), (1, .int (nI x)), (2, .int 0), (3, .int 0)], [.int (nI (aN x 1024))], M) _
  refine ps_if (S1 := (74, [(0, .ref m0), (1, .int (nI x)), (3, .int 0)], [], M)) (S2 := (36, [(0, .ref m0), (1, .int (nI x)), (2, .int 0), (3, .int 0)], [], M)) rfl rfl rfl (fun c_33 => ?_) (fun c_33 => ?_)
  · have c_33 : (nI (aN x 1024)) = 0 := of_decide_eq_true c_33
    have n_33 : aN x 1024 = 0 := (eq_nI (p := aN x 1024) (n := 0) (Nat.lt_of_le_of_lt (an_le _ _) (by decide)) (by decide)).mp c_33
    refine ps_st (S' := (75, [(0, .ref m0), (1, .int (nI x)), (3, .int 0)], [.int 0], M)) rfl rfl rfl ?_
    refine ps_st (S' := (77, [(4, .int 0), (0, .ref m0), (1, .int (nI x)), (3, .int 0)], [], M)) rfl rfl rfl ?_
    refine ps_st (S' := (78, [(4, .int 0), (0, .ref m0), (1, .int (nI x)), (3, .int 0)], [.int 0], M)) rfl rfl rfl ?_
    refine ps_if (S1 := (102, [(4, .int 0), (0, .ref m0), (1, .int (nI x)), (3, .int 0)], [], M)) (S2 := (81, [(4, .int 0), (0, .ref m0), (1, .int (nI x)), (3, .int 0)], [], M)) rfl rfl rfl (fun c_78 => ?_) (fun c_78 => ?_)
    · exact absurd (of_decide_eq_true c_78) (by decide)
    refine ps_st (S' := (82, [(4, .int 0), (0, .ref m0), (1, .int (nI x)), (3, .int 0)], [.int (nI x)], M)) rfl rfl rfl ?_
    refine ps_st (S' := (83, [(4, .int 0), (0, .ref m0), (1, .int (nI x)), (3, .int 0)], [.int 1, .int (nI x)], M)) rfl rfl rfl ?_
    refine ps_st (S' := (84, [(4, .int 0), (0, .ref m0), (1, .int (nI x)), (3, .int 0)], [.int 2, .int 1, .int (nI x)], M)) rfl rfl rfl ?_
    refine ps_st (S' := (85, [(4, .int 0), (0, .ref m0), (1, .int (nI x)), (3, .int 0)], [.int 4, .int 2, .int 1, .int (nI x)], M)) rfl rfl rfl ?_
    refine pl_call (a := [.int (nI x), .int 1, .int 2, .int 4]) (rest := []) rfl rfl rfl (rd_several (x := x)) (fun v1 M2 q3 => ?_)
    obtain ⟨rfl, rfl⟩ := q3
    show pl _ _ _ (88, [(4, .int 0), (0, .ref m0), (1, .int (nI x)), (3, .int 0)], [.int (nI (sevN x))], M) _
    refine ps_if (S1 := (100, [], [], M)) (S2 := (91, [(4, .int 0), (0, .ref m0), (1, .int (nI x)), (3, .int 0)], [], M)) rfl rfl rfl (fun c_88 => ?_) (fun c_88 => ?_)
    · have c_88 : ¬ (nI (sevN x)) = 0 := of_decide_eq_true c_88
      have n_88 : ¬ (sevN x = 0) := fun h9 => c_88 ((eq_nI (p := sevN x) (n := 0) (Nat.lt_trans (le1_sev _) (by decide)) (by decide)).mpr h9)
      refine ps_st (S' := (101, [], [.int 0], M)) rfl rfl rfl ?_
      exact ps_ret rfl rfl (⟨congrArg (fun x => some (Value.int (nI x))) (show 0 = fitN mj c x 0 from by
          have e3 := has_0 x 1400
          have e4 := has_0 x 1024
          have e5 := has_0 c 512
          have e2 := sev_0 x
          have b1 := le1_one x
          unfold fitN
          first | ((repeat first | rw [if_pos (by omega)] | rw [if_neg (by omega)]) <;> first | rfl | omega) | ((repeat' split) <;> first | rfl | (exfalso; omega) | omega)), rfl⟩)
    · have c_88 : ¬ (¬ (nI (sevN x)) = 0) := of_decide_eq_false c_88
      have n_88 : sevN x = 0 := (eq_nI (p := sevN x) (n := 0) (Nat.lt_trans (le1_sev _) (by decide)) (by decide)).mp (Decidable.not_not.mp c_88)
      refine ps_st (S' := (93, [(4, .int 0), (0, .ref m0), (1, .int (nI x)), (3, .int 0)], [.int 0], M)) rfl rfl rfl ?_
      refine ps_if (S1 := (100, [], [], M)) (S2 := (96, [(4, .int 0), (0, .ref m0), (1, .int (nI x)), (3, .int 0)], [], M)) rfl rfl rfl (fun c_93 => ?_) (fun c_93 => ?_)
      · exact absurd (of_decide_eq_true c_93) (by decide)
      refine ps_st (S' := (97, [(4, .int 0), (0, .ref m0), (1, .int (nI x)), (3, .int 0)], [.int 1], M)) rfl rfl rfl ?_
      refine ps_st (S' := (101, [], [.int 1], M)) rfl rfl rfl ?_
      exact ps_ret rfl rfl (⟨congrArg (fun x => some (Value.int (nI x))) (show 1 = fitN mj c x 0 from by
          have e3 := has_0 x 1400
          have e4 := has_0 x 1024
          have e5 := has_0 c 512
          have e2 := sev_0 x
          have b1 := le1_one x
          unfold fitN
          first | ((repeat first | rw [if_pos (by omega)] | rw [if_neg (by omega)]) <;> first | rfl | omega) | ((repeat' split) <;> first | rfl | (exfalso; omega) | omega)), rfl⟩)
  · have c_33 : ¬ ((nI (aN x 1024)) = 0) := of_decide_eq_false c_33
    have n_33 : ¬ (aN x 1024 = 0) := fun h9 => c_33 ((eq_nI (p := aN x 1024) (n := 0) (Nat.lt_of_le_of_lt (an_le _ _) (by decide)) (by decide)).mpr h9)
    refine ps_st (S' := (37, [(0, .ref m0), (1, .int (nI x)), (2, .int 0), (3, .int 0)], [.int (nI x)], M)) rfl rfl rfl ?_
    refine ps_st (S' := (40, [(0, .ref m0), (1, .int (nI x)), (2, .int 0), (3, .int 0)], [.int 314, .int (nI x)], M)) rfl rfl rfl ?_
    refine ps_st (S' := (41, [(0, .ref m0), (1, .int (nI x)), (2, .int 0), (3, .int 0)], [.int ((nI x) &&& 314)], M)) rfl rfl rfl ?_
    rw [nI_an (p := x) (k := 314) (x := 314) rfl]
    show pl _ _ _ (_, [(0, .ref m0), (1, .int (nI x)), (2, .int 0), (3, .int 0)], [.int (nI (aN x 314))], M) _
    refine ps_if (S1 := (70, [(0, .ref m0), (1, .int (nI x)), (3, .int 0)], [], M)) (S2 := (44, [(0, .ref m0), (1, .int (nI x)), (2, .int 0), (3, .int 0)], [], M)) rfl rfl rfl (fun c_41 => ?_) (fun c_41 => ?_)
    · have c_41 : ¬ (nI (aN x 314)) = 0 := of_decide_eq_true c_41
      have n_41 : ¬ (aN x 314 = 0) := fun h9 => c_41 ((eq_nI (p := aN x 314) (n := 0) (Nat.lt_of_le_of_lt (an_le _ _) (by decide)) (by decide)).mpr h9)
      refine ps_st (S' := (71, [(0, .ref m0), (1, .int (nI x)), (3, .int 0)], [.int 1], M)) rfl rfl rfl ?_
      refine ps_st (S' := (75, [(0, .ref m0), (1, .int (nI x)), (3, .int 0)], [.int 1], M)) rfl rfl rfl ?_
      refine ps_st (S' := (77, [(4, .int 1), (0, .ref m0), (1, .int (nI x)), (3, .int 0)], [], M)) rfl rfl rfl ?_
      refine ps_st (S' := (78, [(4, .int 1), (0, .ref m0), (1, .int (nI x)), (3, .int 0)], [.int 0], M)) rfl rfl rfl ?_
      refine ps_if (S1 := (102, [(4, .int 1), (0, .ref m0), (1, .int (nI x)), (3, .int 0)], [], M)) (S2 := (81, [(4, .int 1), (0, .ref m0), (1, .int (nI x)), (3, .int 0)], [], M)) rfl rfl rfl (fun c_78 => ?_) (fun c_78 => ?_)
      · exact absurd (of_decide_eq_true c_78) (by decide)
      refine ps_st (S' := (82, [(4, .int 1), (0, .ref m0), (1, .int (nI x)), (3, .int 0)], [.int (nI x)], M)) rfl rfl rfl ?_
      refine ps_st (S' := (83, [(4, .int 1), (0, .ref m0), (1, .int (nI x)), (3, .int 0)], [.int 1, .int (nI x)], M)) rfl rfl rfl ?_
      refine ps_st (S' := (84, [(4, .int 1), (0, .ref m0), (1, .int (nI x)), (3, .int 0)], [.int 2, .int 1, .int (nI x)], M)) rfl rfl rfl ?_
      refine ps_st (S' := (85, [(4, .int 1), (0, .ref m0), (1, .int (nI x)), (3, .int 0)], [.int 4, .int 2, .int 1, .int (nI x)], M)) rfl rfl rfl ?_
      refine pl_call (a := [.int (nI x), .int 1, .int 2, .int 4]) (rest := []) rfl rfl rfl (rd_several (x := x)) (fun v4 M5 q6 => ?_)
      obtain ⟨rfl, rfl⟩ := q6
      show pl _ _ _ (88, [(4, .int 1), (0, .ref m0), (1, .int (nI x)), (3, .int 0)], [.int (nI (sevN x))], M) _
      refine ps_if (S1 := (100, [], [], M)) (S2 := (91, [(4, .int 1), (0, .ref m0), (1, .int (nI x)), (3, .int 0)], [], M)) rfl rfl rfl (fun c_88 => ?_) (fun c_88 => ?_)
      · have c_88 : ¬ (nI (sevN x)) = 0 := of_decide_eq_true c_88
        have n_88 : ¬ (sevN x = 0) := fun h9 => c_88 ((eq_nI (p := sevN x) (n := 0) (Nat.lt_trans (le1_sev _) (by decide)) (by decide)).mpr h9)
        refine ps_st (S' := (101, [], [.int 0], M)) rfl rfl rfl ?_
        exact ps_ret rfl rfl (⟨congrArg (fun x => some (Value.int (nI x))) (show 0 = fitN mj c x 0 from by
            have e3 := has_0 x 1400
            have e4 := has_0 x 1024
            have e5 := has_0 c 512
            have e2 := sev_0 x
            have b1 := le1_one x
            have ha : absN mj x = 0 := (abs_0 mj x).mpr (by omega)
            unfold fitN
            first | ((repeat first | rw [if_pos (by omega)] | rw [if_neg (by omega)]) <;> first | rfl | omega) | ((repeat' split) <;> first | rfl | (exfalso; omega) | omega)), rfl⟩)
      · have c_88 : ¬ (¬ (nI (sevN x)) = 0) := of_decide_eq_false c_88
        have n_88 : sevN x = 0 := (eq_nI (p := sevN x) (n := 0) (Nat.lt_trans (le1_sev _) (by decide)) (by decide)).mp (Decidable.not_not.mp c_88)
        refine ps_st (S' := (93, [(4, .int 1), (0, .ref m0), (1, .int (nI x)), (3, .int 0)], [.int 1], M)) rfl rfl rfl ?_
        refine ps_if (S1 := (100, [], [], M)) (S2 := (96, [(4, .int 1), (0, .ref m0), (1, .int (nI x)), (3, .int 0)], [], M)) rfl rfl rfl (fun c_93 => ?_) (fun c_93 => ?_)
        rotate_left
        · exact absurd (by decide) (of_decide_eq_false c_93)
        refine ps_st (S' := (101, [], [.int 0], M)) rfl rfl rfl ?_
        exact ps_ret rfl rfl (⟨congrArg (fun x => some (Value.int (nI x))) (show 0 = fitN mj c x 0 from by
            have e3 := has_0 x 1400
            have e4 := has_0 x 1024
            have e5 := has_0 c 512
            have e2 := sev_0 x
            have b1 := le1_one x
            have ha : absN mj x = 0 := (abs_0 mj x).mpr (by omega)
            unfold fitN
            first | ((repeat first | rw [if_pos (by omega)] | rw [if_neg (by omega)]) <;> first | rfl | omega) | ((repeat' split) <;> first | rfl | (exfalso; omega) | omega)), rfl⟩)
    · have c_41 : ¬ (¬ (nI (aN x 314)) = 0) := of_decide_eq_false c_41
      have n_41 : aN x 314 = 0 := (eq_nI (p := aN x 314) (n := 0) (Nat.lt_of_le_of_lt (an_le _ _) (by decide)) (by decide)).mp (Decidable.not_not.mp c_41)
      refine ps_st (S' := (45, [(0, .ref m0), (1, .int (nI x)), (2, .int 0), (3, .int 0)], [.ref m0], M)) rfl rfl rfl ?_
      refine pr_int (j := 53) (S' := (48, [(0, .ref m0), (1, .int (nI x)), (2, .int 0), (3, .int 0)], [.int (nI mj)], M)) rfl hR rfl hi53 rfl ?_
      refine ps_st (S' := (50, [(0, .ref m0), (1, .int (nI x)), (2, .int 0), (3, .int 0)], [.int 46, .int (nI mj)], M)) rfl rfl rfl ?_
      refine ps_if2 (S1 := (74, [(0, .ref m0), (1, .int (nI x)), (3, .int 0)], [], M)) (S2 := (53, [(0, .ref m0), (1, .int (nI x)), (2, .int 0), (3, .int 0)], [], M)) rfl rfl rfl (fun c_50 => ?_) (fun c_50 => ?_)
      · have c_50 : (nI mj) < 46 := of_decide_eq_true c_50
        have n_50 : mj < 46 := (lt_nI (p := mj) (n := 46) (by omega) (by decide)).mp c_50
        refine ps_st (S' := (75, [(0, .ref m0), (1, .int (nI x)), (3, .int 0)], [.int 0], M)) rfl rfl rfl ?_
        refine ps_st (S' := (77, [(4, .int 0), (0, .ref m0), (1, .int (nI x)), (3, .int 0)], [], M)) rfl rfl rfl ?_
        refine ps_st (S' := (78, [(4, .int 0), (0, .ref m0), (1, .int (nI x)), (3, .int 0)], [.int 0], M)) rfl rfl rfl ?_
        refine ps_if (S1 := (102, [(4, .int 0), (0, .ref m0), (1, .int (nI x)), (3, .int 0)], [], M)) (S2 := (81, [(4, .int 0), (0, .ref m0), (1, .int (nI x)), (3, .int 0)], [], M)) rfl rfl rfl (fun c_78 => ?_) (fun c_78 => ?_)
        · exact absurd (of_decide_eq_true c_78) (by decide)
        refine ps_st (S' := (82, [(4, .int 0), (0, .ref m0), (1, .int (nI x)), (3, .int 0)], [.int (nI x)], M)) rfl rfl rfl ?_
        refine ps_st (S' := (83, [(4, .int 0), (0, .ref m0), (1, .int (nI x)), (3, .int 0)], [.int 1, .int (nI x)], M)) rfl rfl rfl ?_
        refine ps_st (S' := (84, [(4, .int 0), (0, .ref m0), (1, .int (nI x)), (3, .int 0)], [.int 2, .int 1, .int (nI x)], M)) rfl rfl rfl ?_
        refine ps_st (S' := (85, [(4, .int 0), (0, .ref m0), (1, .int (nI x)), (3, .int 0)], [.int 4, .int 2, .int 1, .int (nI x)], M)) rfl rfl rfl ?_
        refine pl_call (a := [.int (nI x), .int 1, .int 2, .int 4]) (rest := []) rfl rfl rfl (rd_several (x := x)) (fun v7 M8 q9 => ?_)
        obtain ⟨rfl, rfl⟩ := q9
        show pl _ _ _ (88, [(4, .int 0), (0, .ref m0), (1, .int (nI x)), (3, .int 0)], [.int (nI (sevN x))], M) _
        refine ps_if (S1 := (100, [], [], M)) (S2 := (91, [(4, .int 0), (0, .ref m0), (1, .int (nI x)), (3, .int 0)], [], M)) rfl rfl rfl (fun c_88 => ?_) (fun c_88 => ?_)
        · have c_88 : ¬ (nI (sevN x)) = 0 := of_decide_eq_true c_88
          have n_88 : ¬ (sevN x = 0) := fun h9 => c_88 ((eq_nI (p := sevN x) (n := 0) (Nat.lt_trans (le1_sev _) (by decide)) (by decide)).mpr h9)
          refine ps_st (S' := (101, [], [.int 0], M)) rfl rfl rfl ?_
          exact ps_ret rfl rfl (⟨congrArg (fun x => some (Value.int (nI x))) (show 0 = fitN mj c x 0 from by
              have e3 := has_0 x 1400
              have e4 := has_0 x 1024
              have e5 := has_0 c 512
              have e2 := sev_0 x
              have b1 := le1_one x
              have ha : ¬ absN mj x = 0 := fun h => absurd ((abs_0 mj x).mp h) (by omega)
              unfold fitN
              first | ((repeat first | rw [if_pos (by omega)] | rw [if_neg (by omega)]) <;> first | rfl | omega) | ((repeat' split) <;> first | rfl | (exfalso; omega) | omega)), rfl⟩)
        · have c_88 : ¬ (¬ (nI (sevN x)) = 0) := of_decide_eq_false c_88
          have n_88 : sevN x = 0 := (eq_nI (p := sevN x) (n := 0) (Nat.lt_trans (le1_sev _) (by decide)) (by decide)).mp (Decidable.not_not.mp c_88)
          refine ps_st (S' := (93, [(4, .int 0), (0, .ref m0), (1, .int (nI x)), (3, .int 0)], [.int 0], M)) rfl rfl rfl ?_
          refine ps_if (S1 := (100, [], [], M)) (S2 := (96, [(4, .int 0), (0, .ref m0), (1, .int (nI x)), (3, .int 0)], [], M)) rfl rfl rfl (fun c_93 => ?_) (fun c_93 => ?_)
          · exact absurd (of_decide_eq_true c_93) (by decide)
          refine ps_st (S' := (97, [(4, .int 0), (0, .ref m0), (1, .int (nI x)), (3, .int 0)], [.int 1], M)) rfl rfl rfl ?_
          refine ps_st (S' := (101, [], [.int 1], M)) rfl rfl rfl ?_
          exact ps_ret rfl rfl (⟨congrArg (fun x => some (Value.int (nI x))) (show 1 = fitN mj c x 0 from by
              have e3 := has_0 x 1400
              have e4 := has_0 x 1024
              have e5 := has_0 c 512
              have e2 := sev_0 x
              have b1 := le1_one x
              have ha : ¬ absN mj x = 0 := fun h => absurd ((abs_0 mj x).mp h) (by omega)
              unfold fitN
              first | ((repeat first | rw [if_pos (by omega)] | rw [if_neg (by omega)]) <;> first | rfl | omega) | ((repeat' split) <;> first | rfl | (exfalso; omega) | omega)), rfl⟩)
      · have c_50 : ¬ ((nI mj) < 46) := of_decide_eq_false c_50
        have n_50 : ¬ (mj < 46) := fun h9 => c_50 ((lt_nI (p := mj) (n := 46) (by omega) (by decide)).mpr h9)
        refine ps_st (S' := (54, [(0, .ref m0), (1, .int (nI x)), (2, .int 0), (3, .int 0)], [.ref m0], M)) rfl rfl rfl ?_
        refine pr_int (j := 53) (S' := (57, [(0, .ref m0), (1, .int (nI x)), (2, .int 0), (3, .int 0)], [.int (nI mj)], M)) rfl hR rfl hi53 rfl ?_
        refine ps_st (S' := (59, [(0, .ref m0), (1, .int (nI x)), (2, .int 0), (3, .int 0)], [.int 60, .int (nI mj)], M)) rfl rfl rfl ?_
        refine ps_if2 (S1 := (74, [(0, .ref m0), (1, .int (nI x)), (3, .int 0)], [], M)) (S2 := (62, [(0, .ref m0), (1, .int (nI x)), (2, .int 0), (3, .int 0)], [], M)) rfl rfl rfl (fun c_59 => ?_) (fun c_59 => ?_)
        · have c_59 : 60 < (nI mj) := of_decide_eq_true c_59
          have n_59 : 60 < mj := (lt_nI (p := 60) (n := mj) (by decide) (by omega)).mp c_59
          refine ps_st (S' := (75, [(0, .ref m0), (1, .int (nI x)), (3, .int 0)], [.int 0], M)) rfl rfl rfl ?_
          refine ps_st (S' := (77, [(4, .int 0), (0, .ref m0), (1, .int (nI x)), (3, .int 0)], [], M)) rfl rfl rfl ?_
          refine ps_st (S' := (78, [(4, .int 0), (0, .ref m0), (1, .int (nI x)), (3, .int 0)], [.int 0], M)) rfl rfl rfl ?_
          refine ps_if (S1 := (102, [(4, .int 0), (0, .ref m0), (1, .int (nI x)), (3, .int 0)], [], M)) (S2 := (81, [(4, .int 0), (0, .ref m0), (1, .int (nI x)), (3, .int 0)], [], M)) rfl rfl rfl (fun c_78 => ?_) (fun c_78 => ?_)
          · exact absurd (of_decide_eq_true c_78) (by decide)
          refine ps_st (S' := (82, [(4, .int 0), (0, .ref m0), (1, .int (nI x)), (3, .int 0)], [.int (nI x)], M)) rfl rfl rfl ?_
          refine ps_st (S' := (83, [(4, .int 0), (0, .ref m0), (1, .int (nI x)), (3, .int 0)], [.int 1, .int (nI x)], M)) rfl rfl rfl ?_
          refine ps_st (S' := (84, [(4, .int 0), (0, .ref m0), (1, .int (nI x)), (3, .int 0)], [.int 2, .int 1, .int (nI x)], M)) rfl rfl rfl ?_
          refine ps_st (S' := (85, [(4, .int 0), (0, .ref m0), (1, .int (nI x)), (3, .int 0)], [.int 4, .int 2, .int 1, .int (nI x)], M)) rfl rfl rfl ?_
          refine pl_call (a := [.int (nI x), .int 1, .int 2, .int 4]) (rest := []) rfl rfl rfl (rd_several (x := x)) (fun v10 M11 q12 => ?_)
          obtain ⟨rfl, rfl⟩ := q12
          show pl _ _ _ (88, [(4, .int 0), (0, .ref m0), (1, .int (nI x)), (3, .int 0)], [.int (nI (sevN x))], M) _
          refine ps_if (S1 := (100, [], [], M)) (S2 := (91, [(4, .int 0), (0, .ref m0), (1, .int (nI x)), (3, .int 0)], [], M)) rfl rfl rfl (fun c_88 => ?_) (fun c_88 => ?_)
          · have c_88 : ¬ (nI (sevN x)) = 0 := of_decide_eq_true c_88
            have n_88 : ¬ (sevN x = 0) := fun h9 => c_88 ((eq_nI (p := sevN x) (n := 0) (Nat.lt_trans (le1_sev _) (by decide)) (by decide)).mpr h9)
            refine ps_st (S' := (101, [], [.int 0], M)) rfl rfl rfl ?_
            exact ps_ret rfl rfl (⟨congrArg (fun x => some (Value.int (nI x))) (show 0 = fitN mj c x 0 from by
                have e3 := has_0 x 1400
                have e4 := has_0 x 1024
                have e5 := has_0 c 512
                have e2 := sev_0 x
                have b1 := le1_one x
                have ha : ¬ absN mj x = 0 := fun h => absurd ((abs_0 mj x).mp h) (by omega)
                unfold fitN
                first | ((repeat first | rw [if_pos (by omega)] | rw [if_neg (by omega)]) <;> first | rfl | omega) | ((repeat' split) <;> first | rfl | (exfalso; omega) | omega)), rfl⟩)
          · have c_88 : ¬ (¬ (nI (sevN x)) = 0) := of_decide_eq_false c_88
            have n_88 : sevN x = 0 := (eq_nI (p := sevN x) (n := 0) (Nat.lt_trans (le1_sev _) (by decide)) (by decide)).mp (Decidable.not_not.mp c_88)
            refine ps_st (S' := (93, [(4, .int 0), (0, .ref m0), (1, .int (nI x)), (3, .int 0)], [.int 0], M)) rfl rfl rfl ?_
            refine ps_if (S1 := (100, [], [], M)) (S2 := (96, [(4, .int 0), (0, .ref m0), (1, .int (nI x)), (3, .int 0)], [], M)) rfl rfl rfl (fun c_93 => ?_) (fun c_93 => ?_)
            · exact absurd (of_decide_eq_true c_93) (by decide)
            refine ps_st (S' := (97, [(4, .int 0), (0, .ref m0), (1, .int (nI x)), (3, .int 0)], [.int 1], M)) rfl rfl rfl ?_
            refine ps_st (S' := (101, [], [.int 1], M)) rfl rfl rfl ?_
            exact ps_ret rfl rfl (⟨congrArg (fun x => some (Value.int (nI x))) (show 1 = fitN mj c x 0 from by
                have e3 := has_0 x 1400
                have e4 := has_0 x 1024
                have e5 := has_0 c 512
                have e2 := sev_0 x
                have b1 := le1_one x
                have ha : ¬ absN mj x = 0 := fun h => absurd ((abs_0 mj x).mp h) (by omega)
                unfold fitN
                first | ((repeat first | rw [if_pos (by omega)] | rw [if_neg (by omega)]) <;> first | rfl | omega) | ((repeat' split) <;> first | rfl | (exfalso; omega) | omega)), rfl⟩)
        · have c_59 : ¬ (60 < (nI mj)) := of_decide_eq_false c_59
          have n_59 : ¬ (60 < mj) := fun h9 => c_59 ((lt_nI (p := 60) (n := mj) (by decide) (by omega)).mpr h9)
          refine ps_st (S' := (63, [(0, .ref m0), (1, .int (nI x)), (2, .int 0), (3, .int 0)], [.int (nI x)], M)) rfl rfl rfl ?_
          refine ps_st (S' := (66, [(0, .ref m0), (1, .int (nI x)), (2, .int 0), (3, .int 0)], [.int 2048, .int (nI x)], M)) rfl rfl rfl ?_
          refine ps_st (S' := (67, [(0, .ref m0), (1, .int (nI x)), (2, .int 0), (3, .int 0)], [.int ((nI x) &&& 2048)], M)) rfl rfl rfl ?_
          rw [nI_an (p := x) (k := 2048) (x := 2048) rfl]
          show pl _ _ _ (_, [(0, .ref m0), (1, .int (nI x)), (2, .int 0), (3, .int 0)], [.int (nI (aN x 2048))], M) _
          refine ps_if (S1 := (74, [(0, .ref m0), (1, .int (nI x)), (3, .int 0)], [], M)) (S2 := (70, [(0, .ref m0), (1, .int (nI x)), (3, .int 0)], [], M)) rfl rfl rfl (fun c_67 => ?_) (fun c_67 => ?_)
          · have c_67 : (nI (aN x 2048)) = 0 := of_decide_eq_true c_67
            have n_67 : aN x 2048 = 0 := (eq_nI (p := aN x 2048) (n := 0) (Nat.lt_of_le_of_lt (an_le _ _) (by decide)) (by decide)).mp c_67
            refine ps_st (S' := (75, [(0, .ref m0), (1, .int (nI x)), (3, .int 0)], [.int 0], M)) rfl rfl rfl ?_
            refine ps_st (S' := (77, [(4, .int 0), (0, .ref m0), (1, .int (nI x)), (3, .int 0)], [], M)) rfl rfl rfl ?_
            refine ps_st (S' := (78, [(4, .int 0), (0, .ref m0), (1, .int (nI x)), (3, .int 0)], [.int 0], M)) rfl rfl rfl ?_
            refine ps_if (S1 := (102, [(4, .int 0), (0, .ref m0), (1, .int (nI x)), (3, .int 0)], [], M)) (S2 := (81, [(4, .int 0), (0, .ref m0), (1, .int (nI x)), (3, .int 0)], [], M)) rfl rfl rfl (fun c_78 => ?_) (fun c_78 => ?_)
            · exact absurd (of_decide_eq_true c_78) (by decide)
            refine ps_st (S' := (82, [(4, .int 0), (0, .ref m0), (1, .int (nI x)), (3, .int 0)], [.int (nI x)], M)) rfl rfl rfl ?_
            refine ps_st (S' := (83, [(4, .int 0), (0, .ref m0), (1, .int (nI x)), (3, .int 0)], [.int 1, .int (nI x)], M)) rfl rfl rfl ?_
            refine ps_st (S' := (84, [(4, .int 0), (0, .ref m0), (1, .int (nI x)), (3, .int 0)], [.int 2, .int 1, .int (nI x)], M)) rfl rfl rfl ?_
            refine ps_st (S' := (85, [(4, .int 0), (0, .ref m0), (1, .int (nI x)), (3, .int 0)], [.int 4, .int 2, .int 1, .int (nI x)], M)) rfl rfl rfl ?_
            refine pl_call (a := [.int (nI x), .int 1, .int 2, .int 4]) (rest := []) rfl rfl rfl (rd_several (x := x)) (fun v13 M14 q15 => ?_)
            obtain ⟨rfl, rfl⟩ := q15
            show pl _ _ _ (88, [(4, .int 0), (0, .ref m0), (1, .int (nI x)), (3, .int 0)], [.int (nI (sevN x))], M) _
            refine ps_if (S1 := (100, [], [], M)) (S2 := (91, [(4, .int 0), (0, .ref m0), (1, .int (nI x)), (3, .int 0)], [], M)) rfl rfl rfl (fun c_88 => ?_) (fun c_88 => ?_)
            · have c_88 : ¬ (nI (sevN x)) = 0 := of_decide_eq_true c_88
              have n_88 : ¬ (sevN x = 0) := fun h9 => c_88 ((eq_nI (p := sevN x) (n := 0) (Nat.lt_trans (le1_sev _) (by decide)) (by decide)).mpr h9)
              refine ps_st (S' := (101, [], [.int 0], M)) rfl rfl rfl ?_
              exact ps_ret rfl rfl (⟨congrArg (fun x => some (Value.int (nI x))) (show 0 = fitN mj c x 0 from by
                  have e3 := has_0 x 1400
                  have e4 := has_0 x 1024
                  have e5 := has_0 c 512
                  have e2 := sev_0 x
                  have b1 := le1_one x
                  have ha : ¬ absN mj x = 0 := fun h => absurd ((abs_0 mj x).mp h) (by omega)
                  unfold fitN
                  first | ((repeat first | rw [if_pos (by omega)] | rw [if_neg (by omega)]) <;> first | rfl | omega) | ((repeat' split) <;> first | rfl | (exfalso; omega) | omega)), rfl⟩)
            · have c_88 : ¬ (¬ (nI (sevN x)) = 0) := of_decide_eq_false c_88
              have n_88 : sevN x = 0 := (eq_nI (p := sevN x) (n := 0) (Nat.lt_trans (le1_sev _) (by decide)) (by decide)).mp (Decidable.not_not.mp c_88)
              refine ps_st (S' := (93, [(4, .int 0), (0, .ref m0), (1, .int (nI x)), (3, .int 0)], [.int 0], M)) rfl rfl rfl ?_
              refine ps_if (S1 := (100, [], [], M)) (S2 := (96, [(4, .int 0), (0, .ref m0), (1, .int (nI x)), (3, .int 0)], [], M)) rfl rfl rfl (fun c_93 => ?_) (fun c_93 => ?_)
              · exact absurd (of_decide_eq_true c_93) (by decide)
              refine ps_st (S' := (97, [(4, .int 0), (0, .ref m0), (1, .int (nI x)), (3, .int 0)], [.int 1], M)) rfl rfl rfl ?_
              refine ps_st (S' := (101, [], [.int 1], M)) rfl rfl rfl ?_
              exact ps_ret rfl rfl (⟨congrArg (fun x => some (Value.int (nI x))) (show 1 = fitN mj c x 0 from by
                  have e3 := has_0 x 1400
                  have e4 := has_0 x 1024
                  have e5 := has_0 c 512
                  have e2 := sev_0 x
                  have b1 := le1_one x
                  have ha : ¬ absN mj x = 0 := fun h => absurd ((abs_0 mj x).mp h) (by omega)
                  unfold fitN
                  first | ((repeat first | rw [if_pos (by omega)] | rw [if_neg (by omega)]) <;> first | rfl | omega) | ((repeat' split) <;> first | rfl | (exfalso; omega) | omega)), rfl⟩)
          · have c_67 : ¬ ((nI (aN x 2048)) = 0) := of_decide_eq_false c_67
            have n_67 : ¬ (aN x 2048 = 0) := fun h9 => c_67 ((eq_nI (p := aN x 2048) (n := 0) (Nat.lt_of_le_of_lt (an_le _ _) (by decide)) (by decide)).mpr h9)
            refine ps_st (S' := (71, [(0, .ref m0), (1, .int (nI x)), (3, .int 0)], [.int 1], M)) rfl rfl rfl ?_
            refine ps_st (S' := (75, [(0, .ref m0), (1, .int (nI x)), (3, .int 0)], [.int 1], M)) rfl rfl rfl ?_
            refine ps_st (S' := (77, [(4, .int 1), (0, .ref m0), (1, .int (nI x)), (3, .int 0)], [], M)) rfl rfl rfl ?_
            refine ps_st (S' := (78, [(4, .int 1), (0, .ref m0), (1, .int (nI x)), (3, .int 0)], [.int 0], M)) rfl rfl rfl ?_
            refine ps_if (S1 := (102, [(4, .int 1), (0, .ref m0), (1, .int (nI x)), (3, .int 0)], [], M)) (S2 := (81, [(4, .int 1), (0, .ref m0), (1, .int (nI x)), (3, .int 0)], [], M)) rfl rfl rfl (fun c_78 => ?_) (fun c_78 => ?_)
            · exact absurd (of_decide_eq_true c_78) (by decide)
            refine ps_st (S' := (82, [(4, .int 1), (0, .ref m0), (1, .int (nI x)), (3, .int 0)], [.int (nI x)], M)) rfl rfl rfl ?_
            refine ps_st (S' := (83, [(4, .int 1), (0, .ref m0), (1, .int (nI x)), (3, .int 0)], [.int 1, .int (nI x)], M)) rfl rfl rfl ?_
            refine ps_st (S' := (84, [(4, .int 1), (0, .ref m0), (1, .int (nI x)), (3, .int 0)], [.int 2, .int 1, .int (nI x)], M)) rfl rfl rfl ?_
            refine ps_st (S' := (85, [(4, .int 1), (0, .ref m0), (1, .int (nI x)), (3, .int 0)], [.int 4, .int 2, .int 1, .int (nI x)], M)) rfl rfl rfl ?_
            refine pl_call (a := [.int (nI x), .int 1, .int 2, .int 4]) (rest := []) rfl rfl rfl (rd_several (x := x)) (fun v16 M17 q18 => ?_)
            obtain ⟨rfl, rfl⟩ := q18
            show pl _ _ _ (88, [(4, .int 1), (0, .ref m0), (1, .int (nI x)), (3, .int 0)], [.int (nI (sevN x))], M) _
            refine ps_if (S1 := (100, [], [], M)) (S2 := (91, [(4, .int 1), (0, .ref m0), (1, .int (nI x)), (3, .int 0)], [], M)) rfl rfl rfl (fun c_88 => ?_) (fun c_88 => ?_)
            · have c_88 : ¬ (nI (sevN x)) = 0 := of_decide_eq_true c_88
              have n_88 : ¬ (sevN x = 0) := fun h9 => c_88 ((eq_nI (p := sevN x) (n := 0) (Nat.lt_trans (le1_sev _) (by decide)) (by decide)).mpr h9)
              refine ps_st (S' := (101, [], [.int 0], M)) rfl rfl rfl ?_
              exact ps_ret rfl rfl (⟨congrArg (fun x => some (Value.int (nI x))) (show 0 = fitN mj c x 0 from by
                  have e3 := has_0 x 1400
                  have e4 := has_0 x 1024
                  have e5 := has_0 c 512
                  have e2 := sev_0 x
                  have b1 := le1_one x
                  have ha : absN mj x = 0 := (abs_0 mj x).mpr (by omega)
                  unfold fitN
                  first | ((repeat first | rw [if_pos (by omega)] | rw [if_neg (by omega)]) <;> first | rfl | omega) | ((repeat' split) <;> first | rfl | (exfalso; omega) | omega)), rfl⟩)
            · have c_88 : ¬ (¬ (nI (sevN x)) = 0) := of_decide_eq_false c_88
              have n_88 : sevN x = 0 := (eq_nI (p := sevN x) (n := 0) (Nat.lt_trans (le1_sev _) (by decide)) (by decide)).mp (Decidable.not_not.mp c_88)
              refine ps_st (S' := (93, [(4, .int 1), (0, .ref m0), (1, .int (nI x)), (3, .int 0)], [.int 1], M)) rfl rfl rfl ?_
              refine ps_if (S1 := (100, [], [], M)) (S2 := (96, [(4, .int 1), (0, .ref m0), (1, .int (nI x)), (3, .int 0)], [], M)) rfl rfl rfl (fun c_93 => ?_) (fun c_93 => ?_)
              rotate_left
              · exact absurd (by decide) (of_decide_eq_false c_93)
              refine ps_st (S' := (101, [], [.int 0], M)) rfl rfl rfl ?_
              exact ps_ret rfl rfl (⟨congrArg (fun x => some (Value.int (nI x))) (show 0 = fitN mj c x 0 from by
                  have e3 := has_0 x 1400
                  have e4 := has_0 x 1024
                  have e5 := has_0 c 512
                  have e2 := sev_0 x
                  have b1 := le1_one x
                  have ha : absN mj x = 0 := (abs_0 mj x).mpr (by omega)
                  unfold fitN
                  first | ((repeat first | rw [if_pos (by omega)] | rw [if_neg (by omega)]) <;> first | rfl | omega) | ((repeat' split) <;> first | rfl | (exfalso; omega) | omega)), rfl⟩)
set_option maxHeartbeats 8000000 in
theorem rd_fit01 {g : xe_G} {m0 : Nat} {q : Nat → Nat} {z : Nat × Nat} {I : rI} {R : rR} {M : mi_H} {mj x c : Nat} (hR : RS g m0 q z I R M) (hi53 : I 53 = some (nI mj))  (hmj : mj < 65536) (hx : x < 65536) (hc : ¬ aN c 512 = 0) : pt (mT g) 209 [.ref m0, .int (nI x), .int 0, .int 1] M (fun v M' => (v = some (.int (nI (fitN mj c x 0))) ∧ M = M')) := by
  refine pt_in (b := mb_209 g) rfl (fun kf => ?_)
  show pl (mT g) kf (mb_209 g).2 (0, [(0, .ref m0), (1, .int (nI x)), (2, .int 0), (3, .int 1)], [], M) _
  refine ps_st (S' := (1, [(0, .ref m0), (1, .int (nI x)), (2, .int 0), (3, .int 1)], [.int 0], M)) rfl rfl rfl ?_
  refine ps_if (S1 := (28, [(0, .ref m0), (1, .int (nI x)), (2, .int 0), (3, .int 1)], [], M)) (S2 := (4, [(0, .ref m0), (1, .int (nI x)), (2, .int 0), (3, .int 1)], [], M)) rfl rfl rfl (fun c_1 => ?_) (fun c_1 => ?_)
  rotate_left
  · exact absurd (by decide) (of_decide_eq_false c_1)
  refine ps_st (S' := (29, [(0, .ref m0), (1, .int (nI x)), (2, .int 0), (3, .int 1)], [.int (nI x)], M)) rfl rfl rfl ?_
  refine ps_st (S' := (32, [(0, .ref m0), (1, .int (nI x)), (2, .int 0), (3, .int 1)], [.int 1024, .int (nI x)], M)) rfl rfl rfl ?_
  refine ps_st (S' := (33, [(0, .ref m0), (1, .int (nI x)), (2, .int 0), (3, .int 1)], [.int ((nI x) &&& 1024)], M)) rfl rfl rfl ?_
  rw [nI_an (p := x) (k := 1024) (x := 1024) rfl]
  show pl _ _ _ (_, [(0, .ref m0), (1, .int (nI x)), (2, .int 0), (3, .int 1)], [.int (nI (aN x 1024))], M) _
  refine ps_if (S1 := (74, [(0, .ref m0), (1, .int (nI x)), (3, .int 1)], [], M)) (S2 := (36, [(0, .ref m0), (1, .int (nI x)), (2, .int 0), (3, .int 1)], [], M)) rfl rfl rfl (fun c_33 => ?_) (fun c_33 => ?_)
  · have c_33 : (nI (aN x 1024)) = 0 := of_decide_eq_true c_33
    have n_33 : aN x 1024 = 0 := (eq_nI (p := aN x 1024) (n := 0) (Nat.lt_of_le_of_lt (an_le _ _) (by decide)) (by decide)).mp c_33
    refine ps_st (S' := (75, [(0, .ref m0), (1, .int (nI x)), (3, .int 1)], [.int 0], M)) rfl rfl rfl ?_
    refine ps_st (S' := (77, [(4, .int 0), (0, .ref m0), (1, .int (nI x)), (3, .int 1)], [], M)) rfl rfl rfl ?_
    refine ps_st (S' := (78, [(4, .int 0), (0, .ref m0), (1, .int (nI x)), (3, .int 1)], [.int 1], M)) rfl rfl rfl ?_
    refine ps_if (S1 := (102, [(4, .int 0), (0, .ref m0), (1, .int (nI x)), (3, .int 1)], [], M)) (S2 := (81, [(4, .int 0), (0, .ref m0), (1, .int (nI x)), (3, .int 1)], [], M)) rfl rfl rfl (fun c_78 => ?_) (fun c_78 => ?_)
    rotate_left
    · exact absurd (by decide) (of_decide_eq_false c_78)
    refine ps_st (S' := (103, [(4, .int 0), (0, .ref m0), (1, .int (nI x)), (3, .int 1)], [.int (nI x)], M)) rfl rfl rfl ?_
    refine ps_st (S' := (106, [(4, .int 0), (0, .ref m0), (1, .int (nI x)), (3, .int 1)], [.int 308, .int (nI x)], M)) rfl rfl rfl ?_
    refine ps_st (S' := (107, [(4, .int 0), (0, .ref m0), (1, .int (nI x)), (3, .int 1)], [.int ((nI x) &&& 308)], M)) rfl rfl rfl ?_
    rw [nI_an (p := x) (k := 308) (x := 308) rfl]
    show pl _ _ _ (_, [(4, .int 0), (0, .ref m0), (1, .int (nI x)), (3, .int 1)], [.int (nI (aN x 308))], M) _
    refine ps_if (S1 := (112, [(4, .int 0), (0, .ref m0), (1, .int (nI x)), (3, .int 1)], [], M)) (S2 := (110, [(4, .int 0), (0, .ref m0), (1, .int (nI x)), (3, .int 1)], [], M)) rfl rfl rfl (fun c_107 => ?_) (fun c_107 => ?_)
    · have c_107 : (nI (aN x 308)) = 0 := of_decide_eq_true c_107
      have n_107 : aN x 308 = 0 := (eq_nI (p := aN x 308) (n := 0) (Nat.lt_of_le_of_lt (an_le _ _) (by decide)) (by decide)).mp c_107
      refine ps_st (S' := (113, [(4, .int 0), (0, .ref m0), (1, .int (nI x)), (3, .int 1)], [.ref m0], M)) rfl rfl rfl ?_
      refine pr_int (j := 53) (S' := (116, [(4, .int 0), (0, .ref m0), (1, .int (nI x)), (3, .int 1)], [.int (nI mj)], M)) rfl hR rfl hi53 rfl ?_
      refine ps_st (S' := (118, [(4, .int 0), (0, .ref m0), (1, .int (nI x)), (3, .int 1)], [.int 52, .int (nI mj)], M)) rfl rfl rfl ?_
      refine ps_if2 (S1 := (145, [(4, .int 0), (0, .ref m0), (1, .int (nI x)), (3, .int 1)], [], M)) (S2 := (121, [(4, .int 0), (0, .ref m0), (1, .int (nI x)), (3, .int 1)], [], M)) rfl rfl rfl (fun c_118 => ?_) (fun c_118 => ?_)
      · have c_118 : 52 ≤ (nI mj) := of_decide_eq_true c_118
        have n_118 : 52 ≤ mj := (le_nI (p := 52) (n := mj) (by decide) (by omega)).mp c_118
        refine ps_st (S' := (146, [(4, .int 0), (0, .ref m0), (1, .int (nI x)), (3, .int 1)], [.int (nI x)], M)) rfl rfl rfl ?_
        refine ps_st (S' := (147, [(4, .int 0), (0, .ref m0), (1, .int (nI x)), (3, .int 1)], [.int 1, .int (nI x)], M)) rfl rfl rfl ?_
        refine ps_st (S' := (148, [(4, .int 0), (0, .ref m0), (1, .int (nI x)), (3, .int 1)], [.int ((nI x) &&& 1)], M)) rfl rfl rfl ?_
        rw [nI_an (p := x) (k := 1) (x := 1) rfl]
        show pl _ _ _ (_, [(4, .int 0), (0, .ref m0), (1, .int (nI x)), (3, .int 1)], [.int (nI (aN x 1))], M) _
        refine ps_if (S1 := (155, [(4, .int 0), (0, .ref m0), (1, .int (nI x)), (3, .int 1)], [], M)) (S2 := (151, [(4, .int 0), (0, .ref m0), (1, .int (nI x)), (3, .int 1)], [], M)) rfl rfl rfl (fun c_148 => ?_) (fun c_148 => ?_)
        · have c_148 : (nI (aN x 1)) = 0 := of_decide_eq_true c_148
          have n_148 : aN x 1 = 0 := (eq_nI (p := aN x 1) (n := 0) (Nat.lt_of_le_of_lt (an_le _ _) (by decide)) (by decide)).mp c_148
          refine ps_st (S' := (156, [(1, .int (nI x)), (4, .int 0)], [.int 0], M)) rfl rfl rfl ?_
          refine ps_st (S' := (157, [(1, .int (nI x)), (4, .int 0)], [.int (nI x), .int 0], M)) rfl rfl rfl ?_
          refine ps_st (S' := (158, [(1, .int (nI x)), (4, .int 0)], [.int 2, .int (nI x), .int 0], M)) rfl rfl rfl ?_
          refine ps_st (S' := (159, [(1, .int (nI x)), (4, .int 0)], [.int ((nI x) &&& 2), .int 0], M)) rfl rfl rfl ?_
          rw [nI_an (p := x) (k := 2) (x := 2) rfl]
          show pl _ _ _ (_, [(1, .int (nI x)), (4, .int 0)], [.int (nI (aN x 2)), .int 0], M) _
          refine ps_if (S1 := (166, [(1, .int (nI x)), (4, .int 0)], [.int 0], M)) (S2 := (162, [(1, .int (nI x)), (4, .int 0)], [.int 0], M)) rfl rfl rfl (fun c_159 => ?_) (fun c_159 => ?_)
          · have c_159 : (nI (aN x 2)) = 0 := of_decide_eq_true c_159
            have n_159 : aN x 2 = 0 := (eq_nI (p := aN x 2) (n := 0) (Nat.lt_of_le_of_lt (an_le _ _) (by decide)) (by decide)).mp c_159
            refine ps_st (S' := (167, [(4, .int 0)], [.int 0, .int 0], M)) rfl rfl rfl ?_
            refine ps_if2 (S1 := (172, [(4, .int 0)], [], M)) (S2 := (170, [], [], M)) rfl rfl rfl (fun c_167 => ?_) (fun c_167 => ?_)
            · exact absurd (of_decide_eq_true c_167) (by decide)
            refine ps_st (S' := (171, [], [.int 0], M)) rfl rfl rfl ?_
            exact ps_ret rfl rfl (⟨congrArg (fun x => some (Value.int (nI x))) (show 0 = fitN mj c x 0 from by
                have e3 := has_0 x 1400
                have e4 := has_0 x 1024
                have e5 := has_0 c 512
                have e2 := sev_0 x
                have b1 := le1_one x
                have b2 := le1_imh mj x
                have hi : imhN mj x = 0 := (imh_0 mj x).mpr (by omega)
                unfold fitN
                first | ((repeat first | rw [if_pos (by omega)] | rw [if_neg (by omega)]) <;> first | rfl | omega) | ((repeat' split) <;> first | rfl | (exfalso; omega) | omega)), rfl⟩)
          · have c_159 : ¬ ((nI (aN x 2)) = 0) := of_decide_eq_false c_159
            have n_159 : ¬ (aN x 2 = 0) := fun h9 => c_159 ((eq_nI (p := aN x 2) (n := 0) (Nat.lt_of_le_of_lt (an_le _ _) (by decide)) (by decide)).mpr h9)
            refine ps_st (S' := (163, [(1, .int (nI x)), (4, .int 0)], [.int 1, .int 0], M)) rfl rfl rfl ?_
            refine ps_st (S' := (167, [(4, .int 0)], [.int 1, .int 0], M)) rfl rfl rfl ?_
            refine ps_if2 (S1 := (172, [(4, .int 0)], [], M)) (S2 := (170, [], [], M)) rfl rfl rfl (fun c_167 => ?_) (fun c_167 => ?_)
            rotate_left
            · exact absurd (by decide) (of_decide_eq_false c_167)
            refine ps_st (S' := (174, [(4, .int 0)], [.int 0], M)) rfl rfl rfl ?_
            refine ps_if (S1 := (181, [(4, .int 0)], [], M)) (S2 := (177, [(4, .int 0)], [], M)) rfl rfl rfl (fun c_174 => ?_) (fun c_174 => ?_)
            · exact absurd (of_decide_eq_true c_174) (by decide)
            refine ps_st (S' := (178, [(4, .int 0)], [.int 1], M)) rfl rfl rfl ?_
            refine ps_st (S' := (182, [], [.int 1], M)) rfl rfl rfl ?_
            exact ps_ret rfl rfl (⟨congrArg (fun x => some (Value.int (nI x))) (show 1 = fitN mj c x 0 from by
                have e3 := has_0 x 1400
                have e4 := has_0 x 1024
                have e5 := has_0 c 512
                have e2 := sev_0 x
                have b1 := le1_one x
                have b2 := le1_imh mj x
                have hi : ¬ imhN mj x = 0 := fun h => absurd ((imh_0 mj x).mp h) (by omega)
                unfold fitN
                first | ((repeat first | rw [if_pos (by omega)] | rw [if_neg (by omega)]) <;> first | rfl | omega) | ((repeat' split) <;> first | rfl | (exfalso; omega) | omega)), rfl⟩)
        · have c_148 : ¬ ((nI (aN x 1)) = 0) := of_decide_eq_false c_148
          have n_148 : ¬ (aN x 1 = 0) := fun h9 => c_148 ((eq_nI (p := aN x 1) (n := 0) (Nat.lt_of_le_of_lt (an_le _ _) (by decide)) (by decide)).mpr h9)
          refine ps_st (S' := (152, [(4, .int 0), (0, .ref m0), (1, .int (nI x)), (3, .int 1)], [.int 1], M)) rfl rfl rfl ?_
          refine ps_st (S' := (156, [(1, .int (nI x)), (4, .int 0)], [.int 1], M)) rfl rfl rfl ?_
          refine ps_st (S' := (157, [(1, .int (nI x)), (4, .int 0)], [.int (nI x), .int 1], M)) rfl rfl rfl ?_
          refine ps_st (S' := (158, [(1, .int (nI x)), (4, .int 0)], [.int 2, .int (nI x), .int 1], M)) rfl rfl rfl ?_
          refine ps_st (S' := (159, [(1, .int (nI x)), (4, .int 0)], [.int ((nI x) &&& 2), .int 1], M)) rfl rfl rfl ?_
          rw [nI_an (p := x) (k := 2) (x := 2) rfl]
          show pl _ _ _ (_, [(1, .int (nI x)), (4, .int 0)], [.int (nI (aN x 2)), .int 1], M) _
          refine ps_if (S1 := (166, [(1, .int (nI x)), (4, .int 0)], [.int 1], M)) (S2 := (162, [(1, .int (nI x)), (4, .int 0)], [.int 1], M)) rfl rfl rfl (fun c_159 => ?_) (fun c_159 => ?_)
          · have c_159 : (nI (aN x 2)) = 0 := of_decide_eq_true c_159
            have n_159 : aN x 2 = 0 := (eq_nI (p := aN x 2) (n := 0) (Nat.lt_of_le_of_lt (an_le _ _) (by decide)) (by decide)).mp c_159
            refine ps_st (S' := (167, [(4, .int 0)], [.int 0, .int 1], M)) rfl rfl rfl ?_
            refine ps_if2 (S1 := (172, [(4, .int 0)], [], M)) (S2 := (170, [], [], M)) rfl rfl rfl (fun c_167 => ?_) (fun c_167 => ?_)
            rotate_left
            · exact absurd (by decide) (of_decide_eq_false c_167)
            refine ps_st (S' := (174, [(4, .int 0)], [.int 0], M)) rfl rfl rfl ?_
            refine ps_if (S1 := (181, [(4, .int 0)], [], M)) (S2 := (177, [(4, .int 0)], [], M)) rfl rfl rfl (fun c_174 => ?_) (fun c_174 => ?_)
            · exact absurd (of_decide_eq_true c_174) (by decide)
            refine ps_st (S' := (178, [(4, .int 0)], [.int 1], M)) rfl rfl rfl ?_
            refine ps_st (S' := (182, [], [.int 1], M)) rfl rfl rfl ?_
            exact ps_ret rfl rfl (⟨congrArg (fun x => some (Value.int (nI x))) (show 1 = fitN mj c x 0 from by
                have e3 := has_0 x 1400
                have e4 := has_0 x 1024
                have e5 := has_0 c 512
                have e2 := sev_0 x
                have b1 := le1_one x
                have b2 := le1_imh mj x
                have hi : ¬ imhN mj x = 0 := fun h => absurd ((imh_0 mj x).mp h) (by omega)
                unfold fitN
                first | ((repeat first | rw [if_pos (by omega)] | rw [if_neg (by omega)]) <;> first | rfl | omega) | ((repeat' split) <;> first | rfl | (exfalso; omega) | omega)), rfl⟩)
          · have c_159 : ¬ ((nI (aN x 2)) = 0) := of_decide_eq_false c_159
            have n_159 : ¬ (aN x 2 = 0) := fun h9 => c_159 ((eq_nI (p := aN x 2) (n := 0) (Nat.lt_of_le_of_lt (an_le _ _) (by decide)) (by decide)).mpr h9)
            refine ps_st (S' := (163, [(1, .int (nI x)), (4, .int 0)], [.int 1, .int 1], M)) rfl rfl rfl ?_
            refine ps_st (S' := (167, [(4, .int 0)], [.int 1, .int 1], M)) rfl rfl rfl ?_
            refine ps_if2 (S1 := (172, [(4, .int 0)], [], M)) (S2 := (170, [], [], M)) rfl rfl rfl (fun c_167 => ?_) (fun c_167 => ?_)
            · exact absurd (of_decide_eq_true c_167) (by decide)
            refine ps_st (S' := (171, [], [.int 0], M)) rfl rfl rfl ?_
            exact ps_ret rfl rfl (⟨congrArg (fun x => some (Value.int (nI x))) (show 0 = fitN mj c x 0 from by
                have e3 := has_0 x 1400
                have e4 := has_0 x 1024
                have e5 := has_0 c 512
                have e2 := sev_0 x
                have b1 := le1_one x
                have b2 := le1_imh mj x
                have hi : imhN mj x = 0 := (imh_0 mj x).mpr (by omega)
                unfold fitN
                first | ((repeat first | rw [if_pos (by omega)] | rw [if_neg (by omega)]) <;> first | rfl | omega) | ((repeat' split) <;> first | rfl | (exfalso; omega) | omega)), rfl⟩)
      · have c_118 : ¬ (52 ≤ (nI mj)) := of_decide_eq_false c_118
        have n_118 : ¬ (52 ≤ mj) := fun h9 => c_118 ((le_nI (p := 52) (n := mj) (by decide) (by omega)).mpr h9)
        refine ps_st (S' := (122, [(4, .int 0), (0, .ref m0), (1, .int (nI x)), (3, .int 1)], [.int (nI x)], M)) rfl rfl rfl ?_
        refine ps_st (S' := (123, [(4, .int 0), (0, .ref m0), (1, .int (nI x)), (3, .int 1)], [.int 1, .int (nI x)], M)) rfl rfl rfl ?_
        refine ps_st (S' := (124, [(4, .int 0), (0, .ref m0), (1, .int (nI x)), (3, .int 1)], [.int ((nI x) &&& 1)], M)) rfl rfl rfl ?_
        rw [nI_an (p := x) (k := 1) (x := 1) rfl]
        show pl _ _ _ (_, [(4, .int 0), (0, .ref m0), (1, .int (nI x)), (3, .int 1)], [.int (nI (aN x 1))], M) _
        refine ps_if (S1 := (170, [], [], M)) (S2 := (127, [(4, .int 0), (0, .ref m0), (1, .int (nI x)), (3, .int 1)], [], M)) rfl rfl rfl (fun c_124 => ?_) (fun c_124 => ?_)
        · have c_124 : (nI (aN x 1)) = 0 := of_decide_eq_true c_124
          have n_124 : aN x 1 = 0 := (eq_nI (p := aN x 1) (n := 0) (Nat.lt_of_le_of_lt (an_le _ _) (by decide)) (by decide)).mp c_124
          refine ps_st (S' := (171, [], [.int 0], M)) rfl rfl rfl ?_
          exact ps_ret rfl rfl (⟨congrArg (fun x => some (Value.int (nI x))) (show 0 = fitN mj c x 0 from by
              have e3 := has_0 x 1400
              have e4 := has_0 x 1024
              have e5 := has_0 c 512
              have e2 := sev_0 x
              have b1 := le1_one x
              have b2 := le1_imh mj x
              have hi : imhN mj x = 0 := (imh_0 mj x).mpr (by omega)
              unfold fitN
              first | ((repeat first | rw [if_pos (by omega)] | rw [if_neg (by omega)]) <;> first | rfl | omega) | ((repeat' split) <;> first | rfl | (exfalso; omega) | omega)), rfl⟩)
        · have c_124 : ¬ ((nI (aN x 1)) = 0) := of_decide_eq_false c_124
          have n_124 : ¬ (aN x 1 = 0) := fun h9 => c_124 ((eq_nI (p := aN x 1) (n := 0) (Nat.lt_of_le_of_lt (an_le _ _) (by decide)) (by decide)).mpr h9)
          refine ps_st (S' := (128, [(4, .int 0), (0, .ref m0), (1, .int (nI x)), (3, .int 1)], [.int (nI x)], M)) rfl rfl rfl ?_
          refine ps_st (S' := (131, [(4, .int 0), (0, .ref m0), (1, .int (nI x)), (3, .int 1)], [.int 1024, .int (nI x)], M)) rfl rfl rfl ?_
          refine ps_st (S' := (132, [(4, .int 0), (0, .ref m0), (1, .int (nI x)), (3, .int 1)], [.int ((nI x) &&& 1024)], M)) rfl rfl rfl ?_
          rw [nI_an (p := x) (k := 1024) (x := 1024) rfl]
          show pl _ _ _ (_, [(4, .int 0), (0, .ref m0), (1, .int (nI x)), (3, .int 1)], [.int (nI (aN x 1024))], M) _
          refine ps_if (S1 := (170, [], [], M)) (S2 := (135, [(4, .int 0), (0, .ref m0), (1, .int (nI x)), (3, .int 1)], [], M)) rfl rfl rfl (fun c_132 => ?_) (fun c_132 => ?_)
          rotate_left
          · exact absurd ((eq_nI (p := aN x 1024) (n := 0) (Nat.lt_of_le_of_lt (an_le _ _) (by decide)) (by decide)).mpr (by omega)) (of_decide_eq_false c_132)
          refine ps_st (S' := (171, [], [.int 0], M)) rfl rfl rfl ?_
          exact ps_ret rfl rfl (⟨congrArg (fun x => some (Value.int (nI x))) (show 0 = fitN mj c x 0 from by
              have e3 := has_0 x 1400
              have e4 := has_0 x 1024
              have e5 := has_0 c 512
              have e2 := sev_0 x
              have b1 := le1_one x
              have b2 := le1_imh mj x
              have hi : imhN mj x = 0 := (imh_0 mj x).mpr (by omega)
              unfold fitN
              first | ((repeat first | rw [if_pos (by omega)] | rw [if_neg (by omega)]) <;> first | rfl | omega) | ((repeat' split) <;> first | rfl | (exfalso; omega) | omega)), rfl⟩)
    · have c_107 : ¬ ((nI (aN x 308)) = 0) := of_decide_eq_false c_107
      have n_107 : ¬ (aN x 308 = 0) := fun h9 => c_107 ((eq_nI (p := aN x 308) (n := 0) (Nat.lt_of_le_of_lt (an_le _ _) (by decide)) (by decide)).mpr h9)
      refine ps_st (S' := (111, [(4, .int 0), (0, .ref m0), (1, .int (nI x)), (3, .int 1)], [.int 0], M)) rfl rfl rfl ?_
      exact ps_ret rfl rfl (⟨congrArg (fun x => some (Value.int (nI x))) (show 0 = fitN mj c x 0 from by
          have e3 := has_0 x 1400
          have e4 := has_0 x 1024
          have e5 := has_0 c 512
          have e2 := sev_0 x
          have b1 := le1_one x
          have b2 := le1_imh mj x
          have hi : imhN mj x = 0 := (imh_0 mj x).mpr (by omega)
          unfold fitN
          first | ((repeat first | rw [if_pos (by omega)] | rw [if_neg (by omega)]) <;> first | rfl | omega) | ((repeat' split) <;> first | rfl | (exfalso; omega) | omega)), rfl⟩)
  · have c_33 : ¬ ((nI (aN x 1024)) = 0) := of_decide_eq_false c_33
    have n_33 : ¬ (aN x 1024 = 0) := fun h9 => c_33 ((eq_nI (p := aN x 1024) (n := 0) (Nat.lt_of_le_of_lt (an_le _ _) (by decide)) (by decide)).mpr h9)
    refine ps_st (S' := (37, [(0, .ref m0), (1, .int (nI x)), (2, .int 0), (3, .int 1)], [.int (nI x)], M)) rfl rfl rfl ?_
    refine ps_st (S' := (40, [(0, .ref m0), (1, .int (nI x)), (2, .int 0), (3, .int 1)], [.int 314, .int (nI x)], M)) rfl rfl rfl ?_
    refine ps_st (S' := (41, [(0, .ref m0), (1, .int (nI x)), (2, .int 0), (3, .int 1)], [.int ((nI x) &&& 314)], M)) rfl rfl rfl ?_
    rw [nI_an (p := x) (k := 314) (x := 314) rfl]
    show pl _ _ _ (_, [(0, .ref m0), (1, .int (nI x)), (2, .int 0), (3, .int 1)], [.int (nI (aN x 314))], M) _
    refine ps_if (S1 := (70, [(0, .ref m0), (1, .int (nI x)), (3, .int 1)], [], M)) (S2 := (44, [(0, .ref m0), (1, .int (nI x)), (2, .int 0), (3, .int 1)], [], M)) rfl rfl rfl (fun c_41 => ?_) (fun c_41 => ?_)
    · have c_41 : ¬ (nI (aN x 314)) = 0 := of_decide_eq_true c_41
      have n_41 : ¬ (aN x 314 = 0) := fun h9 => c_41 ((eq_nI (p := aN x 314) (n := 0) (Nat.lt_of_le_of_lt (an_le _ _) (by decide)) (by decide)).mpr h9)
      refine ps_st (S' := (71, [(0, .ref m0), (1, .int (nI x)), (3, .int 1)], [.int 1], M)) rfl rfl rfl ?_
      refine ps_st (S' := (75, [(0, .ref m0), (1, .int (nI x)), (3, .int 1)], [.int 1], M)) rfl rfl rfl ?_
      refine ps_st (S' := (77, [(4, .int 1), (0, .ref m0), (1, .int (nI x)), (3, .int 1)], [], M)) rfl rfl rfl ?_
      refine ps_st (S' := (78, [(4, .int 1), (0, .ref m0), (1, .int (nI x)), (3, .int 1)], [.int 1], M)) rfl rfl rfl ?_
      refine ps_if (S1 := (102, [(4, .int 1), (0, .ref m0), (1, .int (nI x)), (3, .int 1)], [], M)) (S2 := (81, [(4, .int 1), (0, .ref m0), (1, .int (nI x)), (3, .int 1)], [], M)) rfl rfl rfl (fun c_78 => ?_) (fun c_78 => ?_)
      rotate_left
      · exact absurd (by decide) (of_decide_eq_false c_78)
      refine ps_st (S' := (103, [(4, .int 1), (0, .ref m0), (1, .int (nI x)), (3, .int 1)], [.int (nI x)], M)) rfl rfl rfl ?_
      refine ps_st (S' := (106, [(4, .int 1), (0, .ref m0), (1, .int (nI x)), (3, .int 1)], [.int 308, .int (nI x)], M)) rfl rfl rfl ?_
      refine ps_st (S' := (107, [(4, .int 1), (0, .ref m0), (1, .int (nI x)), (3, .int 1)], [.int ((nI x) &&& 308)], M)) rfl rfl rfl ?_
      rw [nI_an (p := x) (k := 308) (x := 308) rfl]
      show pl _ _ _ (_, [(4, .int 1), (0, .ref m0), (1, .int (nI x)), (3, .int 1)], [.int (nI (aN x 308))], M) _
      refine ps_if (S1 := (112, [(4, .int 1), (0, .ref m0), (1, .int (nI x)), (3, .int 1)], [], M)) (S2 := (110, [(4, .int 1), (0, .ref m0), (1, .int (nI x)), (3, .int 1)], [], M)) rfl rfl rfl (fun c_107 => ?_) (fun c_107 => ?_)
      · have c_107 : (nI (aN x 308)) = 0 := of_decide_eq_true c_107
        have n_107 : aN x 308 = 0 := (eq_nI (p := aN x 308) (n := 0) (Nat.lt_of_le_of_lt (an_le _ _) (by decide)) (by decide)).mp c_107
        refine ps_st (S' := (113, [(4, .int 1), (0, .ref m0), (1, .int (nI x)), (3, .int 1)], [.ref m0], M)) rfl rfl rfl ?_
        refine pr_int (j := 53) (S' := (116, [(4, .int 1), (0, .ref m0), (1, .int (nI x)), (3, .int 1)], [.int (nI mj)], M)) rfl hR rfl hi53 rfl ?_
        refine ps_st (S' := (118, [(4, .int 1), (0, .ref m0), (1, .int (nI x)), (3, .int 1)], [.int 52, .int (nI mj)], M)) rfl rfl rfl ?_
        refine ps_if2 (S1 := (145, [(4, .int 1), (0, .ref m0), (1, .int (nI x)), (3, .int 1)], [], M)) (S2 := (121, [(4, .int 1), (0, .ref m0), (1, .int (nI x)), (3, .int 1)], [], M)) rfl rfl rfl (fun c_118 => ?_) (fun c_118 => ?_)
        · have c_118 : 52 ≤ (nI mj) := of_decide_eq_true c_118
          have n_118 : 52 ≤ mj := (le_nI (p := 52) (n := mj) (by decide) (by omega)).mp c_118
          refine ps_st (S' := (146, [(4, .int 1), (0, .ref m0), (1, .int (nI x)), (3, .int 1)], [.int (nI x)], M)) rfl rfl rfl ?_
          refine ps_st (S' := (147, [(4, .int 1), (0, .ref m0), (1, .int (nI x)), (3, .int 1)], [.int 1, .int (nI x)], M)) rfl rfl rfl ?_
          refine ps_st (S' := (148, [(4, .int 1), (0, .ref m0), (1, .int (nI x)), (3, .int 1)], [.int ((nI x) &&& 1)], M)) rfl rfl rfl ?_
          rw [nI_an (p := x) (k := 1) (x := 1) rfl]
          show pl _ _ _ (_, [(4, .int 1), (0, .ref m0), (1, .int (nI x)), (3, .int 1)], [.int (nI (aN x 1))], M) _
          refine ps_if (S1 := (155, [(4, .int 1), (0, .ref m0), (1, .int (nI x)), (3, .int 1)], [], M)) (S2 := (151, [(4, .int 1), (0, .ref m0), (1, .int (nI x)), (3, .int 1)], [], M)) rfl rfl rfl (fun c_148 => ?_) (fun c_148 => ?_)
          · have c_148 : (nI (aN x 1)) = 0 := of_decide_eq_true c_148
            have n_148 : aN x 1 = 0 := (eq_nI (p := aN x 1) (n := 0) (Nat.lt_of_le_of_lt (an_le _ _) (by decide)) (by decide)).mp c_148
            refine ps_st (S' := (156, [(1, .int (nI x)), (4, .int 1)], [.int 0], M)) rfl rfl rfl ?_
            refine ps_st (S' := (157, [(1, .int (nI x)), (4, .int 1)], [.int (nI x), .int 0], M)) rfl rfl rfl ?_
            refine ps_st (S' := (158, [(1, .int (nI x)), (4, .int 1)], [.int 2, .int (nI x), .int 0], M)) rfl rfl rfl ?_
            refine ps_st (S' := (159, [(1, .int (nI x)), (4, .int 1)], [.int ((nI x) &&& 2), .int 0], M)) rfl rfl rfl ?_
            rw [nI_an (p := x) (k := 2) (x := 2) rfl]
            show pl _ _ _ (_, [(1, .int (nI x)), (4, .int 1)], [.int (nI (aN x 2)), .int 0], M) _
            refine ps_if (S1 := (166, [(1, .int (nI x)), (4, .int 1)], [.int 0], M)) (S2 := (162, [(1, .int (nI x)), (4, .int 1)], [.int 0], M)) rfl rfl rfl (fun c_159 => ?_) (fun c_159 => ?_)
            · have c_159 : (nI (aN x 2)) = 0 := of_decide_eq_true c_159
              have n_159 : aN x 2 = 0 := (eq_nI (p := aN x 2) (n := 0) (Nat.lt_of_le_of_lt (an_le _ _) (by decide)) (by decide)).mp c_159
              refine ps_st (S' := (167, [(4, .int 1)], [.int 0, .int 0], M)) rfl rfl rfl ?_
              refine ps_if2 (S1 := (172, [(4, .int 1)], [], M)) (S2 := (170, [], [], M)) rfl rfl rfl (fun c_167 => ?_) (fun c_167 => ?_)
              · exact absurd (of_decide_eq_true c_167) (by decide)
              refine ps_st (S' := (171, [], [.int 0], M)) rfl rfl rfl ?_
              exact ps_ret rfl rfl (⟨congrArg (fun x => some (Value.int (nI x))) (show 0 = fitN mj c x 0 from by
                  have e3 := has_0 x 1400
                  have e4 := has_0 x 1024
                  have e5 := has_0 c 512
                  have e2 := sev_0 x
                  have b1 := le1_one x
                  have ha : absN mj x = 0 := (abs_0 mj x).mpr (by omega)
                  have b2 := le1_imh mj x
                  have hi : imhN mj x = 0 := (imh_0 mj x).mpr (by omega)
                  unfold fitN
                  first | ((repeat first | rw [if_pos (by omega)] | rw [if_neg (by omega)]) <;> first | rfl | omega) | ((repeat' split) <;> first | rfl | (exfalso; omega) | omega)), rfl⟩)
            · have c_159 : ¬ ((nI (aN x 2)) = 0) := of_decide_eq_false c_159
              have n_159 : ¬ (aN x 2 = 0) := fun h9 => c_159 ((eq_nI (p := aN x 2) (n := 0) (Nat.lt_of_le_of_lt (an_le _ _) (by decide)) (by decide)).mpr h9)
              refine ps_st (S' := (163, [(1, .int (nI x)), (4, .int 1)], [.int 1, .int 0], M)) rfl rfl rfl ?_
              refine ps_st (S' := (167, [(4, .int 1)], [.int 1, .int 0], M)) rfl rfl rfl ?_
              refine ps_if2 (S1 := (172, [(4, .int 1)], [], M)) (S2 := (170, [], [], M)) rfl rfl rfl (fun c_167 => ?_) (fun c_167 => ?_)
              rotate_left
              · exact absurd (by decide) (of_decide_eq_false c_167)
              refine ps_st (S' := (174, [(4, .int 1)], [.int 1], M)) rfl rfl rfl ?_
              refine ps_if (S1 := (181, [(4, .int 1)], [], M)) (S2 := (177, [(4, .int 1)], [], M)) rfl rfl rfl (fun c_174 => ?_) (fun c_174 => ?_)
              rotate_left
              · exact absurd (by decide) (of_decide_eq_false c_174)
              refine ps_st (S' := (182, [], [.int 0], M)) rfl rfl rfl ?_
              exact ps_ret rfl rfl (⟨congrArg (fun x => some (Value.int (nI x))) (show 0 = fitN mj c x 0 from by
                  have e3 := has_0 x 1400
                  have e4 := has_0 x 1024
                  have e5 := has_0 c 512
                  have e2 := sev_0 x
                  have b1 := le1_one x
                  have ha : absN mj x = 0 := (abs_0 mj x).mpr (by omega)
                  have b2 := le1_imh mj x
                  have hi : ¬ imhN mj x = 0 := fun h => absurd ((imh_0 mj x).mp h) (by omega)
                  unfold fitN
                  first | ((repeat first | rw [if_pos (by omega)] | rw [if_neg (by omega)]) <;> first | rfl | omega) | ((repeat' split) <;> first | rfl | (exfalso; omega) | omega)), rfl⟩)
          · have c_148 : ¬ ((nI (aN x 1)) = 0) := of_decide_eq_false c_148
            have n_148 : ¬ (aN x 1 = 0) := fun h9 => c_148 ((eq_nI (p := aN x 1) (n := 0) (Nat.lt_of_le_of_lt (an_le _ _) (by decide)) (by decide)).mpr h9)
            refine ps_st (S' := (152, [(4, .int 1), (0, .ref m0), (1, .int (nI x)), (3, .int 1)], [.int 1], M)) rfl rfl rfl ?_
            refine ps_st (S' := (156, [(1, .int (nI x)), (4, .int 1)], [.int 1], M)) rfl rfl rfl ?_
            refine ps_st (S' := (157, [(1, .int (nI x)), (4, .int 1)], [.int (nI x), .int 1], M)) rfl rfl rfl ?_
            refine ps_st (S' := (158, [(1, .int (nI x)), (4, .int 1)], [.int 2, .int (nI x), .int 1], M)) rfl rfl rfl ?_
            refine ps_st (S' := (159, [(1, .int (nI x)), (4, .int 1)], [.int ((nI x) &&& 2), .int 1], M)) rfl rfl rfl ?_
            rw [nI_an (p := x) (k := 2) (x := 2) rfl]
            show pl _ _ _ (_, [(1, .int (nI x)), (4, .int 1)], [.int (nI (aN x 2)), .int 1], M) _
            refine ps_if (S1 := (166, [(1, .int (nI x)), (4, .int 1)], [.int 1], M)) (S2 := (162, [(1, .int (nI x)), (4, .int 1)], [.int 1], M)) rfl rfl rfl (fun c_159 => ?_) (fun c_159 => ?_)
            · have c_159 : (nI (aN x 2)) = 0 := of_decide_eq_true c_159
              have n_159 : aN x 2 = 0 := (eq_nI (p := aN x 2) (n := 0) (Nat.lt_of_le_of_lt (an_le _ _) (by decide)) (by decide)).mp c_159
              refine ps_st (S' := (167, [(4, .int 1)], [.int 0, .int 1], M)) rfl rfl rfl ?_
              refine ps_if2 (S1 := (172, [(4, .int 1)], [], M)) (S2 := (170, [], [], M)) rfl rfl rfl (fun c_167 => ?_) (fun c_167 => ?_)
              rotate_left
              · exact absurd (by decide) (of_decide_eq_false c_167)
              refine ps_st (S' := (174, [(4, .int 1)], [.int 1], M)) rfl rfl rfl ?_
              refine ps_if (S1 := (181, [(4, .int 1)], [], M)) (S2 := (177, [(4, .int 1)], [], M)) rfl rfl rfl (fun c_174 => ?_) (fun c_174 => ?_)
              rotate_left
              · exact absurd (by decide) (of_decide_eq_false c_174)
              refine ps_st (S' := (182, [], [.int 0], M)) rfl rfl rfl ?_
              exact ps_ret rfl rfl (⟨congrArg (fun x => some (Value.int (nI x))) (show 0 = fitN mj c x 0 from by
                  have e3 := has_0 x 1400
                  have e4 := has_0 x 1024
                  have e5 := has_0 c 512
                  have e2 := sev_0 x
                  have b1 := le1_one x
                  have ha : absN mj x = 0 := (abs_0 mj x).mpr (by omega)
                  have b2 := le1_imh mj x
                  have hi : ¬ imhN mj x = 0 := fun h => absurd ((imh_0 mj x).mp h) (by omega)
                  unfold fitN
                  first | ((repeat first | rw [if_pos (by omega)] | rw [if_neg (by omega)]) <;> first | rfl | omega) | ((repeat' split) <;> first | rfl | (exfalso; omega) | omega)), rfl⟩)
            · have c_159 : ¬ ((nI (aN x 2)) = 0) := of_decide_eq_false c_159
              have n_159 : ¬ (aN x 2 = 0) := fun h9 => c_159 ((eq_nI (p := aN x 2) (n := 0) (Nat.lt_of_le_of_lt (an_le _ _) (by decide)) (by decide)).mpr h9)
              refine ps_st (S' := (163, [(1, .int (nI x)), (4, .int 1)], [.int 1, .int 1], M)) rfl rfl rfl ?_
              refine ps_st (S' := (167, [(4, .int 1)], [.int 1, .int 1], M)) rfl rfl rfl ?_
              refine ps_if2 (S1 := (172, [(4, .int 1)], [], M)) (S2 := (170, [], [], M)) rfl rfl rfl (fun c_167 => ?_) (fun c_167 => ?_)
              · exact absurd (of_decide_eq_true c_167) (by decide)
              refine ps_st (S' := (171, [], [.int 0], M)) rfl rfl rfl ?_
              exact ps_ret rfl rfl (⟨congrArg (fun x => some (Value.int (nI x))) (show 0 = fitN mj c x 0 from by
                  have e3 := has_0 x 1400
                  have e4 := has_0 x 1024
                  have e5 := has_0 c 512
                  have e2 := sev_0 x
                  have b1 := le1_one x
                  have ha : absN mj x = 0 := (abs_0 mj x).mpr (by omega)
                  have b2 := le1_imh mj x
                  have hi : imhN mj x = 0 := (imh_0 mj x).mpr (by omega)
                  unfold fitN
                  first | ((repeat first | rw [if_pos (by omega)] | rw [if_neg (by omega)]) <;> first | rfl | omega) | ((repeat' split) <;> first | rfl | (exfalso; omega) | omega)), rfl⟩)
        · have c_118 : ¬ (52 ≤ (nI mj)) := of_decide_eq_false c_118
          have n_118 : ¬ (52 ≤ mj) := fun h9 => c_118 ((le_nI (p := 52) (n := mj) (by decide) (by omega)).mpr h9)
          refine ps_st (S' := (122, [(4, .int 1), (0, .ref m0), (1, .int (nI x)), (3, .int 1)], [.int (nI x)], M)) rfl rfl rfl ?_
          refine ps_st (S' := (123, [(4, .int 1), (0, .ref m0), (1, .int (nI x)), (3, .int 1)], [.int 1, .int (nI x)], M)) rfl rfl rfl ?_
          refine ps_st (S' := (124, [(4, .int 1), (0, .ref m0), (1, .int (nI x)), (3, .int 1)], [.int ((nI x) &&& 1)], M)) rfl rfl rfl ?_
          rw [nI_an (p := x) (k := 1) (x := 1) rfl]
          show pl _ _ _ (_, [(4, .int 1), (0, .ref m0), (1, .int (nI x)), (3, .int 1)], [.int (nI (aN x 1))], M) _
          refine ps_if (S1 := (170, [], [], M)) (S2 := (127, [(4, .int 1), (0, .ref m0), (1, .int (nI x)), (3, .int 1)], [], M)) rfl rfl rfl (fun c_124 => ?_) (fun c_124 => ?_)
          · have c_124 : (nI (aN x 1)) = 0 := of_decide_eq_true c_124
            have n_124 : aN x 1 = 0 := (eq_nI (p := aN x 1) (n := 0) (Nat.lt_of_le_of_lt (an_le _ _) (by decide)) (by decide)).mp c_124
            refine ps_st (S' := (171, [], [.int 0], M)) rfl rfl rfl ?_
            exact ps_ret rfl rfl (⟨congrArg (fun x => some (Value.int (nI x))) (show 0 = fitN mj c x 0 from by
                have e3 := has_0 x 1400
                have e4 := has_0 x 1024
                have e5 := has_0 c 512
                have e2 := sev_0 x
                have b1 := le1_one x
                have ha : absN mj x = 0 := (abs_0 mj x).mpr (by omega)
                have b2 := le1_imh mj x
                have hi : imhN mj x = 0 := (imh_0 mj x).mpr (by omega)
                unfold fitN
                first | ((repeat first | rw [if_pos (by omega)] | rw [if_neg (by omega)]) <;> first | rfl | omega) | ((repeat' split) <;> first | rfl | (exfalso; omega) | omega)), rfl⟩)
          · have c_124 : ¬ ((nI (aN x 1)) = 0) := of_decide_eq_false c_124
            have n_124 : ¬ (aN x 1 = 0) := fun h9 => c_124 ((eq_nI (p := aN x 1) (n := 0) (Nat.lt_of_le_of_lt (an_le _ _) (by decide)) (by decide)).mpr h9)
            refine ps_st (S' := (128, [(4, .int 1), (0, .ref m0), (1, .int (nI x)), (3, .int 1)], [.int (nI x)], M)) rfl rfl rfl ?_
            refine ps_st (S' := (131, [(4, .int 1), (0, .ref m0), (1, .int (nI x)), (3, .int 1)], [.int 1024, .int (nI x)], M)) rfl rfl rfl ?_
            refine ps_st (S' := (132, [(4, .int 1), (0, .ref m0), (1, .int (nI x)), (3, .int 1)], [.int ((nI x) &&& 1024)], M)) rfl rfl rfl ?_
            rw [nI_an (p := x) (k := 1024) (x := 1024) rfl]
            show pl _ _ _ (_, [(4, .int 1), (0, .ref m0), (1, .int (nI x)), (3, .int 1)], [.int (nI (aN x 1024))], M) _
            refine ps_if (S1 := (170, [], [], M)) (S2 := (135, [(4, .int 1), (0, .ref m0), (1, .int (nI x)), (3, .int 1)], [], M)) rfl rfl rfl (fun c_132 => ?_) (fun c_132 => ?_)
            · exact absurd (of_decide_eq_true c_132) (show ¬ ((nI (aN x 1024)) = 0) from fun h9 => absurd ((eq_nI (p := aN x 1024) (n := 0) (Nat.lt_of_le_of_lt (an_le _ _) (by decide)) (by decide)).mp h9) (by omega))
            refine ps_st (S' := (136, [(4, .int 1), (0, .ref m0), (1, .int (nI x)), (3, .int 1)], [.int (nI x)], M)) rfl rfl rfl ?_
            refine ps_st (S' := (138, [(4, .int 1), (0, .ref m0), (1, .int (nI x)), (3, .int 1)], [.int 8, .int (nI x)], M)) rfl rfl rfl ?_
            refine ps_st (S' := (139, [(4, .int 1), (0, .ref m0), (1, .int (nI x)), (3, .int 1)], [.int ((nI x) &&& 8)], M)) rfl rfl rfl ?_
            rw [nI_an (p := x) (k := 8) (x := 8) rfl]
            show pl _ _ _ (_, [(4, .int 1), (0, .ref m0), (1, .int (nI x)), (3, .int 1)], [.int (nI (aN x 8))], M) _
            refine ps_if (S1 := (172, [(4, .int 1)], [], M)) (S2 := (142, [(4, .int 1), (0, .ref m0), (1, .int (nI x)), (3, .int 1)], [], M)) rfl rfl rfl (fun c_139 => ?_) (fun c_139 => ?_)
            · have c_139 : (nI (aN x 8)) = 0 := of_decide_eq_true c_139
              have n_139 : aN x 8 = 0 := (eq_nI (p := aN x 8) (n := 0) (Nat.lt_of_le_of_lt (an_le _ _) (by decide)) (by decide)).mp c_139
              refine ps_st (S' := (174, [(4, .int 1)], [.int 1], M)) rfl rfl rfl ?_
              refine ps_if (S1 := (181, [(4, .int 1)], [], M)) (S2 := (177, [(4, .int 1)], [], M)) rfl rfl rfl (fun c_174 => ?_) (fun c_174 => ?_)
              rotate_left
              · exact absurd (by decide) (of_decide_eq_false c_174)
              refine ps_st (S' := (182, [], [.int 0], M)) rfl rfl rfl ?_
              exact ps_ret rfl rfl (⟨congrArg (fun x => some (Value.int (nI x))) (show 0 = fitN mj c x 0 from by
                  have e3 := has_0 x 1400
                  have e4 := has_0 x 1024
                  have e5 := has_0 c 512
                  have e2 := sev_0 x
                  have b1 := le1_one x
                  have ha : absN mj x = 0 := (abs_0 mj x).mpr (by omega)
                  have b2 := le1_imh mj x
                  have hi : ¬ imhN mj x = 0 := fun h => absurd ((imh_0 mj x).mp h) (by omega)
                  unfold fitN
                  first | ((repeat first | rw [if_pos (by omega)] | rw [if_neg (by omega)]) <;> first | rfl | omega) | ((repeat' split) <;> first | rfl | (exfalso; omega) | omega)), rfl⟩)
            · have c_139 : ¬ ((nI (aN x 8)) = 0) := of_decide_eq_false c_139
              have n_139 : ¬ (aN x 8 = 0) := fun h9 => c_139 ((eq_nI (p := aN x 8) (n := 0) (Nat.lt_of_le_of_lt (an_le _ _) (by decide)) (by decide)).mpr h9)
              refine ps_st (S' := (170, [], [], M)) rfl rfl rfl ?_
              refine ps_st (S' := (171, [], [.int 0], M)) rfl rfl rfl ?_
              exact ps_ret rfl rfl (⟨congrArg (fun x => some (Value.int (nI x))) (show 0 = fitN mj c x 0 from by
                  have e3 := has_0 x 1400
                  have e4 := has_0 x 1024
                  have e5 := has_0 c 512
                  have e2 := sev_0 x
                  have b1 := le1_one x
                  have ha : absN mj x = 0 := (abs_0 mj x).mpr (by omega)
                  have b2 := le1_imh mj x
                  have hi : imhN mj x = 0 := (imh_0 mj x).mpr (by omega)
                  unfold fitN
                  first | ((repeat first | rw [if_pos (by omega)] | rw [if_neg (by omega)]) <;> first | rfl | omega) | ((repeat' split) <;> first | rfl | (exfalso; omega) | omega)), rfl⟩)
      · have c_107 : ¬ ((nI (aN x 308)) = 0) := of_decide_eq_false c_107
        have n_107 : ¬ (aN x 308 = 0) := fun h9 => c_107 ((eq_nI (p := aN x 308) (n := 0) (Nat.lt_of_le_of_lt (an_le _ _) (by decide)) (by decide)).mpr h9)
        refine ps_st (S' := (111, [(4, .int 1), (0, .ref m0), (1, .int (nI x)), (3, .int 1)], [.int 0], M)) rfl rfl rfl ?_
        exact ps_ret rfl rfl (⟨congrArg (fun x => some (Value.int (nI x))) (show 0 = fitN mj c x 0 from by
            have e3 := has_0 x 1400
            have e4 := has_0 x 1024
            have e5 := has_0 c 512
            have e2 := sev_0 x
            have b1 := le1_one x
            have ha : absN mj x = 0 := (abs_0 mj x).mpr (by omega)
            have b2 := le1_imh mj x
            have hi : imhN mj x = 0 := (imh_0 mj x).mpr (by omega)
            unfold fitN
            first | ((repeat first | rw [if_pos (by omega)] | rw [if_neg (by omega)]) <;> first | rfl | omega) | ((repeat' split) <;> first | rfl | (exfalso; omega) | omega)), rfl⟩)
    · have c_41 : ¬ (¬ (nI (aN x 314)) = 0) := of_decide_eq_false c_41
      have n_41 : aN x 314 = 0 := (eq_nI (p := aN x 314) (n := 0) (Nat.lt_of_le_of_lt (an_le _ _) (by decide)) (by decide)).mp (Decidable.not_not.mp c_41)
      refine ps_st (S' := (45, [(0, .ref m0), (1, .int (nI x)), (2, .int 0), (3, .int 1)], [.ref m0], M)) rfl rfl rfl ?_
      refine pr_int (j := 53) (S' := (48, [(0, .ref m0), (1, .int (nI x)), (2, .int 0), (3, .int 1)], [.int (nI mj)], M)) rfl hR rfl hi53 rfl ?_
      refine ps_st (S' := (50, [(0, .ref m0), (1, .int (nI x)), (2, .int 0), (3, .int 1)], [.int 46, .int (nI mj)], M)) rfl rfl rfl ?_
      refine ps_if2 (S1 := (74, [(0, .ref m0), (1, .int (nI x)), (3, .int 1)], [], M)) (S2 := (53, [(0, .ref m0), (1, .int (nI x)), (2, .int 0), (3, .int 1)], [], M)) rfl rfl rfl (fun c_50 => ?_) (fun c_50 => ?_)
      · have c_50 : (nI mj) < 46 := of_decide_eq_true c_50
        have n_50 : mj < 46 := (lt_nI (p := mj) (n := 46) (by omega) (by decide)).mp c_50
        refine ps_st (S' := (75, [(0, .ref m0), (1, .int (nI x)), (3, .int 1)], [.int 0], M)) rfl rfl rfl ?_
        refine ps_st (S' := (77, [(4, .int 0), (0, .ref m0), (1, .int (nI x)), (3, .int 1)], [], M)) rfl rfl rfl ?_
        refine ps_st (S' := (78, [(4, .int 0), (0, .ref m0), (1, .int (nI x)), (3, .int 1)], [.int 1], M)) rfl rfl rfl ?_
        refine ps_if (S1 := (102, [(4, .int 0), (0, .ref m0), (1, .int (nI x)), (3, .int 1)], [], M)) (S2 := (81, [(4, .int 0), (0, .ref m0), (1, .int (nI x)), (3, .int 1)], [], M)) rfl rfl rfl (fun c_78 => ?_) (fun c_78 => ?_)
        rotate_left
        · exact absurd (by decide) (of_decide_eq_false c_78)
        refine ps_st (S' := (103, [(4, .int 0), (0, .ref m0), (1, .int (nI x)), (3, .int 1)], [.int (nI x)], M)) rfl rfl rfl ?_
        refine ps_st (S' := (106, [(4, .int 0), (0, .ref m0), (1, .int (nI x)), (3, .int 1)], [.int 308, .int (nI x)], M)) rfl rfl rfl ?_
        refine ps_st (S' := (107, [(4, .int 0), (0, .ref m0), (1, .int (nI x)), (3, .int 1)], [.int ((nI x) &&& 308)], M)) rfl rfl rfl ?_
        rw [nI_an (p := x) (k := 308) (x := 308) rfl]
        show pl _ _ _ (_, [(4, .int 0), (0, .ref m0), (1, .int (nI x)), (3, .int 1)], [.int (nI (aN x 308))], M) _
        refine ps_if (S1 := (112, [(4, .int 0), (0, .ref m0), (1, .int (nI x)), (3, .int 1)], [], M)) (S2 := (110, [(4, .int 0), (0, .ref m0), (1, .int (nI x)), (3, .int 1)], [], M)) rfl rfl rfl (fun c_107 => ?_) (fun c_107 => ?_)
        · have c_107 : (nI (aN x 308)) = 0 := of_decide_eq_true c_107
          have n_107 : aN x 308 = 0 := (eq_nI (p := aN x 308) (n := 0) (Nat.lt_of_le_of_lt (an_le _ _) (by decide)) (by decide)).mp c_107
          refine ps_st (S' := (113, [(4, .int 0), (0, .ref m0), (1, .int (nI x)), (3, .int 1)], [.ref m0], M)) rfl rfl rfl ?_
          refine pr_int (j := 53) (S' := (116, [(4, .int 0), (0, .ref m0), (1, .int (nI x)), (3, .int 1)], [.int (nI mj)], M)) rfl hR rfl hi53 rfl ?_
          refine ps_st (S' := (118, [(4, .int 0), (0, .ref m0), (1, .int (nI x)), (3, .int 1)], [.int 52, .int (nI mj)], M)) rfl rfl rfl ?_
          refine ps_if2 (S1 := (145, [(4, .int 0), (0, .ref m0), (1, .int (nI x)), (3, .int 1)], [], M)) (S2 := (121, [(4, .int 0), (0, .ref m0), (1, .int (nI x)), (3, .int 1)], [], M)) rfl rfl rfl (fun c_118 => ?_) (fun c_118 => ?_)
          · exact absurd (of_decide_eq_true c_118) (show ¬ (52 ≤ (nI mj)) from fun h9 => absurd ((le_nI (p := 52) (n := mj) (by decide) (by omega)).mp h9) (by omega))
          refine ps_st (S' := (122, [(4, .int 0), (0, .ref m0), (1, .int (nI x)), (3, .int 1)], [.int (nI x)], M)) rfl rfl rfl ?_
          refine ps_st (S' := (123, [(4, .int 0), (0, .ref m0), (1, .int (nI x)), (3, .int 1)], [.int 1, .int (nI x)], M)) rfl rfl rfl ?_
          refine ps_st (S' := (124, [(4, .int 0), (0, .ref m0), (1, .int (nI x)), (3, .int 1)], [.int ((nI x) &&& 1)], M)) rfl rfl rfl ?_
          rw [nI_an (p := x) (k := 1) (x := 1) rfl]
          show pl _ _ _ (_, [(4, .int 0), (0, .ref m0), (1, .int (nI x)), (3, .int 1)], [.int (nI (aN x 1))], M) _
          refine ps_if (S1 := (170, [], [], M)) (S2 := (127, [(4, .int 0), (0, .ref m0), (1, .int (nI x)), (3, .int 1)], [], M)) rfl rfl rfl (fun c_124 => ?_) (fun c_124 => ?_)
          · have c_124 : (nI (aN x 1)) = 0 := of_decide_eq_true c_124
            have n_124 : aN x 1 = 0 := (eq_nI (p := aN x 1) (n := 0) (Nat.lt_of_le_of_lt (an_le _ _) (by decide)) (by decide)).mp c_124
            refine ps_st (S' := (171, [], [.int 0], M)) rfl rfl rfl ?_
            exact ps_ret rfl rfl (⟨congrArg (fun x => some (Value.int (nI x))) (show 0 = fitN mj c x 0 from by
                have e3 := has_0 x 1400
                have e4 := has_0 x 1024
                have e5 := has_0 c 512
                have e2 := sev_0 x
                have b1 := le1_one x
                have ha : ¬ absN mj x = 0 := fun h => absurd ((abs_0 mj x).mp h) (by omega)
                have b2 := le1_imh mj x
                have hi : imhN mj x = 0 := (imh_0 mj x).mpr (by omega)
                unfold fitN
                first | ((repeat first | rw [if_pos (by omega)] | rw [if_neg (by omega)]) <;> first | rfl | omega) | ((repeat' split) <;> first | rfl | (exfalso; omega) | omega)), rfl⟩)
          · have c_124 : ¬ ((nI (aN x 1)) = 0) := of_decide_eq_false c_124
            have n_124 : ¬ (aN x 1 = 0) := fun h9 => c_124 ((eq_nI (p := aN x 1) (n := 0) (Nat.lt_of_le_of_lt (an_le _ _) (by decide)) (by decide)).mpr h9)
            refine ps_st (S' := (128, [(4, .int 0), (0, .ref m0), (1, .int (nI x)), (3, .int 1)], [.int (nI x)], M)) rfl rfl rfl ?_
            refine ps_st (S' := (131, [(4, .int 0), (0, .ref m0), (1, .int (nI x)), (3, .int 1)], [.int 1024, .int (nI x)], M)) rfl rfl rfl ?_
            refine ps_st (S' := (132, [(4, .int 0), (0, .ref m0), (1, .int (nI x)), (3, .int 1)], [.int ((nI x) &&& 1024)], M)) rfl rfl rfl ?_
            rw [nI_an (p := x) (k := 1024) (x := 1024) rfl]
            show pl _ _ _ (_, [(4, .int 0), (0, .ref m0), (1, .int (nI x)), (3, .int 1)], [.int (nI (aN x 1024))], M) _
            refine ps_if (S1 := (170, [], [], M)) (S2 := (135, [(4, .int 0), (0, .ref m0), (1, .int (nI x)), (3, .int 1)], [], M)) rfl rfl rfl (fun c_132 => ?_) (fun c_132 => ?_)
            · exact absurd (of_decide_eq_true c_132) (show ¬ ((nI (aN x 1024)) = 0) from fun h9 => absurd ((eq_nI (p := aN x 1024) (n := 0) (Nat.lt_of_le_of_lt (an_le _ _) (by decide)) (by decide)).mp h9) (by omega))
            refine ps_st (S' := (136, [(4, .int 0), (0, .ref m0), (1, .int (nI x)), (3, .int 1)], [.int (nI x)], M)) rfl rfl rfl ?_
            refine ps_st (S' := (138, [(4, .int 0), (0, .ref m0), (1, .int (nI x)), (3, .int 1)], [.int 8, .int (nI x)], M)) rfl rfl rfl ?_
            refine ps_st (S' := (139, [(4, .int 0), (0, .ref m0), (1, .int (nI x)), (3, .int 1)], [.int ((nI x) &&& 8)], M)) rfl rfl rfl ?_
            rw [nI_an (p := x) (k := 8) (x := 8) rfl]
            show pl _ _ _ (_, [(4, .int 0), (0, .ref m0), (1, .int (nI x)), (3, .int 1)], [.int (nI (aN x 8))], M) _
            refine ps_if (S1 := (172, [(4, .int 0)], [], M)) (S2 := (142, [(4, .int 0), (0, .ref m0), (1, .int (nI x)), (3, .int 1)], [], M)) rfl rfl rfl (fun c_139 => ?_) (fun c_139 => ?_)
            · have c_139 : (nI (aN x 8)) = 0 := of_decide_eq_true c_139
              have n_139 : aN x 8 = 0 := (eq_nI (p := aN x 8) (n := 0) (Nat.lt_of_le_of_lt (an_le _ _) (by decide)) (by decide)).mp c_139
              refine ps_st (S' := (174, [(4, .int 0)], [.int 0], M)) rfl rfl rfl ?_
              refine ps_if (S1 := (181, [(4, .int 0)], [], M)) (S2 := (177, [(4, .int 0)], [], M)) rfl rfl rfl (fun c_174 => ?_) (fun c_174 => ?_)
              · exact absurd (of_decide_eq_true c_174) (by decide)
              refine ps_st (S' := (178, [(4, .int 0)], [.int 1], M)) rfl rfl rfl ?_
              refine ps_st (S' := (182, [], [.int 1], M)) rfl rfl rfl ?_
              exact ps_ret rfl rfl (⟨congrArg (fun x => some (Value.int (nI x))) (show 1 = fitN mj c x 0 from by
                  have e3 := has_0 x 1400
                  have e4 := has_0 x 1024
                  have e5 := has_0 c 512
                  have e2 := sev_0 x
                  have b1 := le1_one x
                  have ha : ¬ absN mj x = 0 := fun h => absurd ((abs_0 mj x).mp h) (by omega)
                  have b2 := le1_imh mj x
                  have hi : ¬ imhN mj x = 0 := fun h => absurd ((imh_0 mj x).mp h) (by omega)
                  unfold fitN
                  first | ((repeat first | rw [if_pos (by omega)] | rw [if_neg (by omega)]) <;> first | rfl | omega) | ((repeat' split) <;> first | rfl | (exfalso; omega) | omega)), rfl⟩)
            · have c_139 : ¬ ((nI (aN x 8)) = 0) := of_decide_eq_false c_139
              have n_139 : ¬ (aN x 8 = 0) := fun h9 => c_139 ((eq_nI (p := aN x 8) (n := 0) (Nat.lt_of_le_of_lt (an_le _ _) (by decide)) (by decide)).mpr h9)
              refine ps_st (S' := (170, [], [], M)) rfl rfl rfl ?_
              refine ps_st (S' := (171, [], [.int 0], M)) rfl rfl rfl ?_
              exact ps_ret rfl rfl (⟨congrArg (fun x => some (Value.int (nI x))) (show 0 = fitN mj c x 0 from by
                  have e3 := has_0 x 1400
                  have e4 := has_0 x 1024
                  have e5 := has_0 c 512
                  have e2 := sev_0 x
                  have b1 := le1_one x
                  have ha : ¬ absN mj x = 0 := fun h => absurd ((abs_0 mj x).mp h) (by omega)
                  have b2 := le1_imh mj x
                  have hi : imhN mj x = 0 := (imh_0 mj x).mpr (by omega)
                  unfold fitN
                  first | ((repeat first | rw [if_pos (by omega)] | rw [if_neg (by omega)]) <;> first | rfl | omega) | ((repeat' split) <;> first | rfl | (exfalso; omega) | omega)), rfl⟩)
        · have c_107 : ¬ ((nI (aN x 308)) = 0) := of_decide_eq_false c_107
          have n_107 : ¬ (aN x 308 = 0) := fun h9 => c_107 ((eq_nI (p := aN x 308) (n := 0) (Nat.lt_of_le_of_lt (an_le _ _) (by decide)) (by decide)).mpr h9)
          refine ps_st (S' := (111, [(4, .int 0), (0, .ref m0), (1, .int (nI x)), (3, .int 1)], [.int 0], M)) rfl rfl rfl ?_
          exact ps_ret rfl rfl (⟨congrArg (fun x => some (Value.int (nI x))) (show 0 = fitN mj c x 0 from by
              have e3 := has_0 x 1400
              have e4 := has_0 x 1024
              have e5 := has_0 c 512
              have e2 := sev_0 x
              have b1 := le1_one x
              have ha : ¬ absN mj x = 0 := fun h => absurd ((abs_0 mj x).mp h) (by omega)
              have b2 := le1_imh mj x
              have hi : imhN mj x = 0 := (imh_0 mj x).mpr (by omega)
              unfold fitN
              first | ((repeat first | rw [if_pos (by omega)] | rw [if_neg (by omega)]) <;> first | rfl | omega) | ((repeat' split) <;> first | rfl | (exfalso; omega) | omega)), rfl⟩)
      · have c_50 : ¬ ((nI mj) < 46) := of_decide_eq_false c_50
        have n_50 : ¬ (mj < 46) := fun h9 => c_50 ((lt_nI (p := mj) (n := 46) (by omega) (by decide)).mpr h9)
        refine ps_st (S' := (54, [(0, .ref m0), (1, .int (nI x)), (2, .int 0), (3, .int 1)], [.ref m0], M)) rfl rfl rfl ?_
        refine pr_int (j := 53) (S' := (57, [(0, .ref m0), (1, .int (nI x)), (2, .int 0), (3, .int 1)], [.int (nI mj)], M)) rfl hR rfl hi53 rfl ?_
        refine ps_st (S' := (59, [(0, .ref m0), (1, .int (nI x)), (2, .int 0), (3, .int 1)], [.int 60, .int (nI mj)], M)) rfl rfl rfl ?_
        refine ps_if2 (S1 := (74, [(0, .ref m0), (1, .int (nI x)), (3, .int 1)], [], M)) (S2 := (62, [(0, .ref m0), (1, .int (nI x)), (2, .int 0), (3, .int 1)], [], M)) rfl rfl rfl (fun c_59 => ?_) (fun c_59 => ?_)
        · have c_59 : 60 < (nI mj) := of_decide_eq_true c_59
          have n_59 : 60 < mj := (lt_nI (p := 60) (n := mj) (by decide) (by omega)).mp c_59
          refine ps_st (S' := (75, [(0, .ref m0), (1, .int (nI x)), (3, .int 1)], [.int 0], M)) rfl rfl rfl ?_
          refine ps_st (S' := (77, [(4, .int 0), (0, .ref m0), (1, .int (nI x)), (3, .int 1)], [], M)) rfl rfl rfl ?_
          refine ps_st (S' := (78, [(4, .int 0), (0, .ref m0), (1, .int (nI x)), (3, .int 1)], [.int 1], M)) rfl rfl rfl ?_
          refine ps_if (S1 := (102, [(4, .int 0), (0, .ref m0), (1, .int (nI x)), (3, .int 1)], [], M)) (S2 := (81, [(4, .int 0), (0, .ref m0), (1, .int (nI x)), (3, .int 1)], [], M)) rfl rfl rfl (fun c_78 => ?_) (fun c_78 => ?_)
          rotate_left
          · exact absurd (by decide) (of_decide_eq_false c_78)
          refine ps_st (S' := (103, [(4, .int 0), (0, .ref m0), (1, .int (nI x)), (3, .int 1)], [.int (nI x)], M)) rfl rfl rfl ?_
          refine ps_st (S' := (106, [(4, .int 0), (0, .ref m0), (1, .int (nI x)), (3, .int 1)], [.int 308, .int (nI x)], M)) rfl rfl rfl ?_
          refine ps_st (S' := (107, [(4, .int 0), (0, .ref m0), (1, .int (nI x)), (3, .int 1)], [.int ((nI x) &&& 308)], M)) rfl rfl rfl ?_
          rw [nI_an (p := x) (k := 308) (x := 308) rfl]
          show pl _ _ _ (_, [(4, .int 0), (0, .ref m0), (1, .int (nI x)), (3, .int 1)], [.int (nI (aN x 308))], M) _
          refine ps_if (S1 := (112, [(4, .int 0), (0, .ref m0), (1, .int (nI x)), (3, .int 1)], [], M)) (S2 := (110, [(4, .int 0), (0, .ref m0), (1, .int (nI x)), (3, .int 1)], [], M)) rfl rfl rfl (fun c_107 => ?_) (fun c_107 => ?_)
          · have c_107 : (nI (aN x 308)) = 0 := of_decide_eq_true c_107
            have n_107 : aN x 308 = 0 := (eq_nI (p := aN x 308) (n := 0) (Nat.lt_of_le_of_lt (an_le _ _) (by decide)) (by decide)).mp c_107
            refine ps_st (S' := (113, [(4, .int 0), (0, .ref m0), (1, .int (nI x)), (3, .int 1)], [.ref m0], M)) rfl rfl rfl ?_
            refine pr_int (j := 53) (S' := (116, [(4, .int 0), (0, .ref m0), (1, .int (nI x)), (3, .int 1)], [.int (nI mj)], M)) rfl hR rfl hi53 rfl ?_
            refine ps_st (S' := (118, [(4, .int 0), (0, .ref m0), (1, .int (nI x)), (3, .int 1)], [.int 52, .int (nI mj)], M)) rfl rfl rfl ?_
            refine ps_if2 (S1 := (145, [(4, .int 0), (0, .ref m0), (1, .int (nI x)), (3, .int 1)], [], M)) (S2 := (121, [(4, .int 0), (0, .ref m0), (1, .int (nI x)), (3, .int 1)], [], M)) rfl rfl rfl (fun c_118 => ?_) (fun c_118 => ?_)
            rotate_left
            · exact absurd ((le_nI (p := 52) (n := mj) (by decide) (by omega)).mpr (by omega)) (of_decide_eq_false c_118)
            refine ps_st (S' := (146, [(4, .int 0), (0, .ref m0), (1, .int (nI x)), (3, .int 1)], [.int (nI x)], M)) rfl rfl rfl ?_
            refine ps_st (S' := (147, [(4, .int 0), (0, .ref m0), (1, .int (nI x)), (3, .int 1)], [.int 1, .int (nI x)], M)) rfl rfl rfl ?_
            refine ps_st (S' := (148, [(4, .int 0), (0, .ref m0), (1, .int (nI x)), (3, .int 1)], [.int ((nI x) &&& 1)], M)) rfl rfl rfl ?_
            rw [nI_an (p := x) (k := 1) (x := 1) rfl]
            show pl _ _ _ (_, [(4, .int 0), (0, .ref m0), (1, .int (nI x)), (3, .int 1)], [.int (nI (aN x 1))], M) _
            refine ps_if (S1 := (155, [(4, .int 0), (0, .ref m0), (1, .int (nI x)), (3, .int 1)], [], M)) (S2 := (151, [(4, .int 0), (0, .ref m0), (1, .int (nI x)), (3, .int 1)], [], M)) rfl rfl rfl (fun c_148 => ?_) (fun c_148 => ?_)
            · have c_148 : (nI (aN x 1)) = 0 := of_decide_eq_true c_148
              have n_148 : aN x 1 = 0 := (eq_nI (p := aN x 1) (n := 0) (Nat.lt_of_le_of_lt (an_le _ _) (by decide)) (by decide)).mp c_148
              refine ps_st (S' := (156, [(1, .int (nI x)), (4, .int 0)], [.int 0], M)) rfl rfl rfl ?_
              refine ps_st (S' := (157, [(1, .int (nI x)), (4, .int 0)], [.int (nI x), .int 0], M)) rfl rfl rfl ?_
              refine ps_st (S' := (158, [(1, .int (nI x)), (4, .int 0)], [.int 2, .int (nI x), .int 0], M)) rfl rfl rfl ?_
              refine ps_st (S' := (159, [(1, .int (nI x)), (4, .int 0)], [.int ((nI x) &&& 2), .int 0], M)) rfl rfl rfl ?_
              rw [nI_an (p := x) (k := 2) (x := 2) rfl]
              show pl _ _ _ (_, [(1, .int (nI x)), (4, .int 0)], [.int (nI (aN x 2)), .int 0], M) _
              refine ps_if (S1 := (166, [(1, .int (nI x)), (4, .int 0)], [.int 0], M)) (S2 := (162, [(1, .int (nI x)), (4, .int 0)], [.int 0], M)) rfl rfl rfl (fun c_159 => ?_) (fun c_159 => ?_)
              · have c_159 : (nI (aN x 2)) = 0 := of_decide_eq_true c_159
                have n_159 : aN x 2 = 0 := (eq_nI (p := aN x 2) (n := 0) (Nat.lt_of_le_of_lt (an_le _ _) (by decide)) (by decide)).mp c_159
                refine ps_st (S' := (167, [(4, .int 0)], [.int 0, .int 0], M)) rfl rfl rfl ?_
                refine ps_if2 (S1 := (172, [(4, .int 0)], [], M)) (S2 := (170, [], [], M)) rfl rfl rfl (fun c_167 => ?_) (fun c_167 => ?_)
                · exact absurd (of_decide_eq_true c_167) (by decide)
                refine ps_st (S' := (171, [], [.int 0], M)) rfl rfl rfl ?_
                exact ps_ret rfl rfl (⟨congrArg (fun x => some (Value.int (nI x))) (show 0 = fitN mj c x 0 from by
                    have e3 := has_0 x 1400
                    have e4 := has_0 x 1024
                    have e5 := has_0 c 512
                    have e2 := sev_0 x
                    have b1 := le1_one x
                    have ha : ¬ absN mj x = 0 := fun h => absurd ((abs_0 mj x).mp h) (by omega)
                    have b2 := le1_imh mj x
                    have hi : imhN mj x = 0 := (imh_0 mj x).mpr (by omega)
                    unfold fitN
                    first | ((repeat first | rw [if_pos (by omega)] | rw [if_neg (by omega)]) <;> first | rfl | omega) | ((repeat' split) <;> first | rfl | (exfalso; omega) | omega)), rfl⟩)
              · have c_159 : ¬ ((nI (aN x 2)) = 0) := of_decide_eq_false c_159
                have n_159 : ¬ (aN x 2 = 0) := fun h9 => c_159 ((eq_nI (p := aN x 2) (n := 0) (Nat.lt_of_le_of_lt (an_le _ _) (by decide)) (by decide)).mpr h9)
                refine ps_st (S' := (163, [(1, .int (nI x)), (4, .int 0)], [.int 1, .int 0], M)) rfl rfl rfl ?_
                refine ps_st (S' := (167, [(4, .int 0)], [.int 1, .int 0], M)) rfl rfl rfl ?_
                refine ps_if2 (S1 := (172, [(4, .int 0)], [], M)) (S2 := (170, [], [], M)) rfl rfl rfl (fun c_167 => ?_) (fun c_167 => ?_)
                rotate_left
                · exact absurd (by decide) (of_decide_eq_false c_167)
                refine ps_st (S' := (174, [(4, .int 0)], [.int 0], M)) rfl rfl rfl ?_
                refine ps_if (S1 := (181, [(4, .int 0)], [], M)) (S2 := (177, [(4, .int 0)], [], M)) rfl rfl rfl (fun c_174 => ?_) (fun c_174 => ?_)
                · exact absurd (of_decide_eq_true c_174) (by decide)
                refine ps_st (S' := (178, [(4, .int 0)], [.int 1], M)) rfl rfl rfl ?_
                refine ps_st (S' := (182, [], [.int 1], M)) rfl rfl rfl ?_
                exact ps_ret rfl rfl (⟨congrArg (fun x => some (Value.int (nI x))) (show 1 = fitN mj c x 0 from by
                    have e3 := has_0 x 1400
                    have e4 := has_0 x 1024
                    have e5 := has_0 c 512
                    have e2 := sev_0 x
                    have b1 := le1_one x
                    have ha : ¬ absN mj x = 0 := fun h => absurd ((abs_0 mj x).mp h) (by omega)
                    have b2 := le1_imh mj x
                    have hi : ¬ imhN mj x = 0 := fun h => absurd ((imh_0 mj x).mp h) (by omega)
                    unfold fitN
                    first | ((repeat first | rw [if_pos (by omega)] | rw [if_neg (by omega)]) <;> first | rfl | omega) | ((repeat' split) <;> first | rfl | (exfalso; omega) | omega)), rfl⟩)
            · have c_148 : ¬ ((nI (aN x 1)) = 0) := of_decide_eq_false c_148
              have n_148 : ¬ (aN x 1 = 0) := fun h9 => c_148 ((eq_nI (p := aN x 1) (n := 0) (Nat.lt_of_le_of_lt (an_le _ _) (by decide)) (by decide)).mpr h9)
              refine ps_st (S' := (152, [(4, .int 0), (0, .ref m0), (1, .int (nI x)), (3, .int 1)], [.int 1], M)) rfl rfl rfl ?_
              refine ps_st (S' := (156, [(1, .int (nI x)), (4, .int 0)], [.int 1], M)) rfl rfl rfl ?_
              refine ps_st (S' := (157, [(1, .int (nI x)), (4, .int 0)], [.int (nI x), .int 1], M)) rfl rfl rfl ?_
              refine ps_st (S' := (158, [(1, .int (nI x)), (4, .int 0)], [.int 2, .int (nI x), .int 1], M)) rfl rfl rfl ?_
              refine ps_st (S' := (159, [(1, .int (nI x)), (4, .int 0)], [.int ((nI x) &&& 2), .int 1], M)) rfl rfl rfl ?_
              rw [nI_an (p := x) (k := 2) (x := 2) rfl]
              show pl _ _ _ (_, [(1, .int (nI x)), (4, .int 0)], [.int (nI (aN x 2)), .int 1], M) _
              refine ps_if (S1 := (166, [(1, .int (nI x)), (4, .int 0)], [.int 1], M)) (S2 := (162, [(1, .int (nI x)), (4, .int 0)], [.int 1], M)) rfl rfl rfl (fun c_159 => ?_) (fun c_159 => ?_)
              · have c_159 : (nI (aN x 2)) = 0 := of_decide_eq_true c_159
                have n_159 : aN x 2 = 0 := (eq_nI (p := aN x 2) (n := 0) (Nat.lt_of_le_of_lt (an_le _ _) (by decide)) (by decide)).mp c_159
                refine ps_st (S' := (167, [(4, .int 0)], [.int 0, .int 1], M)) rfl rfl rfl ?_
                refine ps_if2 (S1 := (172, [(4, .int 0)], [], M)) (S2 := (170, [], [], M)) rfl rfl rfl (fun c_167 => ?_) (fun c_167 => ?_)
                rotate_left
                · exact absurd (by decide) (of_decide_eq_false c_167)
                refine ps_st (S' := (174, [(4, .int 0)], [.int 0], M)) rfl rfl rfl ?_
                refine ps_if (S1 := (181, [(4, .int 0)], [], M)) (S2 := (177, [(4, .int 0)], [], M)) rfl rfl rfl (fun c_174 => ?_) (fun c_174 => ?_)
                · exact absurd (of_decide_eq_true c_174) (by decide)
                refine ps_st (S' := (178, [(4, .int 0)], [.int 1], M)) rfl rfl rfl ?_
                refine ps_st (S' := (182, [], [.int 1], M)) rfl rfl rfl ?_
                exact ps_ret rfl rfl (⟨congrArg (fun x => some (Value.int (nI x))) (show 1 = fitN mj c x 0 from by
                    have e3 := has_0 x 1400
                    have e4 := has_0 x 1024
                    have e5 := has_0 c 512
                    have e2 := sev_0 x
                    have b1 := le1_one x
                    have ha : ¬ absN mj x = 0 := fun h => absurd ((abs_0 mj x).mp h) (by omega)
                    have b2 := le1_imh mj x
                    have hi : ¬ imhN mj x = 0 := fun h => absurd ((imh_0 mj x).mp h) (by omega)
                    unfold fitN
                    first | ((repeat first | rw [if_pos (by omega)] | rw [if_neg (by omega)]) <;> first | rfl | omega) | ((repeat' split) <;> first | rfl | (exfalso; omega) | omega)), rfl⟩)
              · have c_159 : ¬ ((nI (aN x 2)) = 0) := of_decide_eq_false c_159
                have n_159 : ¬ (aN x 2 = 0) := fun h9 => c_159 ((eq_nI (p := aN x 2) (n := 0) (Nat.lt_of_le_of_lt (an_le _ _) (by decide)) (by decide)).mpr h9)
                refine ps_st (S' := (163, [(1, .int (nI x)), (4, .int 0)], [.int 1, .int 1], M)) rfl rfl rfl ?_
                refine ps_st (S' := (167, [(4, .int 0)], [.int 1, .int 1], M)) rfl rfl rfl ?_
                refine ps_if2 (S1 := (172, [(4, .int 0)], [], M)) (S2 := (170, [], [], M)) rfl rfl rfl (fun c_167 => ?_) (fun c_167 => ?_)
                · exact absurd (of_decide_eq_true c_167) (by decide)
                refine ps_st (S' := (171, [], [.int 0], M)) rfl rfl rfl ?_
                exact ps_ret rfl rfl (⟨congrArg (fun x => some (Value.int (nI x))) (show 0 = fitN mj c x 0 from by
                    have e3 := has_0 x 1400
                    have e4 := has_0 x 1024
                    have e5 := has_0 c 512
                    have e2 := sev_0 x
                    have b1 := le1_one x
                    have ha : ¬ absN mj x = 0 := fun h => absurd ((abs_0 mj x).mp h) (by omega)
                    have b2 := le1_imh mj x
                    have hi : imhN mj x = 0 := (imh_0 mj x).mpr (by omega)
                    unfold fitN
                    first | ((repeat first | rw [if_pos (by omega)] | rw [if_neg (by omega)]) <;> first | rfl | omega) | ((repeat' split) <;> first | rfl | (exfalso; omega) | omega)), rfl⟩)
          · have c_107 : ¬ ((nI (aN x 308)) = 0) := of_decide_eq_false c_107
            have n_107 : ¬ (aN x 308 = 0) := fun h9 => c_107 ((eq_nI (p := aN x 308) (n := 0) (Nat.lt_of_le_of_lt (an_le _ _) (by decide)) (by decide)).mpr h9)
            refine ps_st (S' := (111, [(4, .int 0), (0, .ref m0), (1, .int (nI x)), (3, .int 1)], [.int 0], M)) rfl rfl rfl ?_
            exact ps_ret rfl rfl (⟨congrArg (fun x => some (Value.int (nI x))) (show 0 = fitN mj c x 0 from by
                have e3 := has_0 x 1400
                have e4 := has_0 x 1024
                have e5 := has_0 c 512
                have e2 := sev_0 x
                have b1 := le1_one x
                have ha : ¬ absN mj x = 0 := fun h => absurd ((abs_0 mj x).mp h) (by omega)
                have b2 := le1_imh mj x
                have hi : imhN mj x = 0 := (imh_0 mj x).mpr (by omega)
                unfold fitN
                first | ((repeat first | rw [if_pos (by omega)] | rw [if_neg (by omega)]) <;> first | rfl | omega) | ((repeat' split) <;> first | rfl | (exfalso; omega) | omega)), rfl⟩)
        · have c_59 : ¬ (60 < (nI mj)) := of_decide_eq_false c_59
          have n_59 : ¬ (60 < mj) := fun h9 => c_59 ((lt_nI (p := 60) (n := mj) (by decide) (by omega)).mpr h9)
          refine ps_st (S' := (63, [(0, .ref m0), (1, .int (nI x)), (2, .int 0), (3, .int 1)], [.int (nI x)], M)) rfl rfl rfl ?_
          refine ps_st (S' := (66, [(0, .ref m0), (1, .int (nI x)), (2, .int 0), (3, .int 1)], [.int 2048, .int (nI x)], M)) rfl rfl rfl ?_
          refine ps_st (S' := (67, [(0, .ref m0), (1, .int (nI x)), (2, .int 0), (3, .int 1)], [.int ((nI x) &&& 2048)], M)) rfl rfl rfl ?_
          rw [nI_an (p := x) (k := 2048) (x := 2048) rfl]
          show pl _ _ _ (_, [(0, .ref m0), (1, .int (nI x)), (2, .int 0), (3, .int 1)], [.int (nI (aN x 2048))], M) _
          refine ps_if (S1 := (74, [(0, .ref m0), (1, .int (nI x)), (3, .int 1)], [], M)) (S2 := (70, [(0, .ref m0), (1, .int (nI x)), (3, .int 1)], [], M)) rfl rfl rfl (fun c_67 => ?_) (fun c_67 => ?_)
          · have c_67 : (nI (aN x 2048)) = 0 := of_decide_eq_true c_67
            have n_67 : aN x 2048 = 0 := (eq_nI (p := aN x 2048) (n := 0) (Nat.lt_of_le_of_lt (an_le _ _) (by decide)) (by decide)).mp c_67
            refine ps_st (S' := (75, [(0, .ref m0), (1, .int (nI x)), (3, .int 1)], [.int 0], M)) rfl rfl rfl ?_
            refine ps_st (S' := (77, [(4, .int 0), (0, .ref m0), (1, .int (nI x)), (3, .int 1)], [], M)) rfl rfl rfl ?_
            refine ps_st (S' := (78, [(4, .int 0), (0, .ref m0), (1, .int (nI x)), (3, .int 1)], [.int 1], M)) rfl rfl rfl ?_
            refine ps_if (S1 := (102, [(4, .int 0), (0, .ref m0), (1, .int (nI x)), (3, .int 1)], [], M)) (S2 := (81, [(4, .int 0), (0, .ref m0), (1, .int (nI x)), (3, .int 1)], [], M)) rfl rfl rfl (fun c_78 => ?_) (fun c_78 => ?_)
            rotate_left
            · exact absurd (by decide) (of_decide_eq_false c_78)
            refine ps_st (S' := (103, [(4, .int 0), (0, .ref m0), (1, .int (nI x)), (3, .int 1)], [.int (nI x)], M)) rfl rfl rfl ?_
            refine ps_st (S' := (106, [(4, .int 0), (0, .ref m0), (1, .int (nI x)), (3, .int 1)], [.int 308, .int (nI x)], M)) rfl rfl rfl ?_
            refine ps_st (S' := (107, [(4, .int 0), (0, .ref m0), (1, .int (nI x)), (3, .int 1)], [.int ((nI x) &&& 308)], M)) rfl rfl rfl ?_
            rw [nI_an (p := x) (k := 308) (x := 308) rfl]
            show pl _ _ _ (_, [(4, .int 0), (0, .ref m0), (1, .int (nI x)), (3, .int 1)], [.int (nI (aN x 308))], M) _
            refine ps_if (S1 := (112, [(4, .int 0), (0, .ref m0), (1, .int (nI x)), (3, .int 1)], [], M)) (S2 := (110, [(4, .int 0), (0, .ref m0), (1, .int (nI x)), (3, .int 1)], [], M)) rfl rfl rfl (fun c_107 => ?_) (fun c_107 => ?_)
            · have c_107 : (nI (aN x 308)) = 0 := of_decide_eq_true c_107
              have n_107 : aN x 308 = 0 := (eq_nI (p := aN x 308) (n := 0) (Nat.lt_of_le_of_lt (an_le _ _) (by decide)) (by decide)).mp c_107
              refine ps_st (S' := (113, [(4, .int 0), (0, .ref m0), (1, .int (nI x)), (3, .int 1)], [.ref m0], M)) rfl rfl rfl ?_
              refine pr_int (j := 53) (S' := (116, [(4, .int 0), (0, .ref m0), (1, .int (nI x)), (3, .int 1)], [.int (nI mj)], M)) rfl hR rfl hi53 rfl ?_
              refine ps_st (S' := (118, [(4, .int 0), (0, .ref m0), (1, .int (nI x)), (3, .int 1)], [.int 52, .int (nI mj)], M)) rfl rfl rfl ?_
              refine ps_if2 (S1 := (145, [(4, .int 0), (0, .ref m0), (1, .int (nI x)), (3, .int 1)], [], M)) (S2 := (121, [(4, .int 0), (0, .ref m0), (1, .int (nI x)), (3, .int 1)], [], M)) rfl rfl rfl (fun c_118 => ?_) (fun c_118 => ?_)
              · have c_118 : 52 ≤ (nI mj) := of_decide_eq_true c_118
                have n_118 : 52 ≤ mj := (le_nI (p := 52) (n := mj) (by decide) (by omega)).mp c_118
                refine ps_st (S' := (146, [(4, .int 0), (0, .ref m0), (1, .int (nI x)), (3, .int 1)], [.int (nI x)], M)) rfl rfl rfl ?_
                refine ps_st (S' := (147, [(4, .int 0), (0, .ref m0), (1, .int (nI x)), (3, .int 1)], [.int 1, .int (nI x)], M)) rfl rfl rfl ?_
                refine ps_st (S' := (148, [(4, .int 0), (0, .ref m0), (1, .int (nI x)), (3, .int 1)], [.int ((nI x) &&& 1)], M)) rfl rfl rfl ?_
                rw [nI_an (p := x) (k := 1) (x := 1) rfl]
                show pl _ _ _ (_, [(4, .int 0), (0, .ref m0), (1, .int (nI x)), (3, .int 1)], [.int (nI (aN x 1))], M) _
                refine ps_if (S1 := (155, [(4, .int 0), (0, .ref m0), (1, .int (nI x)), (3, .int 1)], [], M)) (S2 := (151, [(4, .int 0), (0, .ref m0), (1, .int (nI x)), (3, .int 1)], [], M)) rfl rfl rfl (fun c_148 => ?_) (fun c_148 => ?_)
                · have c_148 : (nI (aN x 1)) = 0 := of_decide_eq_true c_148
                  have n_148 : aN x 1 = 0 := (eq_nI (p := aN x 1) (n := 0) (Nat.lt_of_le_of_lt (an_le _ _) (by decide)) (by decide)).mp c_148
                  refine ps_st (S' := (156, [(1, .int (nI x)), (4, .int 0)], [.int 0], M)) rfl rfl rfl ?_
                  refine ps_st (S' := (157, [(1, .int (nI x)), (4, .int 0)], [.int (nI x), .int 0], M)) rfl rfl rfl ?_
                  refine ps_st (S' := (158, [(1, .int (nI x)), (4, .int 0)], [.int 2, .int (nI x), .int 0], M)) rfl rfl rfl ?_
                  refine ps_st (S' := (159, [(1, .int (nI x)), (4, .int 0)], [.int ((nI x) &&& 2), .int 0], M)) rfl rfl rfl ?_
                  rw [nI_an (p := x) (k := 2) (x := 2) rfl]
                  show pl _ _ _ (_, [(1, .int (nI x)), (4, .int 0)], [.int (nI (aN x 2)), .int 0], M) _
                  refine ps_if (S1 := (166, [(1, .int (nI x)), (4, .int 0)], [.int 0], M)) (S2 := (162, [(1, .int (nI x)), (4, .int 0)], [.int 0], M)) rfl rfl rfl (fun c_159 => ?_) (fun c_159 => ?_)
                  · have c_159 : (nI (aN x 2)) = 0 := of_decide_eq_true c_159
                    have n_159 : aN x 2 = 0 := (eq_nI (p := aN x 2) (n := 0) (Nat.lt_of_le_of_lt (an_le _ _) (by decide)) (by decide)).mp c_159
                    refine ps_st (S' := (167, [(4, .int 0)], [.int 0, .int 0], M)) rfl rfl rfl ?_
                    refine ps_if2 (S1 := (172, [(4, .int 0)], [], M)) (S2 := (170, [], [], M)) rfl rfl rfl (fun c_167 => ?_) (fun c_167 => ?_)
                    · exact absurd (of_decide_eq_true c_167) (by decide)
                    refine ps_st (S' := (171, [], [.int 0], M)) rfl rfl rfl ?_
                    exact ps_ret rfl rfl (⟨congrArg (fun x => some (Value.int (nI x))) (show 0 = fitN mj c x 0 from by
                        have e3 := has_0 x 1400
                        have e4 := has_0 x 1024
                        have e5 := has_0 c 512
                        have e2 := sev_0 x
                        have b1 := le1_one x
                        have ha : ¬ absN mj x = 0 := fun h => absurd ((abs_0 mj x).mp h) (by omega)
                        have b2 := le1_imh mj x
                        have hi : imhN mj x = 0 := (imh_0 mj x).mpr (by omega)
                        unfold fitN
                        first | ((repeat first | rw [if_pos (by omega)] | rw [if_neg (by omega)]) <;> first | rfl | omega) | ((repeat' split) <;> first | rfl | (exfalso; omega) | omega)), rfl⟩)
                  · have c_159 : ¬ ((nI (aN x 2)) = 0) := of_decide_eq_false c_159
                    have n_159 : ¬ (aN x 2 = 0) := fun h9 => c_159 ((eq_nI (p := aN x 2) (n := 0) (Nat.lt_of_le_of_lt (an_le _ _) (by decide)) (by decide)).mpr h9)
                    refine ps_st (S' := (163, [(1, .int (nI x)), (4, .int 0)], [.int 1, .int 0], M)) rfl rfl rfl ?_
                    refine ps_st (S' := (167, [(4, .int 0)], [.int 1, .int 0], M)) rfl rfl rfl ?_
                    refine ps_if2 (S1 := (172, [(4, .int 0)], [], M)) (S2 := (170, [], [], M)) rfl rfl rfl (fun c_167 => ?_) (fun c_167 => ?_)
                    rotate_left
                    · exact absurd (by decide) (of_decide_eq_false c_167)
                    refine ps_st (S' := (174, [(4, .int 0)], [.int 0], M)) rfl rfl rfl ?_
                    refine ps_if (S1 := (181, [(4, .int 0)], [], M)) (S2 := (177, [(4, .int 0)], [], M)) rfl rfl rfl (fun c_174 => ?_) (fun c_174 => ?_)
                    · exact absurd (of_decide_eq_true c_174) (by decide)
                    refine ps_st (S' := (178, [(4, .int 0)], [.int 1], M)) rfl rfl rfl ?_
                    refine ps_st (S' := (182, [], [.int 1], M)) rfl rfl rfl ?_
                    exact ps_ret rfl rfl (⟨congrArg (fun x => some (Value.int (nI x))) (show 1 = fitN mj c x 0 from by
                        have e3 := has_0 x 1400
                        have e4 := has_0 x 1024
                        have e5 := has_0 c 512
                        have e2 := sev_0 x
                        have b1 := le1_one x
                        have ha : ¬ absN mj x = 0 := fun h => absurd ((abs_0 mj x).mp h) (by omega)
                        have b2 := le1_imh mj x
                        have hi : ¬ imhN mj x = 0 := fun h => absurd ((imh_0 mj x).mp h) (by omega)
                        unfold fitN
                        first | ((repeat first | rw [if_pos (by omega)] | rw [if_neg (by omega)]) <;> first | rfl | omega) | ((repeat' split) <;> first | rfl | (exfalso; omega) | omega)), rfl⟩)
                · have c_148 : ¬ ((nI (aN x 1)) = 0) := of_decide_eq_false c_148
                  have n_148 : ¬ (aN x 1 = 0) := fun h9 => c_148 ((eq_nI (p := aN x 1) (n := 0) (Nat.lt_of_le_of_lt (an_le _ _) (by decide)) (by decide)).mpr h9)
                  refine ps_st (S' := (152, [(4, .int 0), (0, .ref m0), (1, .int (nI x)), (3, .int 1)], [.int 1], M)) rfl rfl rfl ?_
                  refine ps_st (S' := (156, [(1, .int (nI x)), (4, .int 0)], [.int 1], M)) rfl rfl rfl ?_
                  refine ps_st (S' := (157, [(1, .int (nI x)), (4, .int 0)], [.int (nI x), .int 1], M)) rfl rfl rfl ?_
                  refine ps_st (S' := (158, [(1, .int (nI x)), (4, .int 0)], [.int 2, .int (nI x), .int 1], M)) rfl rfl rfl ?_
                  refine ps_st (S' := (159, [(1, .int (nI x)), (4, .int 0)], [.int ((nI x) &&& 2), .int 1], M)) rfl rfl rfl ?_
                  rw [nI_an (p := x) (k := 2) (x := 2) rfl]
                  show pl _ _ _ (_, [(1, .int (nI x)), (4, .int 0)], [.int (nI (aN x 2)), .int 1], M) _
                  refine ps_if (S1 := (166, [(1, .int (nI x)), (4, .int 0)], [.int 1], M)) (S2 := (162, [(1, .int (nI x)), (4, .int 0)], [.int 1], M)) rfl rfl rfl (fun c_159 => ?_) (fun c_159 => ?_)
                  · have c_159 : (nI (aN x 2)) = 0 := of_decide_eq_true c_159
                    have n_159 : aN x 2 = 0 := (eq_nI (p := aN x 2) (n := 0) (Nat.lt_of_le_of_lt (an_le _ _) (by decide)) (by decide)).mp c_159
                    refine ps_st (S' := (167, [(4, .int 0)], [.int 0, .int 1], M)) rfl rfl rfl ?_
                    refine ps_if2 (S1 := (172, [(4, .int 0)], [], M)) (S2 := (170, [], [], M)) rfl rfl rfl (fun c_167 => ?_) (fun c_167 => ?_)
                    rotate_left
                    · exact absurd (by decide) (of_decide_eq_false c_167)
                    refine ps_st (S' := (174, [(4, .int 0)], [.int 0], M)) rfl rfl rfl ?_
                    refine ps_if (S1 := (181, [(4, .int 0)], [], M)) (S2 := (177, [(4, .int 0)], [], M)) rfl rfl rfl (fun c_174 => ?_) (fun c_174 => ?_)
                    · exact absurd (of_decide_eq_true c_174) (by decide)
                    refine ps_st (S' := (178, [(4, .int 0)], [.int 1], M)) rfl rfl rfl ?_
                    refine ps_st (S' := (182, [], [.int 1], M)) rfl rfl rfl ?_
                    exact ps_ret rfl rfl (⟨congrArg (fun x => some (Value.int (nI x))) (show 1 = fitN mj c x 0 from by
                        have e3 := has_0 x 1400
                        have e4 := has_0 x 1024
                        have e5 := has_0 c 512
                        have e2 := sev_0 x
                        have b1 := le1_one x
                        have ha : ¬ absN mj x = 0 := fun h => absurd ((abs_0 mj x).mp h) (by omega)
                        have b2 := le1_imh mj x
                        have hi : ¬ imhN mj x = 0 := fun h => absurd ((imh_0 mj x).mp h) (by omega)
                        unfold fitN
                        first | ((repeat first | rw [if_pos (by omega)] | rw [if_neg (by omega)]) <;> first | rfl | omega) | ((repeat' split) <;> first | rfl | (exfalso; omega) | omega)), rfl⟩)
                  · have c_159 : ¬ ((nI (aN x 2)) = 0) := of_decide_eq_false c_159
                    have n_159 : ¬ (aN x 2 = 0) := fun h9 => c_159 ((eq_nI (p := aN x 2) (n := 0) (Nat.lt_of_le_of_lt (an_le _ _) (by decide)) (by decide)).mpr h9)
                    refine ps_st (S' := (163, [(1, .int (nI x)), (4, .int 0)], [.int 1, .int 1], M)) rfl rfl rfl ?_
                    refine ps_st (S' := (167, [(4, .int 0)], [.int 1, .int 1], M)) rfl rfl rfl ?_
                    refine ps_if2 (S1 := (172, [(4, .int 0)], [], M)) (S2 := (170, [], [], M)) rfl rfl rfl (fun c_167 => ?_) (fun c_167 => ?_)
                    · exact absurd (of_decide_eq_true c_167) (by decide)
                    refine ps_st (S' := (171, [], [.int 0], M)) rfl rfl rfl ?_
                    exact ps_ret rfl rfl (⟨congrArg (fun x => some (Value.int (nI x))) (show 0 = fitN mj c x 0 from by
                        have e3 := has_0 x 1400
                        have e4 := has_0 x 1024
                        have e5 := has_0 c 512
                        have e2 := sev_0 x
                        have b1 := le1_one x
                        have ha : ¬ absN mj x = 0 := fun h => absurd ((abs_0 mj x).mp h) (by omega)
                        have b2 := le1_imh mj x
                        have hi : imhN mj x = 0 := (imh_0 mj x).mpr (by omega)
                        unfold fitN
                        first | ((repeat first | rw [if_pos (by omega)] | rw [if_neg (by omega)]) <;> first | rfl | omega) | ((repeat' split) <;> first | rfl | (exfalso; omega) | omega)), rfl⟩)
              · have c_118 : ¬ (52 ≤ (nI mj)) := of_decide_eq_false c_118
                have n_118 : ¬ (52 ≤ mj) := fun h9 => c_118 ((le_nI (p := 52) (n := mj) (by decide) (by omega)).mpr h9)
                refine ps_st (S' := (122, [(4, .int 0), (0, .ref m0), (1, .int (nI x)), (3, .int 1)], [.int (nI x)], M)) rfl rfl rfl ?_
                refine ps_st (S' := (123, [(4, .int 0), (0, .ref m0), (1, .int (nI x)), (3, .int 1)], [.int 1, .int (nI x)], M)) rfl rfl rfl ?_
                refine ps_st (S' := (124, [(4, .int 0), (0, .ref m0), (1, .int (nI x)), (3, .int 1)], [.int ((nI x) &&& 1)], M)) rfl rfl rfl ?_
                rw [nI_an (p := x) (k := 1) (x := 1) rfl]
                show pl _ _ _ (_, [(4, .int 0), (0, .ref m0), (1, .int (nI x)), (3, .int 1)], [.int (nI (aN x 1))], M) _
                refine ps_if (S1 := (170, [], [], M)) (S2 := (127, [(4, .int 0), (0, .ref m0), (1, .int (nI x)), (3, .int 1)], [], M)) rfl rfl rfl (fun c_124 => ?_) (fun c_124 => ?_)
                · have c_124 : (nI (aN x 1)) = 0 := of_decide_eq_true c_124
                  have n_124 : aN x 1 = 0 := (eq_nI (p := aN x 1) (n := 0) (Nat.lt_of_le_of_lt (an_le _ _) (by decide)) (by decide)).mp c_124
                  refine ps_st (S' := (171, [], [.int 0], M)) rfl rfl rfl ?_
                  exact ps_ret rfl rfl (⟨congrArg (fun x => some (Value.int (nI x))) (show 0 = fitN mj c x 0 from by
                      have e3 := has_0 x 1400
                      have e4 := has_0 x 1024
                      have e5 := has_0 c 512
                      have e2 := sev_0 x
                      have b1 := le1_one x
                      have ha : ¬ absN mj x = 0 := fun h => absurd ((abs_0 mj x).mp h) (by omega)
                      have b2 := le1_imh mj x
                      have hi : imhN mj x = 0 := (imh_0 mj x).mpr (by omega)
                      unfold fitN
                      first | ((repeat first | rw [if_pos (by omega)] | rw [if_neg (by omega)]) <;> first | rfl | omega) | ((repeat' split) <;> first | rfl | (exfalso; omega) | omega)), rfl⟩)
                · have c_124 : ¬ ((nI (aN x 1)) = 0) := of_decide_eq_false c_124
                  have n_124 : ¬ (aN x 1 = 0) := fun h9 => c_124 ((eq_nI (p := aN x 1) (n := 0) (Nat.lt_of_le_of_lt (an_le _ _) (by decide)) (by decide)).mpr h9)
                  refine ps_st (S' := (128, [(4, .int 0), (0, .ref m0), (1, .int (nI x)), (3, .int 1)], [.int (nI x)], M)) rfl rfl rfl ?_
                  refine ps_st (S' := (131, [(4, .int 0), (0, .ref m0), (1, .int (nI x)), (3, .int 1)], [.int 1024, .int (nI x)], M)) rfl rfl rfl ?_
                  refine ps_st (S' := (132, [(4, .int 0), (0, .ref m0), (1, .int (nI x)), (3, .int 1)], [.int ((nI x) &&& 1024)], M)) rfl rfl rfl ?_
                  rw [nI_an (p := x) (k := 1024) (x := 1024) rfl]
                  show pl _ _ _ (_, [(4, .int 0), (0, .ref m0), (1, .int (nI x)), (3, .int 1)], [.int (nI (aN x 1024))], M) _
                  refine ps_if (S1 := (170, [], [], M)) (S2 := (135, [(4, .int 0), (0, .ref m0), (1, .int (nI x)), (3, .int 1)], [], M)) rfl rfl rfl (fun c_132 => ?_) (fun c_132 => ?_)
                  · exact absurd (of_decide_eq_true c_132) (show ¬ ((nI (aN x 1024)) = 0) from fun h9 => absurd ((eq_nI (p := aN x 1024) (n := 0) (Nat.lt_of_le_of_lt (an_le _ _) (by decide)) (by decide)).mp h9) (by omega))
                  refine ps_st (S' := (136, [(4, .int 0), (0, .ref m0), (1, .int (nI x)), (3, .int 1)], [.int (nI x)], M)) rfl rfl rfl ?_
                  refine ps_st (S' := (138, [(4, .int 0), (0, .ref m0), (1, .int (nI x)), (3, .int 1)], [.int 8, .int (nI x)], M)) rfl rfl rfl ?_
                  refine ps_st (S' := (139, [(4, .int 0), (0, .ref m0), (1, .int (nI x)), (3, .int 1)], [.int ((nI x) &&& 8)], M)) rfl rfl rfl ?_
                  rw [nI_an (p := x) (k := 8) (x := 8) rfl]
                  show pl _ _ _ (_, [(4, .int 0), (0, .ref m0), (1, .int (nI x)), (3, .int 1)], [.int (nI (aN x 8))], M) _
                  refine ps_if (S1 := (172, [(4, .int 0)], [], M)) (S2 := (142, [(4, .int 0), (0, .ref m0), (1, .int (nI x)), (3, .int 1)], [], M)) rfl rfl rfl (fun c_139 => ?_) (fun c_139 => ?_)
                  · have c_139 : (nI (aN x 8)) = 0 := of_decide_eq_true c_139
                    have n_139 : aN x 8 = 0 := (eq_nI (p := aN x 8) (n := 0) (Nat.lt_of_le_of_lt (an_le _ _) (by decide)) (by decide)).mp c_139
                    refine ps_st (S' := (174, [(4, .int 0)], [.int 0], M)) rfl rfl rfl ?_
                    refine ps_if (S1 := (181, [(4, .int 0)], [], M)) (S2 := (177, [(4, .int 0)], [], M)) rfl rfl rfl (fun c_174 => ?_) (fun c_174 => ?_)
                    · exact absurd (of_decide_eq_true c_174) (by decide)
                    refine ps_st (S' := (178, [(4, .int 0)], [.int 1], M)) rfl rfl rfl ?_
                    refine ps_st (S' := (182, [], [.int 1], M)) rfl rfl rfl ?_
                    exact ps_ret rfl rfl (⟨congrArg (fun x => some (Value.int (nI x))) (show 1 = fitN mj c x 0 from by
                        have e3 := has_0 x 1400
                        have e4 := has_0 x 1024
                        have e5 := has_0 c 512
                        have e2 := sev_0 x
                        have b1 := le1_one x
                        have ha : ¬ absN mj x = 0 := fun h => absurd ((abs_0 mj x).mp h) (by omega)
                        have b2 := le1_imh mj x
                        have hi : ¬ imhN mj x = 0 := fun h => absurd ((imh_0 mj x).mp h) (by omega)
                        unfold fitN
                        first | ((repeat first | rw [if_pos (by omega)] | rw [if_neg (by omega)]) <;> first | rfl | omega) | ((repeat' split) <;> first | rfl | (exfalso; omega) | omega)), rfl⟩)
                  · have c_139 : ¬ ((nI (aN x 8)) = 0) := of_decide_eq_false c_139
                    have n_139 : ¬ (aN x 8 = 0) := fun h9 => c_139 ((eq_nI (p := aN x 8) (n := 0) (Nat.lt_of_le_of_lt (an_le _ _) (by decide)) (by decide)).mpr h9)
                    refine ps_st (S' := (170, [], [], M)) rfl rfl rfl ?_
                    refine ps_st (S' := (171, [], [.int 0], M)) rfl rfl rfl ?_
                    exact ps_ret rfl rfl (⟨congrArg (fun x => some (Value.int (nI x))) (show 0 = fitN mj c x 0 from by
                        have e3 := has_0 x 1400
                        have e4 := has_0 x 1024
                        have e5 := has_0 c 512
                        have e2 := sev_0 x
                        have b1 := le1_one x
                        have ha : ¬ absN mj x = 0 := fun h => absurd ((abs_0 mj x).mp h) (by omega)
                        have b2 := le1_imh mj x
                        have hi : imhN mj x = 0 := (imh_0 mj x).mpr (by omega)
                        unfold fitN
                        first | ((repeat first | rw [if_pos (by omega)] | rw [if_neg (by omega)]) <;> first | rfl | omega) | ((repeat' split) <;> first | rfl | (exfalso; omega) | omega)), rfl⟩)
            · have c_107 : ¬ ((nI (aN x 308)) = 0) := of_decide_eq_false c_107
              have n_107 : ¬ (aN x 308 = 0) := fun h9 => c_107 ((eq_nI (p := aN x 308) (n := 0) (Nat.lt_of_le_of_lt (an_le _ _) (by decide)) (by decide)).mpr h9)
              refine ps_st (S' := (111, [(4, .int 0), (0, .ref m0), (1, .int (nI x)), (3, .int 1)], [.int 0], M)) rfl rfl rfl ?_
              exact ps_ret rfl rfl (⟨congrArg (fun x => some (Value.int (nI x))) (show 0 = fitN mj c x 0 from by
                  have e3 := has_0 x 1400
                  have e4 := has_0 x 1024
                  have e5 := has_0 c 512
                  have e2 := sev_0 x
                  have b1 := le1_one x
                  have ha : ¬ absN mj x = 0 := fun h => absurd ((abs_0 mj x).mp h) (by omega)
                  have b2 := le1_imh mj x
                  have hi : imhN mj x = 0 := (imh_0 mj x).mpr (by omega)
                  unfold fitN
                  first | ((repeat first | rw [if_pos (by omega)] | rw [if_neg (by omega)]) <;> first | rfl | omega) | ((repeat' split) <;> first | rfl | (exfalso; omega) | omega)), rfl⟩)
          · have c_67 : ¬ ((nI (aN x 2048)) = 0) := of_decide_eq_false c_67
            have n_67 : ¬ (aN x 2048 = 0) := fun h9 => c_67 ((eq_nI (p := aN x 2048) (n := 0) (Nat.lt_of_le_of_lt (an_le _ _) (by decide)) (by decide)).mpr h9)
            refine ps_st (S' := (71, [(0, .ref m0), (1, .int (nI x)), (3, .int 1)], [.int 1], M)) rfl rfl rfl ?_
            refine ps_st (S' := (75, [(0, .ref m0), (1, .int (nI x)), (3, .int 1)], [.int 1], M)) rfl rfl rfl ?_
            refine ps_st (S' := (77, [(4, .int 1), (0, .ref m0), (1, .int (nI x)), (3, .int 1)], [], M)) rfl rfl rfl ?_
            refine ps_st (S' := (78, [(4, .int 1), (0, .ref m0), (1, .int (nI x)), (3, .int 1)], [.int 1], M)) rfl rfl rfl ?_
            refine ps_if (S1 := (102, [(4, .int 1), (0, .ref m0), (1, .int (nI x)), (3, .int 1)], [], M)) (S2 := (81, [(4, .int 1), (0, .ref m0), (1, .int (nI x)), (3, .int 1)], [], M)) rfl rfl rfl (fun c_78 => ?_) (fun c_78 => ?_)
            rotate_left
            · exact absurd (by decide) (of_decide_eq_false c_78)
            refine ps_st (S' := (103, [(4, .int 1), (0, .ref m0), (1, .int (nI x)), (3, .int 1)], [.int (nI x)], M)) rfl rfl rfl ?_
            refine ps_st (S' := (106, [(4, .int 1), (0, .ref m0), (1, .int (nI x)), (3, .int 1)], [.int 308, .int (nI x)], M)) rfl rfl rfl ?_
            refine ps_st (S' := (107, [(4, .int 1), (0, .ref m0), (1, .int (nI x)), (3, .int 1)], [.int ((nI x) &&& 308)], M)) rfl rfl rfl ?_
            rw [nI_an (p := x) (k := 308) (x := 308) rfl]
            show pl _ _ _ (_, [(4, .int 1), (0, .ref m0), (1, .int (nI x)), (3, .int 1)], [.int (nI (aN x 308))], M) _
            refine ps_if (S1 := (112, [(4, .int 1), (0, .ref m0), (1, .int (nI x)), (3, .int 1)], [], M)) (S2 := (110, [(4, .int 1), (0, .ref m0), (1, .int (nI x)), (3, .int 1)], [], M)) rfl rfl rfl (fun c_107 => ?_) (fun c_107 => ?_)
            · have c_107 : (nI (aN x 308)) = 0 := of_decide_eq_true c_107
              have n_107 : aN x 308 = 0 := (eq_nI (p := aN x 308) (n := 0) (Nat.lt_of_le_of_lt (an_le _ _) (by decide)) (by decide)).mp c_107
              refine ps_st (S' := (113, [(4, .int 1), (0, .ref m0), (1, .int (nI x)), (3, .int 1)], [.ref m0], M)) rfl rfl rfl ?_
              refine pr_int (j := 53) (S' := (116, [(4, .int 1), (0, .ref m0), (1, .int (nI x)), (3, .int 1)], [.int (nI mj)], M)) rfl hR rfl hi53 rfl ?_
              refine ps_st (S' := (118, [(4, .int 1), (0, .ref m0), (1, .int (nI x)), (3, .int 1)], [.int 52, .int (nI mj)], M)) rfl rfl rfl ?_
              refine ps_if2 (S1 := (145, [(4, .int 1), (0, .ref m0), (1, .int (nI x)), (3, .int 1)], [], M)) (S2 := (121, [(4, .int 1), (0, .ref m0), (1, .int (nI x)), (3, .int 1)], [], M)) rfl rfl rfl (fun c_118 => ?_) (fun c_118 => ?_)
              · have c_118 : 52 ≤ (nI mj) := of_decide_eq_true c_118
                have n_118 : 52 ≤ mj := (le_nI (p := 52) (n := mj) (by decide) (by omega)).mp c_118
                refine ps_st (S' := (146, [(4, .int 1), (0, .ref m0), (1, .int (nI x)), (3, .int 1)], [.int (nI x)], M)) rfl rfl rfl ?_
                refine ps_st (S' := (147, [(4, .int 1), (0, .ref m0), (1, .int (nI x)), (3, .int 1)], [.int 1, .int (nI x)], M)) rfl rfl rfl ?_
                refine ps_st (S' := (148, [(4, .int 1), (0, .ref m0), (1, .int (nI x)), (3, .int 1)], [.int ((nI x) &&& 1)], M)) rfl rfl rfl ?_
                rw [nI_an (p := x) (k := 1) (x := 1) rfl]
                show pl _ _ _ (_, [(4, .int 1), (0, .ref m0), (1, .int (nI x)), (3, .int 1)], [.int (nI (aN x 1))], M) _
                refine ps_if (S1 := (155, [(4, .int 1), (0, .ref m0), (1, .int (nI x)), (3, .int 1)], [], M)) (S2 := (151, [(4, .int 1), (0, .ref m0), (1, .int (nI x)), (3, .int 1)], [], M)) rfl rfl rfl (fun c_148 => ?_) (fun c_148 => ?_)
                · have c_148 : (nI (aN x 1)) = 0 := of_decide_eq_true c_148
                  have n_148 : aN x 1 = 0 := (eq_nI (p := aN x 1) (n := 0) (Nat.lt_of_le_of_lt (an_le _ _) (by decide)) (by decide)).mp c_148
                  refine ps_st (S' := (156, [(1, .int (nI x)), (4, .int 1)], [.int 0], M)) rfl rfl rfl ?_
                  refine ps_st (S' := (157, [(1, .int (nI x)), (4, .int 1)], [.int (nI x), .int 0], M)) rfl rfl rfl ?_
                  refine ps_st (S' := (158, [(1, .int (nI x)), (4, .int 1)], [.int 2, .int (nI x), .int 0], M)) rfl rfl rfl ?_
                  refine ps_st (S' := (159, [(1, .int (nI x)), (4, .int 1)], [.int ((nI x) &&& 2), .int 0], M)) rfl rfl rfl ?_
                  rw [nI_an (p := x) (k := 2) (x := 2) rfl]
                  show pl _ _ _ (_, [(1, .int (nI x)), (4, .int 1)], [.int (nI (aN x 2)), .int 0], M) _
                  refine ps_if (S1 := (166, [(1, .int (nI x)), (4, .int 1)], [.int 0], M)) (S2 := (162, [(1, .int (nI x)), (4, .int 1)], [.int 0], M)) rfl rfl rfl (fun c_159 => ?_) (fun c_159 => ?_)
                  · have c_159 : (nI (aN x 2)) = 0 := of_decide_eq_true c_159
                    have n_159 : aN x 2 = 0 := (eq_nI (p := aN x 2) (n := 0) (Nat.lt_of_le_of_lt (an_le _ _) (by decide)) (by decide)).mp c_159
                    refine ps_st (S' := (167, [(4, .int 1)], [.int 0, .int 0], M)) rfl rfl rfl ?_
                    refine ps_if2 (S1 := (172, [(4, .int 1)], [], M)) (S2 := (170, [], [], M)) rfl rfl rfl (fun c_167 => ?_) (fun c_167 => ?_)
                    · exact absurd (of_decide_eq_true c_167) (by decide)
                    refine ps_st (S' := (171, [], [.int 0], M)) rfl rfl rfl ?_
                    exact ps_ret rfl rfl (⟨congrArg (fun x => some (Value.int (nI x))) (show 0 = fitN mj c x 0 from by
                        have e3 := has_0 x 1400
                        have e4 := has_0 x 1024
                        have e5 := has_0 c 512
                        have e2 := sev_0 x
                        have b1 := le1_one x
                        have ha : absN mj x = 0 := (abs_0 mj x).mpr (by omega)
                        have b2 := le1_imh mj x
                        have hi : imhN mj x = 0 := (imh_0 mj x).mpr (by omega)
                        unfold fitN
                        first | ((repeat first | rw [if_pos (by omega)] | rw [if_neg (by omega)]) <;> first | rfl | omega) | ((repeat' split) <;> first | rfl | (exfalso; omega) | omega)), rfl⟩)
                  · have c_159 : ¬ ((nI (aN x 2)) = 0) := of_decide_eq_false c_159
                    have n_159 : ¬ (aN x 2 = 0) := fun h9 => c_159 ((eq_nI (p := aN x 2) (n := 0) (Nat.lt_of_le_of_lt (an_le _ _) (by decide)) (by decide)).mpr h9)
                    refine ps_st (S' := (163, [(1, .int (nI x)), (4, .int 1)], [.int 1, .int 0], M)) rfl rfl rfl ?_
                    refine ps_st (S' := (167, [(4, .int 1)], [.int 1, .int 0], M)) rfl rfl rfl ?_
                    refine ps_if2 (S1 := (172, [(4, .int 1)], [], M)) (S2 := (170, [], [], M)) rfl rfl rfl (fun c_167 => ?_) (fun c_167 => ?_)
                    rotate_left
                    · exact absurd (by decide) (of_decide_eq_false c_167)
                    refine ps_st (S' := (174, [(4, .int 1)], [.int 1], M)) rfl rfl rfl ?_
                    refine ps_if (S1 := (181, [(4, .int 1)], [], M)) (S2 := (177, [(4, .int 1)], [], M)) rfl rfl rfl (fun c_174 => ?_) (fun c_174 => ?_)
                    rotate_left
                    · exact absurd (by decide) (of_decide_eq_false c_174)
                    refine ps_st (S' := (182, [], [.int 0], M)) rfl rfl rfl ?_
                    exact ps_ret rfl rfl (⟨congrArg (fun x => some (Value.int (nI x))) (show 0 = fitN mj c x 0 from by
                        have e3 := has_0 x 1400
                        have e4 := has_0 x 1024
                        have e5 := has_0 c 512
                        have e2 := sev_0 x
                        have b1 := le1_one x
                        have ha : absN mj x = 0 := (abs_0 mj x).mpr (by omega)
                        have b2 := le1_imh mj x
                        have hi : ¬ imhN mj x = 0 := fun h => absurd ((imh_0 mj x).mp h) (by omega)
                        unfold fitN
                        first | ((repeat first | rw [if_pos (by omega)] | rw [if_neg (by omega)]) <;> first | rfl | omega) | ((repeat' split) <;> first | rfl | (exfalso; omega) | omega)), rfl⟩)
                · have c_148 : ¬ ((nI (aN x 1)) = 0) := of_decide_eq_false c_148
                  have n_148 : ¬ (aN x 1 = 0) := fun h9 => c_148 ((eq_nI (p := aN x 1) (n := 0) (Nat.lt_of_le_of_lt (an_le _ _) (by decide)) (by decide)).mpr h9)
                  refine ps_st (S' := (152, [(4, .int 1), (0, .ref m0), (1, .int (nI x)), (3, .int 1)], [.int 1], M)) rfl rfl rfl ?_
                  refine ps_st (S' := (156, [(1, .int (nI x)), (4, .int 1)], [.int 1], M)) rfl rfl rfl ?_
                  refine ps_st (S' := (157, [(1, .int (nI x)), (4, .int 1)], [.int (nI x), .int 1], M)) rfl rfl rfl ?_
                  refine ps_st (S' := (158, [(1, .int (nI x)), (4, .int 1)], [.int 2, .int (nI x), .int 1], M)) rfl rfl rfl ?_
                  refine ps_st (S' := (159, [(1, .int (nI x)), (4, .int 1)], [.int ((nI x) &&& 2), .int 1], M)) rfl rfl rfl ?_
                  rw [nI_an (p := x) (k := 2) (x := 2) rfl]
                  show pl _ _ _ (_, [(1, .int (nI x)), (4, .int 1)], [.int (nI (aN x 2)), .int 1], M) _
                  refine ps_if (S1 := (166, [(1, .int (nI x)), (4, .int 1)], [.int 1], M)) (S2 := (162, [(1, .int (nI x)), (4, .int 1)], [.int 1], M)) rfl rfl rfl (fun c_159 => ?_) (fun c_159 => ?_)
                  · have c_159 : (nI (aN x 2)) = 0 := of_decide_eq_true c_159
                    have n_159 : aN x 2 = 0 := (eq_nI (p := aN x 2) (n := 0) (Nat.lt_of_le_of_lt (an_le _ _) (by decide)) (by decide)).mp c_159
                    refine ps_st (S' := (167, [(4, .int 1)], [.int 0, .int 1], M)) rfl rfl rfl ?_
                    refine ps_if2 (S1 := (172, [(4, .int 1)], [], M)) (S2 := (170, [], [], M)) rfl rfl rfl (fun c_167 => ?_) (fun c_167 => ?_)
                    rotate_left
                    · exact absurd (by decide) (of_decide_eq_false c_167)
                    refine ps_st (S' := (174, [(4, .int 1)], [.int 1], M)) rfl rfl rfl ?_
                    refine ps_if (S1 := (181, [(4, .int 1)], [], M)) (S2 := (177, [(4, .int 1)], [], M)) rfl rfl rfl (fun c_174 => ?_) (fun c_174 => ?_)
                    rotate_left
                    · exact absurd (by decide) (of_decide_eq_false c_174)
                    refine ps_st (S' := (182, [], [.int 0], M)) rfl rfl rfl ?_
                    exact ps_ret rfl rfl (⟨congrArg (fun x => some (Value.int (nI x))) (show 0 = fitN mj c x 0 from by
                        have e3 := has_0 x 1400
                        have e4 := has_0 x 1024
                        have e5 := has_0 c 512
                        have e2 := sev_0 x
                        have b1 := le1_one x
                        have ha : absN mj x = 0 := (abs_0 mj x).mpr (by omega)
                        have b2 := le1_imh mj x
                        have hi : ¬ imhN mj x = 0 := fun h => absurd ((imh_0 mj x).mp h) (by omega)
                        unfold fitN
                        first | ((repeat first | rw [if_pos (by omega)] | rw [if_neg (by omega)]) <;> first | rfl | omega) | ((repeat' split) <;> first | rfl | (exfalso; omega) | omega)), rfl⟩)
                  · have c_159 : ¬ ((nI (aN x 2)) = 0) := of_decide_eq_false c_159
                    have n_159 : ¬ (aN x 2 = 0) := fun h9 => c_159 ((eq_nI (p := aN x 2) (n := 0) (Nat.lt_of_le_of_lt (an_le _ _) (by decide)) (by decide)).mpr h9)
                    refine ps_st (S' := (163, [(1, .int (nI x)), (4, .int 1)], [.int 1, .int 1], M)) rfl rfl rfl ?_
                    refine ps_st (S' := (167, [(4, .int 1)], [.int 1, .int 1], M)) rfl rfl rfl ?_
                    refine ps_if2 (S1 := (172, [(4, .int 1)], [], M)) (S2 := (170, [], [], M)) rfl rfl rfl (fun c_167 => ?_) (fun c_167 => ?_)
                    · exact absurd (of_decide_eq_true c_167) (by decide)
                    refine ps_st (S' := (171, [], [.int 0], M)) rfl rfl rfl ?_
                    exact ps_ret rfl rfl (⟨congrArg (fun x => some (Value.int (nI x))) (show 0 = fitN mj c x 0 from by
                        have e3 := has_0 x 1400
                        have e4 := has_0 x 1024
                        have e5 := has_0 c 512
                        have e2 := sev_0 x
                        have b1 := le1_one x
                        have ha : absN mj x = 0 := (abs_0 mj x).mpr (by omega)
                        have b2 := le1_imh mj x
                        have hi : imhN mj x = 0 := (imh_0 mj x).mpr (by omega)
                        unfold fitN
                        first | ((repeat first | rw [if_pos (by omega)] | rw [if_neg (by omega)]) <;> first | rfl | omega) | ((repeat' split) <;> first | rfl | (exfalso; omega) | omega)), rfl⟩)
              · have c_118 : ¬ (52 ≤ (nI mj)) := of_decide_eq_false c_118
                have n_118 : ¬ (52 ≤ mj) := fun h9 => c_118 ((le_nI (p := 52) (n := mj) (by decide) (by omega)).mpr h9)
                refine ps_st (S' := (122, [(4, .int 1), (0, .ref m0), (1, .int (nI x)), (3, .int 1)], [.int (nI x)], M)) rfl rfl rfl ?_
                refine ps_st (S' := (123, [(4, .int 1), (0, .ref m0), (1, .int (nI x)), (3, .int 1)], [.int 1, .int (nI x)], M)) rfl rfl rfl ?_
                refine ps_st (S' := (124, [(4, .int 1), (0, .ref m0), (1, .int (nI x)), (3, .int 1)], [.int ((nI x) &&& 1)], M)) rfl rfl rfl ?_
                rw [nI_an (p := x) (k := 1) (x := 1) rfl]
                show pl _ _ _ (_, [(4, .int 1), (0, .ref m0), (1, .int (nI x)), (3, .int 1)], [.int (nI (aN x 1))], M) _
                refine ps_if (S1 := (170, [], [], M)) (S2 := (127, [(4, .int 1), (0, .ref m0), (1, .int (nI x)), (3, .int 1)], [], M)) rfl rfl rfl (fun c_124 => ?_) (fun c_124 => ?_)
                · have c_124 : (nI (aN x 1)) = 0 := of_decide_eq_true c_124
                  have n_124 : aN x 1 = 0 := (eq_nI (p := aN x 1) (n := 0) (Nat.lt_of_le_of_lt (an_le _ _) (by decide)) (by decide)).mp c_124
                  refine ps_st (S' := (171, [], [.int 0], M)) rfl rfl rfl ?_
                  exact ps_ret rfl rfl (⟨congrArg (fun x => some (Value.int (nI x))) (show 0 = fitN mj c x 0 from by
                      have e3 := has_0 x 1400
                      have e4 := has_0 x 1024
                      have e5 := has_0 c 512
                      have e2 := sev_0 x
                      have b1 := le1_one x
                      have ha : absN mj x = 0 := (abs_0 mj x).mpr (by omega)
                      have b2 := le1_imh mj x
                      have hi : imhN mj x = 0 := (imh_0 mj x).mpr (by omega)
                      unfold fitN
                      first | ((repeat first | rw [if_pos (by omega)] | rw [if_neg (by omega)]) <;> first | rfl | omega) | ((repeat' split) <;> first | rfl | (exfalso; omega) | omega)), rfl⟩)
                · have c_124 : ¬ ((nI (aN x 1)) = 0) := of_decide_eq_false c_124
                  have n_124 : ¬ (aN x 1 = 0) := fun h9 => c_124 ((eq_nI (p := aN x 1) (n := 0) (Nat.lt_of_le_of_lt (an_le _ _) (by decide)) (by decide)).mpr h9)
                  refine ps_st (S' := (128, [(4, .int 1), (0, .ref m0), (1, .int (nI x)), (3, .int 1)], [.int (nI x)], M)) rfl rfl rfl ?_
                  refine ps_st (S' := (131, [(4, .int 1), (0, .ref m0), (1, .int (nI x)), (3, .int 1)], [.int 1024, .int (nI x)], M)) rfl rfl rfl ?_
                  refine ps_st (S' := (132, [(4, .int 1), (0, .ref m0), (1, .int (nI x)), (3, .int 1)], [.int ((nI x) &&& 1024)], M)) rfl rfl rfl ?_
                  rw [nI_an (p := x) (k := 1024) (x := 1024) rfl]
                  show pl _ _ _ (_, [(4, .int 1), (0, .ref m0), (1, .int (nI x)), (3, .int 1)], [.int (nI (aN x 1024))], M) _
                  refine ps_if (S1 := (170, [], [], M)) (S2 := (135, [(4, .int 1), (0, .ref m0), (1, .int (nI x)), (3, .int 1)], [], M)) rfl rfl rfl (fun c_132 => ?_) (fun c_132 => ?_)
                  · exact absurd (of_decide_eq_true c_132) (show ¬ ((nI (aN x 1024)) = 0) from fun h9 => absurd ((eq_nI (p := aN x 1024) (n := 0) (Nat.lt_of_le_of_lt (an_le _ _) (by decide)) (by decide)).mp h9) (by omega))
                  refine ps_st (S' := (136, [(4, .int 1), (0, .ref m0), (1, .int (nI x)), (3, .int 1)], [.int (nI x)], M)) rfl rfl rfl ?_
                  refine ps_st (S' := (138, [(4, .int 1), (0, .ref m0), (1, .int (nI x)), (3, .int 1)], [.int 8, .int (nI x)], M)) rfl rfl rfl ?_
                  refine ps_st (S' := (139, [(4, .int 1), (0, .ref m0), (1, .int (nI x)), (3, .int 1)], [.int ((nI x) &&& 8)], M)) rfl rfl rfl ?_
                  rw [nI_an (p := x) (k := 8) (x := 8) rfl]
                  show pl _ _ _ (_, [(4, .int 1), (0, .ref m0), (1, .int (nI x)), (3, .int 1)], [.int (nI (aN x 8))], M) _
                  refine ps_if (S1 := (172, [(4, .int 1)], [], M)) (S2 := (142, [(4, .int 1), (0, .ref m0), (1, .int (nI x)), (3, .int 1)], [], M)) rfl rfl rfl (fun c_139 => ?_) (fun c_139 => ?_)
                  · have c_139 : (nI (aN x 8)) = 0 := of_decide_eq_true c_139
                    have n_139 : aN x 8 = 0 := (eq_nI (p := aN x 8) (n := 0) (Nat.lt_of_le_of_lt (an_le _ _) (by decide)) (by decide)).mp c_139
                    refine ps_st (S' := (174, [(4, .int 1)], [.int 1], M)) rfl rfl rfl ?_
                    refine ps_if (S1 := (181, [(4, .int 1)], [], M)) (S2 := (177, [(4, .int 1)], [], M)) rfl rfl rfl (fun c_174 => ?_) (fun c_174 => ?_)
                    rotate_left
                    · exact absurd (by decide) (of_decide_eq_false c_174)
                    refine ps_st (S' := (182, [], [.int 0], M)) rfl rfl rfl ?_
                    exact ps_ret rfl rfl (⟨congrArg (fun x => some (Value.int (nI x))) (show 0 = fitN mj c x 0 from by
                        have e3 := has_0 x 1400
                        have e4 := has_0 x 1024
                        have e5 := has_0 c 512
                        have e2 := sev_0 x
                        have b1 := le1_one x
                        have ha : absN mj x = 0 := (abs_0 mj x).mpr (by omega)
                        have b2 := le1_imh mj x
                        have hi : ¬ imhN mj x = 0 := fun h => absurd ((imh_0 mj x).mp h) (by omega)
                        unfold fitN
                        first | ((repeat first | rw [if_pos (by omega)] | rw [if_neg (by omega)]) <;> first | rfl | omega) | ((repeat' split) <;> first | rfl | (exfalso; omega) | omega)), rfl⟩)
                  · have c_139 : ¬ ((nI (aN x 8)) = 0) := of_decide_eq_false c_139
                    have n_139 : ¬ (aN x 8 = 0) := fun h9 => c_139 ((eq_nI (p := aN x 8) (n := 0) (Nat.lt_of_le_of_lt (an_le _ _) (by decide)) (by decide)).mpr h9)
                    refine ps_st (S' := (170, [], [], M)) rfl rfl rfl ?_
                    refine ps_st (S' := (171, [], [.int 0], M)) rfl rfl rfl ?_
                    exact ps_ret rfl rfl (⟨congrArg (fun x => some (Value.int (nI x))) (show 0 = fitN mj c x 0 from by
                        have e3 := has_0 x 1400
                        have e4 := has_0 x 1024
                        have e5 := has_0 c 512
                        have e2 := sev_0 x
                        have b1 := le1_one x
                        have ha : absN mj x = 0 := (abs_0 mj x).mpr (by omega)
                        have b2 := le1_imh mj x
                        have hi : imhN mj x = 0 := (imh_0 mj x).mpr (by omega)
                        unfold fitN
                        first | ((repeat first | rw [if_pos (by omega)] | rw [if_neg (by omega)]) <;> first | rfl | omega) | ((repeat' split) <;> first | rfl | (exfalso; omega) | omega)), rfl⟩)
            · have c_107 : ¬ ((nI (aN x 308)) = 0) := of_decide_eq_false c_107
              have n_107 : ¬ (aN x 308 = 0) := fun h9 => c_107 ((eq_nI (p := aN x 308) (n := 0) (Nat.lt_of_le_of_lt (an_le _ _) (by decide)) (by decide)).mpr h9)
              refine ps_st (S' := (111, [(4, .int 1), (0, .ref m0), (1, .int (nI x)), (3, .int 1)], [.int 0], M)) rfl rfl rfl ?_
              exact ps_ret rfl rfl (⟨congrArg (fun x => some (Value.int (nI x))) (show 0 = fitN mj c x 0 from by
                  have e3 := has_0 x 1400
                  have e4 := has_0 x 1024
                  have e5 := has_0 c 512
                  have e2 := sev_0 x
                  have b1 := le1_one x
                  have ha : absN mj x = 0 := (abs_0 mj x).mpr (by omega)
                  have b2 := le1_imh mj x
                  have hi : imhN mj x = 0 := (imh_0 mj x).mpr (by omega)
                  unfold fitN
                  first | ((repeat first | rw [if_pos (by omega)] | rw [if_neg (by omega)]) <;> first | rfl | omega) | ((repeat' split) <;> first | rfl | (exfalso; omega) | omega)), rfl⟩)
set_option maxHeartbeats 8000000 in
theorem rd_fit10 {g : xe_G} {m0 : Nat} {q : Nat → Nat} {z : Nat × Nat} {I : rI} {R : rR} {M : mi_H} {mj x c : Nat} (hR : RS g m0 q z I R M) (hi53 : I 53 = some (nI mj))  (hmj : mj < 65536) (hx : x < 65536) (hc : aN c 512 = 0) : pt (mT g) 209 [.ref m0, .int (nI x), .int 1, .int 0] M (fun v M' => (v = some (.int (nI (fitN mj c x 1))) ∧ M = M')) := by
  refine pt_in (b := mb_209 g) rfl (fun kf => ?_)
  show pl (mT g) kf (mb_209 g).2 (0, [(0, .ref m0), (1, .int (nI x)), (2, .int 1), (3, .int 0)], [], M) _
  refine ps_st (S' := (1, [(0, .ref m0), (1, .int (nI x)), (2, .int 1), (3, .int 0)], [.int 1], M)) rfl rfl rfl ?_
  refine ps_if (S1 := (28, [(0, .ref m0), (1, .int (nI x)), (2, .int 1), (3, .int 0)], [], M)) (S2 := (4, [(0, .ref m0), (1, .int (nI x)), (2, .int 1), (3, .int 0)], [], M)) rfl rfl rfl (fun c_1 => ?_) (fun c_1 => ?_)
  · exact absurd (of_decide_eq_true c_1) (by decide)
  refine ps_st (S' := (5, [(0, .ref m0), (1, .int (nI x)), (2, .int 1), (3, .int 0)], [.int (nI x)], M)) rfl rfl rfl ?_
  refine ps_st (S' := (6, [(0, .ref m0), (1, .int (nI x)), (2, .int 1), (3, .int 0)], [.int 1, .int (nI x)], M)) rfl rfl rfl ?_
  refine ps_st (S' := (7, [(0, .ref m0), (1, .int (nI x)), (2, .int 1), (3, .int 0)], [.int 2, .int 1, .int (nI x)], M)) rfl rfl rfl ?_
  refine ps_st (S' := (8, [(0, .ref m0), (1, .int (nI x)), (2, .int 1), (3, .int 0)], [.int 4, .int 2, .int 1, .int (nI x)], M)) rfl rfl rfl ?_
  refine pl_call (a := [.int (nI x), .int 1, .int 2, .int 4]) (rest := []) rfl rfl rfl (rd_several (x := x)) (fun v1 M2 q3 => ?_)
  obtain ⟨rfl, rfl⟩ := q3
  show pl _ _ _ (11, [(0, .ref m0), (1, .int (nI x)), (2, .int 1), (3, .int 0)], [.int (nI (sevN x))], M) _
  refine ps_if (S1 := (26, [], [], M)) (S2 := (14, [(0, .ref m0), (1, .int (nI x)), (2, .int 1), (3, .int 0)], [], M)) rfl rfl rfl (fun c_11 => ?_) (fun c_11 => ?_)
  · have c_11 : ¬ (nI (sevN x)) = 0 := of_decide_eq_true c_11
    have n_11 : ¬ (sevN x = 0) := fun h9 => c_11 ((eq_nI (p := sevN x) (n := 0) (Nat.lt_trans (le1_sev _) (by decide)) (by decide)).mpr h9)
    refine ps_st (S' := (27, [], [.int 0], M)) rfl rfl rfl ?_
    exact ps_ret rfl rfl (⟨congrArg (fun x => some (Value.int (nI x))) (show 0 = fitN mj c x 1 from by
        have e3 := has_0 x 1400
        have e4 := has_0 x 1024
        have e5 := has_0 c 512
        have e2 := sev_0 x
        have b1 := le1_one x
        unfold fitN
        first | ((repeat first | rw [if_pos (by omega)] | rw [if_neg (by omega)]) <;> first | rfl | omega) | ((repeat' split) <;> first | rfl | (exfalso; omega) | omega)), rfl⟩)
  · have c_11 : ¬ (¬ (nI (sevN x)) = 0) := of_decide_eq_false c_11
    have n_11 : sevN x = 0 := (eq_nI (p := sevN x) (n := 0) (Nat.lt_trans (le1_sev _) (by decide)) (by decide)).mp (Decidable.not_not.mp c_11)
    refine ps_st (S' := (15, [(0, .ref m0), (1, .int (nI x)), (2, .int 1), (3, .int 0)], [.int (nI x)], M)) rfl rfl rfl ?_
    refine ps_st (S' := (18, [(0, .ref m0), (1, .int (nI x)), (2, .int 1), (3, .int 0)], [.int 1400, .int (nI x)], M)) rfl rfl rfl ?_
    refine ps_st (S' := (19, [(0, .ref m0), (1, .int (nI x)), (2, .int 1), (3, .int 0)], [.int ((nI x) &&& 1400)], M)) rfl rfl rfl ?_
    rw [nI_an (p := x) (k := 1400) (x := 1400) rfl]
    show pl _ _ _ (_, [(0, .ref m0), (1, .int (nI x)), (2, .int 1), (3, .int 0)], [.int (nI (aN x 1400))], M) _
    refine ps_if (S1 := (26, [], [], M)) (S2 := (22, [(0, .ref m0), (1, .int (nI x)), (2, .int 1), (3, .int 0)], [], M)) rfl rfl rfl (fun c_19 => ?_) (fun c_19 => ?_)
    · have c_19 : ¬ (nI (aN x 1400)) = 0 := of_decide_eq_true c_19
      have n_19 : ¬ (aN x 1400 = 0) := fun h9 => c_19 ((eq_nI (p := aN x 1400) (n := 0) (Nat.lt_of_le_of_lt (an_le _ _) (by decide)) (by decide)).mpr h9)
      refine ps_st (S' := (27, [], [.int 0], M)) rfl rfl rfl ?_
      exact ps_ret rfl rfl (⟨congrArg (fun x => some (Value.int (nI x))) (show 0 = fitN mj c x 1 from by
          have e3 := has_0 x 1400
          have e4 := has_0 x 1024
          have e5 := has_0 c 512
          have e2 := sev_0 x
          have b1 := le1_one x
          unfold fitN
          first | ((repeat first | rw [if_pos (by omega)] | rw [if_neg (by omega)]) <;> first | rfl | omega) | ((repeat' split) <;> first | rfl | (exfalso; omega) | omega)), rfl⟩)
    · have c_19 : ¬ (¬ (nI (aN x 1400)) = 0) := of_decide_eq_false c_19
      have n_19 : aN x 1400 = 0 := (eq_nI (p := aN x 1400) (n := 0) (Nat.lt_of_le_of_lt (an_le _ _) (by decide)) (by decide)).mp (Decidable.not_not.mp c_19)
      refine ps_st (S' := (23, [(0, .ref m0), (1, .int (nI x)), (2, .int 1), (3, .int 0)], [.int 1], M)) rfl rfl rfl ?_
      refine ps_st (S' := (27, [], [.int 1], M)) rfl rfl rfl ?_
      exact ps_ret rfl rfl (⟨congrArg (fun x => some (Value.int (nI x))) (show 1 = fitN mj c x 1 from by
          have e3 := has_0 x 1400
          have e4 := has_0 x 1024
          have e5 := has_0 c 512
          have e2 := sev_0 x
          have b1 := le1_one x
          unfold fitN
          first | ((repeat first | rw [if_pos (by omega)] | rw [if_neg (by omega)]) <;> first | rfl | omega) | ((repeat' split) <;> first | rfl | (exfalso; omega) | omega)), rfl⟩)
set_option maxHeartbeats 8000000 in
theorem rd_fit11 {g : xe_G} {m0 : Nat} {q : Nat → Nat} {z : Nat × Nat} {I : rI} {R : rR} {M : mi_H} {mj x c : Nat} (hR : RS g m0 q z I R M) (hi53 : I 53 = some (nI mj))  (hmj : mj < 65536) (hx : x < 65536) (hc : ¬ aN c 512 = 0) : pt (mT g) 209 [.ref m0, .int (nI x), .int 1, .int 1] M (fun v M' => (v = some (.int (nI (fitN mj c x 1))) ∧ M = M')) := by
  refine pt_in (b := mb_209 g) rfl (fun kf => ?_)
  show pl (mT g) kf (mb_209 g).2 (0, [(0, .ref m0), (1, .int (nI x)), (2, .int 1), (3, .int 1)], [], M) _
  refine ps_st (S' := (1, [(0, .ref m0), (1, .int (nI x)), (2, .int 1), (3, .int 1)], [.int 1], M)) rfl rfl rfl ?_
  refine ps_if (S1 := (28, [(0, .ref m0), (1, .int (nI x)), (2, .int 1), (3, .int 1)], [], M)) (S2 := (4, [(0, .ref m0), (1, .int (nI x)), (2, .int 1), (3, .int 1)], [], M)) rfl rfl rfl (fun c_1 => ?_) (fun c_1 => ?_)
  · exact absurd (of_decide_eq_true c_1) (by decide)
  refine ps_st (S' := (5, [(0, .ref m0), (1, .int (nI x)), (2, .int 1), (3, .int 1)], [.int (nI x)], M)) rfl rfl rfl ?_
  refine ps_st (S' := (6, [(0, .ref m0), (1, .int (nI x)), (2, .int 1), (3, .int 1)], [.int 1, .int (nI x)], M)) rfl rfl rfl ?_
  refine ps_st (S' := (7, [(0, .ref m0), (1, .int (nI x)), (2, .int 1), (3, .int 1)], [.int 2, .int 1, .int (nI x)], M)) rfl rfl rfl ?_
  refine ps_st (S' := (8, [(0, .ref m0), (1, .int (nI x)), (2, .int 1), (3, .int 1)], [.int 4, .int 2, .int 1, .int (nI x)], M)) rfl rfl rfl ?_
  refine pl_call (a := [.int (nI x), .int 1, .int 2, .int 4]) (rest := []) rfl rfl rfl (rd_several (x := x)) (fun v1 M2 q3 => ?_)
  obtain ⟨rfl, rfl⟩ := q3
  show pl _ _ _ (11, [(0, .ref m0), (1, .int (nI x)), (2, .int 1), (3, .int 1)], [.int (nI (sevN x))], M) _
  refine ps_if (S1 := (26, [], [], M)) (S2 := (14, [(0, .ref m0), (1, .int (nI x)), (2, .int 1), (3, .int 1)], [], M)) rfl rfl rfl (fun c_11 => ?_) (fun c_11 => ?_)
  · have c_11 : ¬ (nI (sevN x)) = 0 := of_decide_eq_true c_11
    have n_11 : ¬ (sevN x = 0) := fun h9 => c_11 ((eq_nI (p := sevN x) (n := 0) (Nat.lt_trans (le1_sev _) (by decide)) (by decide)).mpr h9)
    refine ps_st (S' := (27, [], [.int 0], M)) rfl rfl rfl ?_
    exact ps_ret rfl rfl (⟨congrArg (fun x => some (Value.int (nI x))) (show 0 = fitN mj c x 1 from by
        have e3 := has_0 x 1400
        have e4 := has_0 x 1024
        have e5 := has_0 c 512
        have e2 := sev_0 x
        have b1 := le1_one x
        unfold fitN
        first | ((repeat first | rw [if_pos (by omega)] | rw [if_neg (by omega)]) <;> first | rfl | omega) | ((repeat' split) <;> first | rfl | (exfalso; omega) | omega)), rfl⟩)
  · have c_11 : ¬ (¬ (nI (sevN x)) = 0) := of_decide_eq_false c_11
    have n_11 : sevN x = 0 := (eq_nI (p := sevN x) (n := 0) (Nat.lt_trans (le1_sev _) (by decide)) (by decide)).mp (Decidable.not_not.mp c_11)
    refine ps_st (S' := (15, [(0, .ref m0), (1, .int (nI x)), (2, .int 1), (3, .int 1)], [.int (nI x)], M)) rfl rfl rfl ?_
    refine ps_st (S' := (18, [(0, .ref m0), (1, .int (nI x)), (2, .int 1), (3, .int 1)], [.int 1400, .int (nI x)], M)) rfl rfl rfl ?_
    refine ps_st (S' := (19, [(0, .ref m0), (1, .int (nI x)), (2, .int 1), (3, .int 1)], [.int ((nI x) &&& 1400)], M)) rfl rfl rfl ?_
    rw [nI_an (p := x) (k := 1400) (x := 1400) rfl]
    show pl _ _ _ (_, [(0, .ref m0), (1, .int (nI x)), (2, .int 1), (3, .int 1)], [.int (nI (aN x 1400))], M) _
    refine ps_if (S1 := (26, [], [], M)) (S2 := (22, [(0, .ref m0), (1, .int (nI x)), (2, .int 1), (3, .int 1)], [], M)) rfl rfl rfl (fun c_19 => ?_) (fun c_19 => ?_)
    · have c_19 : ¬ (nI (aN x 1400)) = 0 := of_decide_eq_true c_19
      have n_19 : ¬ (aN x 1400 = 0) := fun h9 => c_19 ((eq_nI (p := aN x 1400) (n := 0) (Nat.lt_of_le_of_lt (an_le _ _) (by decide)) (by decide)).mpr h9)
      refine ps_st (S' := (27, [], [.int 0], M)) rfl rfl rfl ?_
      exact ps_ret rfl rfl (⟨congrArg (fun x => some (Value.int (nI x))) (show 0 = fitN mj c x 1 from by
          have e3 := has_0 x 1400
          have e4 := has_0 x 1024
          have e5 := has_0 c 512
          have e2 := sev_0 x
          have b1 := le1_one x
          unfold fitN
          first | ((repeat first | rw [if_pos (by omega)] | rw [if_neg (by omega)]) <;> first | rfl | omega) | ((repeat' split) <;> first | rfl | (exfalso; omega) | omega)), rfl⟩)
    · have c_19 : ¬ (¬ (nI (aN x 1400)) = 0) := of_decide_eq_false c_19
      have n_19 : aN x 1400 = 0 := (eq_nI (p := aN x 1400) (n := 0) (Nat.lt_of_le_of_lt (an_le _ _) (by decide)) (by decide)).mp (Decidable.not_not.mp c_19)
      refine ps_st (S' := (23, [(0, .ref m0), (1, .int (nI x)), (2, .int 1), (3, .int 1)], [.int 1], M)) rfl rfl rfl ?_
      refine ps_st (S' := (27, [], [.int 1], M)) rfl rfl rfl ?_
      exact ps_ret rfl rfl (⟨congrArg (fun x => some (Value.int (nI x))) (show 1 = fitN mj c x 1 from by
          have e3 := has_0 x 1400
          have e4 := has_0 x 1024
          have e5 := has_0 c 512
          have e2 := sev_0 x
          have b1 := le1_one x
          unfold fitN
          first | ((repeat first | rw [if_pos (by omega)] | rw [if_neg (by omega)]) <;> first | rfl | omega) | ((repeat' split) <;> first | rfl | (exfalso; omega) | omega)), rfl⟩)
set_option maxHeartbeats 8000000 in
theorem rd_checkClass {g : xe_G} {m0 : Nat} {q : Nat → Nat} {z : Nat × Nat} {I : rI} {R : rR} {M : mi_H} {n : Nat} {f : Nat → Int32} {tx : List (List Nat)} {cN : Nat} {A : Nat → Nat} {N mj : Nat} {E : List (Nat × Nat)} {hA s3 : Nat} (hR : RS g m0 q z I R M) (hi54 : I 54 = some (nI hA)) (hi11 : I 11 = some (nI s3)) (hi51 : I 51 = some 0) (hi52 : I 52 = some (nI N)) (hi53 : I 53 = some (nI mj)) (hF : FK n f I R) (hY : SYT tx cN A I R) (hP : RPV f n E tx N I R) (hEP : EP f n E) (hN : N < 65536) (hmj : mj < 65536) (hs3 : s3 < tx.length ∧ tx.getD s3 [] = ltx 27) (hCP : CP f n E) (hin : hA + 8 + 2 * by2 f (hA + 6) ≤ n) : pt (mT g) 188 [.ref m0] M (fun v M' => (∃  (I' : rI) (R' : rR), (ccS f n E hA = none) ∧ v = some (.int 1) ∧ RS g m0 q z I' R' M' ∧ eqI [47, 48, 58, 59, 60, 61] I I' ∧ eqR [] R R' ∧ I' 58 = some (nI (by2 f hA)) ∧ I' 61 = some (nI (by2 f (hA + 6)))) ∨ (∃ (e : Nat × Nat) (I' : rI) (R' : rR), (ccS f n E hA = some e) ∧ v = some (.int 0) ∧ RS g m0 q z I' R' M' ∧ eqI [47, 48, 58, 59, 60, 61] I I' ∧ eqR [] R R' ∧ I' 47 = some (nI e.1) ∧ I' 48 = some (nI e.2))) := by
  refine pt_in (b := mb_188 g) rfl (fun kf => ?_)
  show pl (mT g) kf (mb_188 g).2 (0, [(0, .ref m0)], [], M) _
  have hEI : eqI [47, 48, 58, 59, 60, 61] I I := eqI.rf
  have hER : eqR [] R R := eqR.rf
  have hn := hF.1
  have htl := hY.1.2.2.1
  have LL : ∀ (kf : Nat), (∀ (i : Nat) (M1 : mi_H) (I1 : rI) (R1 : rR), (RS g m0 q z I1 R1 M1) → (eqI [47, 48, 58, 59, 60, 61] I I1) → (eqR [] R R1) → (I1 54 = some (nI hA)) → (I1 11 = some (nI s3)) → (I1 51 = some 0) → (I1 52 = some (nI N)) → (I1 53 = some (nI mj)) → (I1 58 = some (nI (by2 f hA))) → (FK n f I1 R1) → (SYT tx cN A I1 R1) → (RPV f n E tx N I1 R1) → (hdS f n E hA = none) → (i ≤ by2 f (hA + 6)) → (ifS f n E (hA + 8) (by2 f (hA + 6) - i) i = ifS f n E (hA + 8) (by2 f (hA + 6)) 0) → (∀ j, j < i → ¬ plnN f n E (by2 f (hA + 8 + 2 * j)) = 0) →  pl (mT g) kf (mb_188 g).2 (242, [(0, .ref m0), (4, .int (nI (by2 f (hA + 6)))), (5, .int (nI i))], [], M1) (fun v M' => (∃  (I' : rI) (R' : rR), (ccS f n E hA = none) ∧ v = some (.int 1) ∧ RS g m0 q z I' R' M' ∧ eqI [47, 48, 58, 59, 60, 61] I I' ∧ eqR [] R R' ∧ I' 58 = some (nI (by2 f hA)) ∧ I' 61 = some (nI (by2 f (hA + 6)))) ∨ (∃ (e : Nat × Nat) (I' : rI) (R' : rR), (ccS f n E hA = some e) ∧ v = some (.int 0) ∧ RS g m0 q z I' R' M' ∧ eqI [47, 48, 58, 59, 60, 61] I I' ∧ eqR [] R R' ∧ I' 47 = some (nI e.1) ∧ I' 48 = some (nI e.2)))) ∧ (∀ (i j : Nat) (M1 : mi_H) (I1 : rI) (R1 : rR), (RS g m0 q z I1 R1 M1) → (eqI [47, 48, 58, 59, 60, 61] I I1) → (eqR [] R R1) → (I1 54 = some (nI hA)) → (I1 11 = some (nI s3)) → (I1 51 = some 0) → (I1 52 = some (nI N)) → (I1 53 = some (nI mj)) → (I1 58 = some (nI (by2 f hA))) → (FK n f I1 R1) → (SYT tx cN A I1 R1) → (RPV f n E tx N I1 R1) → (hdS f n E hA = none) → (i < by2 f (hA + 6)) → (j ≤ i) → (ifS f n E (hA + 8) (by2 f (hA + 6) - i) i = ifS f n E (hA + 8) (by2 f (hA + 6)) 0) → (¬ plnN f n E (by2 f (hA + 8 + 2 * i)) = 0) → (∀ j, j < i → ¬ plnN f n E (by2 f (hA + 8 + 2 * j)) = 0) → (dupN f n E (hA + 8) (by2 f (hA + 8 + 2 * i)) (i - j) j = dupN f n E (hA + 8) (by2 f (hA + 8 + 2 * i)) i 0) →  pl (mT g) kf (mb_188 g).2 (288, [(0, .ref m0), (4, .int (nI (by2 f (hA + 6)))), (5, .int (nI i)), (6, .int (nI (hA + 8 + 2 * i))), (7, .int (nI j))], [], M1) (fun v M' => (∃  (I' : rI) (R' : rR), (ccS f n E hA = none) ∧ v = some (.int 1) ∧ RS g m0 q z I' R' M' ∧ eqI [47, 48, 58, 59, 60, 61] I I' ∧ eqR [] R R' ∧ I' 58 = some (nI (by2 f hA)) ∧ I' 61 = some (nI (by2 f (hA + 6)))) ∨ (∃ (e : Nat × Nat) (I' : rI) (R' : rR), (ccS f n E hA = some e) ∧ v = some (.int 0) ∧ RS g m0 q z I' R' M' ∧ eqI [47, 48, 58, 59, 60, 61] I I' ∧ eqR [] R R' ∧ I' 47 = some (nI e.1) ∧ I' 48 = some (nI e.2)))) := by
    intro kf
    induction kf with
    | zero => exact ⟨by intros; exact pl_0, by intros; exact pl_0⟩
    | succ kf ih =>
      refine ⟨?_, ?_⟩
      · skip
        intro i M1 I1 R1 hR1 hEI1 hER1 hl54 hl11 hl51 hl52 hl53 hl58 hF1 hY1 hP1 hh hi hs hq
        have hn := hF1.1
        have hu9 := by2_lt f (hA + 6)
        have htl := hY1.1.2.2.1
        refine ps_st1 (S' := (244, [(0, .ref m0), (4, .int (nI (by2 f (hA + 6)))), (5, .int (nI i))], [.int (nI i)], M1)) rfl rfl rfl ?_
        refine ps_st (S' := (246, [(0, .ref m0), (4, .int (nI (by2 f (hA + 6)))), (5, .int (nI i))], [.int (nI (by2 f (hA + 6))), .int (nI i)], M1)) rfl rfl rfl ?_
        refine ps_if2 (S1 := (349, [(0, .ref m0), (4, .int (nI (by2 f (hA + 6)))), (5, .int (nI i))], [], M1)) (S2 := (249, [(0, .ref m0), (4, .int (nI (by2 f (hA + 6)))), (5, .int (nI i))], [], M1)) rfl rfl rfl (fun c_246 => ?_) (fun c_246 => ?_)
        · have c_246 : (nI (by2 f (hA + 6))) ≤ (nI i) := of_decide_eq_true c_246
          have n_246 : by2 f (hA + 6) ≤ i := (le_nI (p := by2 f (hA + 6)) (n := i) (Nat.lt_trans (by2_lt _ _) (by decide)) (by omega)).mp c_246
          refine ps_st (S' := (350, [(0, .ref m0), (4, .int (nI (by2 f (hA + 6)))), (5, .int (nI i))], [.ref m0], M1)) rfl rfl rfl ?_
          refine ps_st (S' := (352, [(0, .ref m0), (4, .int (nI (by2 f (hA + 6)))), (5, .int (nI i))], [.int (nI (by2 f (hA + 6))), .ref m0], M1)) rfl rfl rfl ?_
          refine pr_put (j := 61) rfl hR1 rfl (fun M1 I2 hR3 hi4 hI5 => ?_)
          have hi6 := (hI5 54 (by decide)).trans hl54
          have hi7 := (hI5 11 (by decide)).trans hl11
          have hi8 := (hI5 51 (by decide)).trans hl51
          have hi9 := (hI5 52 (by decide)).trans hl52
          have hi10 := (hI5 53 (by decide)).trans hl53
          have hi12 := (hI5 58 (by decide)).trans hl58
          have hF_13 := hF1.mono (pIx hI5 (by decide)) (fun _ _ => rfl)
          have hY_14 := hY1.mono (pIx hI5 (by decide)) (fun _ _ => rfl)
          have hP_15 := hP1.mono (pIx hI5 (by decide)) (fun _ _ => rfl)
          have hEI16 := hEI1.put hI5 (by decide)
          show pl _ _ _ (355, [(0, .ref m0), (4, .int (nI (by2 f (hA + 6)))), (5, .int (nI i))], [], M1) _
          refine ps_st (S' := (356, [(0, .ref m0), (4, .int (nI (by2 f (hA + 6)))), (5, .int (nI i))], [.int 1], M1)) rfl rfl rfl ?_
          exact ps_ret rfl rfl (Or.inl ⟨I2, R1, by
              unfold ccS
              rw [hh]
              dsimp only
              rw [← hs, show by2 f (hA + 6) - i = 0 by omega]
              rfl, rfl, hR3, hEI16, hER1, hi12, hi4⟩)
        · have c_246 : ¬ ((nI (by2 f (hA + 6))) ≤ (nI i)) := of_decide_eq_false c_246
          have n_246 : ¬ (by2 f (hA + 6) ≤ i) := fun h9 => c_246 ((le_nI (p := by2 f (hA + 6)) (n := i) (Nat.lt_trans (by2_lt _ _) (by decide)) (by omega)).mpr h9)
          refine ps_st (S' := (250, [(0, .ref m0), (4, .int (nI (by2 f (hA + 6)))), (5, .int (nI i))], [.ref m0], M1)) rfl rfl rfl ?_
          refine pr_int (j := 54) (S' := (253, [(0, .ref m0), (4, .int (nI (by2 f (hA + 6)))), (5, .int (nI i))], [.int (nI hA)], M1)) rfl hR1 rfl hl54 rfl ?_
          refine ps_st (S' := (255, [(0, .ref m0), (4, .int (nI (by2 f (hA + 6)))), (5, .int (nI i))], [.int 8, .int (nI hA)], M1)) rfl rfl rfl ?_
          refine ps_st (S' := (256, [(0, .ref m0), (4, .int (nI (by2 f (hA + 6)))), (5, .int (nI i))], [.int ((nI hA) + 8)], M1)) rfl rfl rfl ?_
          rw [nI_add1 (p := hA) (k := 8) (x := 8) rfl (by omega)]
          show pl _ _ _ (_, [(0, .ref m0), (4, .int (nI (by2 f (hA + 6)))), (5, .int (nI i))], [.int (nI (hA + 8))], M1) _
          refine ps_st (S' := (257, [(0, .ref m0), (4, .int (nI (by2 f (hA + 6)))), (5, .int (nI i))], [.int 2, .int (nI (hA + 8))], M1)) rfl rfl rfl ?_
          refine ps_st (S' := (259, [(0, .ref m0), (4, .int (nI (by2 f (hA + 6)))), (5, .int (nI i))], [.int (nI i), .int 2, .int (nI (hA + 8))], M1)) rfl rfl rfl ?_
          refine ps_st (S' := (260, [(0, .ref m0), (4, .int (nI (by2 f (hA + 6)))), (5, .int (nI i))], [.int (2 * (nI i)), .int (nI (hA + 8))], M1)) rfl rfl rfl ?_
          rw [nI_mul1 (p := 2) (k := i) (x := 2) (y := (nI i)) rfl rfl (by omega)]
          show pl _ _ _ (_, [(0, .ref m0), (4, .int (nI (by2 f (hA + 6)))), (5, .int (nI i))], [.int (nI (2 * i)), .int (nI (hA + 8))], M1) _
          refine ps_st (S' := (261, [(0, .ref m0), (4, .int (nI (by2 f (hA + 6)))), (5, .int (nI i))], [.int ((nI (hA + 8)) + (nI (2 * i)))], M1)) rfl rfl rfl ?_
          rw [nI_add1 (p := hA + 8) (k := 2 * i) (x := (nI (2 * i))) rfl (by omega)]
          show pl _ _ _ (_, [(0, .ref m0), (4, .int (nI (by2 f (hA + 6)))), (5, .int (nI i))], [.int (nI (hA + 8 + 2 * i))], M1) _
          refine ps_st (S' := (263, [(6, .int (nI (hA + 8 + 2 * i))), (0, .ref m0), (4, .int (nI (by2 f (hA + 6)))), (5, .int (nI i))], [], M1)) rfl rfl rfl ?_
          refine ps_st (S' := (264, [(6, .int (nI (hA + 8 + 2 * i))), (0, .ref m0), (4, .int (nI (by2 f (hA + 6)))), (5, .int (nI i))], [.ref m0], M1)) rfl rfl rfl ?_
          refine ps_st (S' := (265, [(6, .int (nI (hA + 8 + 2 * i))), (0, .ref m0), (4, .int (nI (by2 f (hA + 6)))), (5, .int (nI i))], [.ref m0, .ref m0], M1)) rfl rfl rfl ?_
          refine ps_st (S' := (267, [(6, .int (nI (hA + 8 + 2 * i))), (0, .ref m0), (4, .int (nI (by2 f (hA + 6)))), (5, .int (nI i))], [.int (nI (hA + 8 + 2 * i)), .ref m0, .ref m0], M1)) rfl rfl rfl ?_
          refine pl_call (a := [.ref m0, .int (nI (hA + 8 + 2 * i))]) (rest := [.ref m0]) rfl rfl rfl (rd_u2 (n := n) (f := f) (p := (hA + 8 + 2 * i)) hR1 hF1 (by omega)) (fun v17 M18 q19 => ?_)
          obtain ⟨rfl, rfl⟩ := q19
          show pl _ _ _ (270, [(6, .int (nI (hA + 8 + 2 * i))), (0, .ref m0), (4, .int (nI (by2 f (hA + 6)))), (5, .int (nI i))], [.int (nI (by2 f (hA + 8 + 2 * i))), .ref m0], M1) _
          have hu_267 := by2_lt f (hA + 8 + 2 * i)
          refine pl_call (a := [.ref m0, .int (nI (by2 f (hA + 8 + 2 * i)))]) (rest := []) rfl rfl rfl (rd_plainClass (n := n) (f := f) (tx := tx) (cN := cN) (A := A) (N := N) (mj := mj) (E := E) (k := (by2 f (hA + 8 + 2 * i))) hR1 hl51 hl52 hl53 hF1 hY1 hP1 (hEP) (hN) (hmj) (by2_lt _ _) (hCP)) (fun v20 M21 q22 => ?_)
          obtain ⟨rfl, rfl⟩ := q22
          show pl _ _ _ (273, [(6, .int (nI (hA + 8 + 2 * i))), (0, .ref m0), (4, .int (nI (by2 f (hA + 6)))), (5, .int (nI i))], [.int (nI (plnN f n E (by2 f (hA + 8 + 2 * i))))], M1) _
          refine ps_if (S1 := (285, [(6, .int (nI (hA + 8 + 2 * i))), (0, .ref m0), (4, .int (nI (by2 f (hA + 6)))), (5, .int (nI i))], [], M1)) (S2 := (276, [(6, .int (nI (hA + 8 + 2 * i))), (0, .ref m0), (4, .int (nI (by2 f (hA + 6)))), (5, .int (nI i))], [], M1)) rfl rfl rfl (fun c_273 => ?_) (fun c_273 => ?_)
          · have c_273 : ¬ (nI (plnN f n E (by2 f (hA + 8 + 2 * i)))) = 0 := of_decide_eq_true c_273
            have n_273 : ¬ (plnN f n E (by2 f (hA + 8 + 2 * i)) = 0) := fun h9 => c_273 ((eq_nI (p := plnN f n E (by2 f (hA + 8 + 2 * i))) (n := 0) (Nat.lt_trans (le1_pln _ _ _ _) (by decide)) (by decide)).mpr h9)
            refine ps_st (S' := (286, [(6, .int (nI (hA + 8 + 2 * i))), (0, .ref m0), (4, .int (nI (by2 f (hA + 6)))), (5, .int (nI i))], [.int 0], M1)) rfl rfl rfl ?_
            refine ps_st (S' := (288, [(0, .ref m0), (4, .int (nI (by2 f (hA + 6)))), (5, .int (nI i)), (6, .int (nI (hA + 8 + 2 * i))), (7, .int 0)], [], M1)) rfl rfl rfl ?_
            exact ih.2 (i) (0) M1 I1 R1 hR1 hEI1 hER1 hl54 hl11 hl51 hl52 hl53 hl58 hF1 hY1 hP1 (hh) (by omega) (by omega) (hs) (by omega) (hq) (rfl)
          · have c_273 : ¬ (¬ (nI (plnN f n E (by2 f (hA + 8 + 2 * i)))) = 0) := of_decide_eq_false c_273
            have n_273 : plnN f n E (by2 f (hA + 8 + 2 * i)) = 0 := (eq_nI (p := plnN f n E (by2 f (hA + 8 + 2 * i))) (n := 0) (Nat.lt_trans (le1_pln _ _ _ _) (by decide)) (by decide)).mp (Decidable.not_not.mp c_273)
            refine ps_st (S' := (277, [(6, .int (nI (hA + 8 + 2 * i))), (0, .ref m0), (4, .int (nI (by2 f (hA + 6)))), (5, .int (nI i))], [.ref m0], M1)) rfl rfl rfl ?_
            refine ps_st (S' := (279, [(6, .int (nI (hA + 8 + 2 * i))), (0, .ref m0), (4, .int (nI (by2 f (hA + 6)))), (5, .int (nI i))], [.int 18, .ref m0], M1)) rfl rfl rfl ?_
            refine ps_st (S' := (281, [(6, .int (nI (hA + 8 + 2 * i))), (0, .ref m0), (4, .int (nI (by2 f (hA + 6)))), (5, .int (nI i))], [.int (nI (hA + 8 + 2 * i)), .int 18, .ref m0], M1)) rfl rfl rfl ?_
            refine pl_call (a := [.ref m0, .int 18, .int (nI (hA + 8 + 2 * i))]) (rest := []) rfl rfl rfl (rd_wrong (x1 := 18) (x2 := (nI (hA + 8 + 2 * i))) hR1) (fun v23 M24 q25 => ?_)
            obtain ⟨I26, R27, rfl, hR28, hI29, hX30, hi31, hi32⟩ := q25
            have hi33 := (hI29 54 (by decide)).trans hl54
            have hi34 := (hI29 11 (by decide)).trans hl11
            have hi35 := (hI29 51 (by decide)).trans hl51
            have hi36 := (hI29 52 (by decide)).trans hl52
            have hi37 := (hI29 53 (by decide)).trans hl53
            have hi38 := (hI29 58 (by decide)).trans hl58
            have hF_39 := hF1.mono (cIx hI29 (by decide)) (cRx hX30 (by decide))
            have hY_40 := hY1.mono (cIx hI29 (by decide)) (cRx hX30 (by decide))
            have hP_41 := hP1.mono (cIx hI29 (by decide)) (cRx hX30 (by decide))
            have hEI42 := hEI1.tr hI29 (by decide)
            have hER43 := hER1.tr hX30 (by decide)
            show pl _ _ _ (284, [(6, .int (nI (hA + 8 + 2 * i))), (0, .ref m0), (4, .int (nI (by2 f (hA + 6)))), (5, .int (nI i))], [.int 0], M24) _
            exact ps_ret rfl rfl (Or.inr ⟨(18, hA + 8 + 2 * i), I26, R27, by
                unfold ccS
                rw [hh]
                dsimp only
                rw [← hs, ifS_st (i := i) (by omega), if_pos (by omega)], rfl, hR28, hEI42, hER43, hi31, hi32⟩)
      · skip
        intro i j M1 I1 R1 hR1 hEI1 hER1 hl54 hl11 hl51 hl52 hl53 hl58 hF1 hY1 hP1 hh hi hj hs hp hq hd
        have hn := hF1.1
        have hu9 := by2_lt f (hA + 6)
        have htl := hY1.1.2.2.1
        refine ps_st1 (S' := (290, [(0, .ref m0), (4, .int (nI (by2 f (hA + 6)))), (5, .int (nI i)), (6, .int (nI (hA + 8 + 2 * i))), (7, .int (nI j))], [.int (nI j)], M1)) rfl rfl rfl ?_
        refine ps_st (S' := (292, [(0, .ref m0), (4, .int (nI (by2 f (hA + 6)))), (5, .int (nI i)), (6, .int (nI (hA + 8 + 2 * i))), (7, .int (nI j))], [.int (nI i), .int (nI j)], M1)) rfl rfl rfl ?_
        refine ps_if2 (S1 := (343, [(0, .ref m0), (4, .int (nI (by2 f (hA + 6)))), (5, .int (nI i)), (6, .int (nI (hA + 8 + 2 * i))), (7, .int (nI j))], [], M1)) (S2 := (295, [(0, .ref m0), (4, .int (nI (by2 f (hA + 6)))), (5, .int (nI i)), (6, .int (nI (hA + 8 + 2 * i))), (7, .int (nI j))], [], M1)) rfl rfl rfl (fun c_292 => ?_) (fun c_292 => ?_)
        · have c_292 : (nI i) ≤ (nI j) := of_decide_eq_true c_292
          have n_292 : i ≤ j := (le_nI (p := i) (n := j) (by omega) (by omega)).mp c_292
          refine ps_st (S' := (346, [(5, .int ((nI i) + 1)), (0, .ref m0), (4, .int (nI (by2 f (hA + 6)))), (6, .int (nI (hA + 8 + 2 * i))), (7, .int (nI j))], [], M1)) rfl rfl rfl ?_
          rw [nI_add1 (p := i) (k := 1) (x := 1) rfl (by omega)]
          show pl _ _ _ (_, [(5, .int (nI (i + 1))), (0, .ref m0), (4, .int (nI (by2 f (hA + 6)))), (6, .int (nI (hA + 8 + 2 * i))), (7, .int (nI j))], [], M1) _
          refine ps_st (S' := (242, [(0, .ref m0), (4, .int (nI (by2 f (hA + 6)))), (5, .int (nI (i + 1)))], [], M1)) rfl rfl rfl ?_
          exact ih.1 (i + 1) M1 I1 R1 hR1 hEI1 hER1 hl54 hl11 hl51 hl52 hl53 hl58 hF1 hY1 hP1 (hh) (by omega) (by
              rw [← hs, ifS_st (i := i) (by omega), if_neg (by omega), if_neg (by rw [← hd, show i - j = 0 by omega]; exact fun h => h rfl)]) (by
              intro j9 h9
              by_cases e9 : j9 = i
              · rw [e9]; exact hp
              · exact hq j9 (by omega))
        · have c_292 : ¬ ((nI i) ≤ (nI j)) := of_decide_eq_false c_292
          have n_292 : ¬ (i ≤ j) := fun h9 => c_292 ((le_nI (p := i) (n := j) (by omega) (by omega)).mpr h9)
          have hplj := pln_in (hq j (by omega))
          have hcpj := hCP _ hplj.1
          have hpli := pln_in hp
          have hcpi := hCP _ hpli.1
          refine ps_st (S' := (296, [(0, .ref m0), (4, .int (nI (by2 f (hA + 6)))), (5, .int (nI i)), (6, .int (nI (hA + 8 + 2 * i))), (7, .int (nI j))], [.ref m0], M1)) rfl rfl rfl ?_
          refine ps_st (S' := (297, [(0, .ref m0), (4, .int (nI (by2 f (hA + 6)))), (5, .int (nI i)), (6, .int (nI (hA + 8 + 2 * i))), (7, .int (nI j))], [.ref m0, .ref m0], M1)) rfl rfl rfl ?_
          refine ps_st (S' := (298, [(0, .ref m0), (4, .int (nI (by2 f (hA + 6)))), (5, .int (nI i)), (6, .int (nI (hA + 8 + 2 * i))), (7, .int (nI j))], [.ref m0, .ref m0, .ref m0], M1)) rfl rfl rfl ?_
          refine pr_int (j := 54) (S' := (301, [(0, .ref m0), (4, .int (nI (by2 f (hA + 6)))), (5, .int (nI i)), (6, .int (nI (hA + 8 + 2 * i))), (7, .int (nI j))], [.int (nI hA), .ref m0, .ref m0], M1)) rfl hR1 rfl hl54 rfl ?_
          refine ps_st (S' := (303, [(0, .ref m0), (4, .int (nI (by2 f (hA + 6)))), (5, .int (nI i)), (6, .int (nI (hA + 8 + 2 * i))), (7, .int (nI j))], [.int 8, .int (nI hA), .ref m0, .ref m0], M1)) rfl rfl rfl ?_
          refine ps_st (S' := (304, [(0, .ref m0), (4, .int (nI (by2 f (hA + 6)))), (5, .int (nI i)), (6, .int (nI (hA + 8 + 2 * i))), (7, .int (nI j))], [.int ((nI hA) + 8), .ref m0, .ref m0], M1)) rfl rfl rfl ?_
          rw [nI_add1 (p := hA) (k := 8) (x := 8) rfl (by omega)]
          show pl _ _ _ (_, [(0, .ref m0), (4, .int (nI (by2 f (hA + 6)))), (5, .int (nI i)), (6, .int (nI (hA + 8 + 2 * i))), (7, .int (nI j))], [.int (nI (hA + 8)), .ref m0, .ref m0], M1) _
          refine ps_st (S' := (305, [(0, .ref m0), (4, .int (nI (by2 f (hA + 6)))), (5, .int (nI i)), (6, .int (nI (hA + 8 + 2 * i))), (7, .int (nI j))], [.int 2, .int (nI (hA + 8)), .ref m0, .ref m0], M1)) rfl rfl rfl ?_
          refine ps_st (S' := (307, [(0, .ref m0), (4, .int (nI (by2 f (hA + 6)))), (5, .int (nI i)), (6, .int (nI (hA + 8 + 2 * i))), (7, .int (nI j))], [.int (nI j), .int 2, .int (nI (hA + 8)), .ref m0, .ref m0], M1)) rfl rfl rfl ?_
          refine ps_st (S' := (308, [(0, .ref m0), (4, .int (nI (by2 f (hA + 6)))), (5, .int (nI i)), (6, .int (nI (hA + 8 + 2 * i))), (7, .int (nI j))], [.int (2 * (nI j)), .int (nI (hA + 8)), .ref m0, .ref m0], M1)) rfl rfl rfl ?_
          rw [nI_mul1 (p := 2) (k := j) (x := 2) (y := (nI j)) rfl rfl (by omega)]
          show pl _ _ _ (_, [(0, .ref m0), (4, .int (nI (by2 f (hA + 6)))), (5, .int (nI i)), (6, .int (nI (hA + 8 + 2 * i))), (7, .int (nI j))], [.int (nI (2 * j)), .int (nI (hA + 8)), .ref m0, .ref m0], M1) _
          refine ps_st (S' := (309, [(0, .ref m0), (4, .int (nI (by2 f (hA + 6)))), (5, .int (nI i)), (6, .int (nI (hA + 8 + 2 * i))), (7, .int (nI j))], [.int ((nI (hA + 8)) + (nI (2 * j))), .ref m0, .ref m0], M1)) rfl rfl rfl ?_
          rw [nI_add1 (p := hA + 8) (k := 2 * j) (x := (nI (2 * j))) rfl (by omega)]
          show pl _ _ _ (_, [(0, .ref m0), (4, .int (nI (by2 f (hA + 6)))), (5, .int (nI i)), (6, .int (nI (hA + 8 + 2 * i))), (7, .int (nI j))], [.int (nI (hA + 8 + 2 * j)), .ref m0, .ref m0], M1) _
          refine pl_call (a := [.ref m0, .int (nI (hA + 8 + 2 * j))]) (rest := [.ref m0]) rfl rfl rfl (rd_u2 (n := n) (f := f) (p := (hA + 8 + 2 * j)) hR1 hF1 (by omega)) (fun v44 M45 q46 => ?_)
          obtain ⟨rfl, rfl⟩ := q46
          show pl _ _ _ (312, [(0, .ref m0), (4, .int (nI (by2 f (hA + 6)))), (5, .int (nI i)), (6, .int (nI (hA + 8 + 2 * i))), (7, .int (nI j))], [.int (nI (by2 f (hA + 8 + 2 * j))), .ref m0], M1) _
          have hu_309 := by2_lt f (hA + 8 + 2 * j)
          refine pl_call (a := [.ref m0, .int (nI (by2 f (hA + 8 + 2 * j)))]) (rest := []) rfl rfl rfl (rd_className (n := n) (f := f) (tx := tx) (cN := cN) (A := A) (N := N) (mj := mj) (E := E) (k := (by2 f (hA + 8 + 2 * j))) hR1 hl51 hl52 hl53 hF1 hY1 hP1 (hEP) (hN) (hmj) (by omega)) (fun v47 M48 q49 => ?_)
          obtain ⟨s50, q312_s, rfl, rfl⟩ := q49
          show pl _ _ _ (315, [(0, .ref m0), (4, .int (nI (by2 f (hA + 6)))), (5, .int (nI i)), (6, .int (nI (hA + 8 + 2 * i))), (7, .int (nI j))], [.int (nI s50)], M1) _
          have hsl_312 := q312_s.1
          have htl_312 := hY1.1.2.2.1
          refine ps_st (S' := (316, [(0, .ref m0), (4, .int (nI (by2 f (hA + 6)))), (5, .int (nI i)), (6, .int (nI (hA + 8 + 2 * i))), (7, .int (nI j))], [.ref m0, .int (nI s50)], M1)) rfl rfl rfl ?_
          refine ps_st (S' := (317, [(0, .ref m0), (4, .int (nI (by2 f (hA + 6)))), (5, .int (nI i)), (6, .int (nI (hA + 8 + 2 * i))), (7, .int (nI j))], [.ref m0, .ref m0, .int (nI s50)], M1)) rfl rfl rfl ?_
          refine ps_st (S' := (319, [(0, .ref m0), (4, .int (nI (by2 f (hA + 6)))), (5, .int (nI i)), (6, .int (nI (hA + 8 + 2 * i))), (7, .int (nI j))], [.int (nI (hA + 8 + 2 * i)), .ref m0, .ref m0, .int (nI s50)], M1)) rfl rfl rfl ?_
          refine pl_call (a := [.ref m0, .int (nI (hA + 8 + 2 * i))]) (rest := [.ref m0, .int (nI s50)]) rfl rfl rfl (rd_u2 (n := n) (f := f) (p := (hA + 8 + 2 * i)) hR1 hF1 (by omega)) (fun v51 M52 q53 => ?_)
          obtain ⟨rfl, rfl⟩ := q53
          show pl _ _ _ (322, [(0, .ref m0), (4, .int (nI (by2 f (hA + 6)))), (5, .int (nI i)), (6, .int (nI (hA + 8 + 2 * i))), (7, .int (nI j))], [.int (nI (by2 f (hA + 8 + 2 * i))), .ref m0, .int (nI s50)], M1) _
          have hu_319 := by2_lt f (hA + 8 + 2 * i)
          refine pl_call (a := [.ref m0, .int (nI (by2 f (hA + 8 + 2 * i)))]) (rest := [.int (nI s50)]) rfl rfl rfl (rd_className (n := n) (f := f) (tx := tx) (cN := cN) (A := A) (N := N) (mj := mj) (E := E) (k := (by2 f (hA + 8 + 2 * i))) hR1 hl51 hl52 hl53 hF1 hY1 hP1 (hEP) (hN) (hmj) (by omega)) (fun v54 M55 q56 => ?_)
          obtain ⟨s57, q322_s, rfl, rfl⟩ := q56
          show pl _ _ _ (325, [(0, .ref m0), (4, .int (nI (by2 f (hA + 6)))), (5, .int (nI i)), (6, .int (nI (hA + 8 + 2 * i))), (7, .int (nI j))], [.int (nI s57), .int (nI s50)], M1) _
          have hsl_322 := q322_s.1
          have htl_322 := hY1.1.2.2.1
          have hsm := sm_sym (k := fi f E (by2 f (hA + 8 + 2 * j))) (m := fi f E (by2 f (hA + 8 + 2 * i))) hY1 q312_s q322_s (by omega) (by omega)
          refine ps_if2 (S1 := (337, [(0, .ref m0), (4, .int (nI (by2 f (hA + 6)))), (5, .int (nI i)), (6, .int (nI (hA + 8 + 2 * i))), (7, .int (nI j))], [], M1)) (S2 := (328, [(0, .ref m0), (4, .int (nI (by2 f (hA + 6)))), (5, .int (nI i)), (6, .int (nI (hA + 8 + 2 * i))), (7, .int (nI j))], [], M1)) rfl rfl rfl (fun c_325 => ?_) (fun c_325 => ?_)
          · have c_325 : ¬ (nI s50) = (nI s57) := of_decide_eq_true c_325
            have n_325 : ¬ (s50 = s57) := fun h9 => c_325 ((eq_nI (p := s50) (n := s57) (by omega) (by omega)).mpr h9)
            refine ps_st (S' := (340, [(7, .int ((nI j) + 1)), (0, .ref m0), (4, .int (nI (by2 f (hA + 6)))), (5, .int (nI i)), (6, .int (nI (hA + 8 + 2 * i)))], [], M1)) rfl rfl rfl ?_
            rw [nI_add1 (p := j) (k := 1) (x := 1) rfl (by omega)]
            show pl _ _ _ (_, [(7, .int (nI (j + 1))), (0, .ref m0), (4, .int (nI (by2 f (hA + 6)))), (5, .int (nI i)), (6, .int (nI (hA + 8 + 2 * i)))], [], M1) _
            refine ps_st (S' := (288, [(0, .ref m0), (4, .int (nI (by2 f (hA + 6)))), (5, .int (nI i)), (6, .int (nI (hA + 8 + 2 * i))), (7, .int (nI (j + 1)))], [], M1)) rfl rfl rfl ?_
            exact ih.2 (i) (j + 1) M1 I1 R1 hR1 hEI1 hER1 hl54 hl11 hl51 hl52 hl53 hl58 hF1 hY1 hP1 (hh) (hi) (by omega) (hs) (hp) (hq) (by
                rw [← hd, dupN_st (j := j) (by omega), if_pos (by omega)])
          · have c_325 : ¬ (¬ (nI s50) = (nI s57)) := of_decide_eq_false c_325
            have n_325 : s50 = s57 := (eq_nI (p := s50) (n := s57) (by omega) (by omega)).mp (Decidable.not_not.mp c_325)
            refine ps_st (S' := (329, [(0, .ref m0), (4, .int (nI (by2 f (hA + 6)))), (5, .int (nI i)), (6, .int (nI (hA + 8 + 2 * i))), (7, .int (nI j))], [.ref m0], M1)) rfl rfl rfl ?_
            refine ps_st (S' := (331, [(0, .ref m0), (4, .int (nI (by2 f (hA + 6)))), (5, .int (nI i)), (6, .int (nI (hA + 8 + 2 * i))), (7, .int (nI j))], [.int 18, .ref m0], M1)) rfl rfl rfl ?_
            refine ps_st (S' := (333, [(0, .ref m0), (4, .int (nI (by2 f (hA + 6)))), (5, .int (nI i)), (6, .int (nI (hA + 8 + 2 * i))), (7, .int (nI j))], [.int (nI (hA + 8 + 2 * i)), .int 18, .ref m0], M1)) rfl rfl rfl ?_
            refine pl_call (a := [.ref m0, .int 18, .int (nI (hA + 8 + 2 * i))]) (rest := []) rfl rfl rfl (rd_wrong (x1 := 18) (x2 := (nI (hA + 8 + 2 * i))) hR1) (fun v58 M59 q60 => ?_)
            obtain ⟨I61, R62, rfl, hR63, hI64, hX65, hi66, hi67⟩ := q60
            have hi68 := (hI64 54 (by decide)).trans hl54
            have hi69 := (hI64 11 (by decide)).trans hl11
            have hi70 := (hI64 51 (by decide)).trans hl51
            have hi71 := (hI64 52 (by decide)).trans hl52
            have hi72 := (hI64 53 (by decide)).trans hl53
            have hi73 := (hI64 58 (by decide)).trans hl58
            have hF_74 := hF1.mono (cIx hI64 (by decide)) (cRx hX65 (by decide))
            have hY_75 := hY1.mono (cIx hI64 (by decide)) (cRx hX65 (by decide))
            have hP_76 := hP1.mono (cIx hI64 (by decide)) (cRx hX65 (by decide))
            have hEI77 := hEI1.tr hI64 (by decide)
            have hER78 := hER1.tr hX65 (by decide)
            show pl _ _ _ (336, [(0, .ref m0), (4, .int (nI (by2 f (hA + 6)))), (5, .int (nI i)), (6, .int (nI (hA + 8 + 2 * i))), (7, .int (nI j))], [.int 0], M59) _
            exact ps_ret rfl rfl (Or.inr ⟨(18, hA + 8 + 2 * i), I61, R62, by
                unfold ccS
                rw [hh]
                dsimp only
                rw [← hs, ifS_st (i := i) (by omega), if_neg (by omega), if_pos (by rw [← hd, dupN_st (j := j) (by omega), if_neg (by omega)]; decide)], rfl, hR63, hEI77, hER78, hi66, hi67⟩)
  refine ps_st (S' := (1, [(0, .ref m0)], [.ref m0], M)) rfl rfl rfl ?_
  refine ps_st (S' := (2, [(0, .ref m0)], [.ref m0, .ref m0], M)) rfl rfl rfl ?_
  refine pr_int (j := 54) (S' := (5, [(0, .ref m0)], [.int (nI hA), .ref m0], M)) rfl hR rfl hi54 rfl ?_
  refine pl_call (a := [.ref m0, .int (nI hA)]) (rest := []) rfl rfl rfl (rd_u2 (n := n) (f := f) (p := hA) hR hF (by omega)) (fun v79 M80 q81 => ?_)
  obtain ⟨rfl, rfl⟩ := q81
  show pl _ _ _ (8, [(0, .ref m0)], [.int (nI (by2 f hA))], M) _
  have hu_5 := by2_lt f hA
  refine ps_st (S' := (9, [(1, .int (nI (by2 f hA))), (0, .ref m0)], [], M)) rfl rfl rfl ?_
  refine ps_st (S' := (10, [(1, .int (nI (by2 f hA))), (0, .ref m0)], [.ref m0], M)) rfl rfl rfl ?_
  refine ps_st (S' := (11, [(1, .int (nI (by2 f hA))), (0, .ref m0)], [.int (nI (by2 f hA)), .ref m0], M)) rfl rfl rfl ?_
  refine pr_put (j := 58) rfl hR rfl (fun M82 I83 hR84 hi85 hI86 => ?_)
  have hi87 := (hI86 54 (by decide)).trans hi54
  have hi88 := (hI86 11 (by decide)).trans hi11
  have hi89 := (hI86 51 (by decide)).trans hi51
  have hi90 := (hI86 52 (by decide)).trans hi52
  have hi91 := (hI86 53 (by decide)).trans hi53
  have hF_92 := hF.mono (pIx hI86 (by decide)) (fun _ _ => rfl)
  have hY_93 := hY.mono (pIx hI86 (by decide)) (fun _ _ => rfl)
  have hP_94 := hP.mono (pIx hI86 (by decide)) (fun _ _ => rfl)
  have hEI95 := hEI.put hI86 (by decide)
  show pl _ _ _ (14, [(1, .int (nI (by2 f hA))), (0, .ref m0)], [], M82) _
  refine ps_st (S' := (15, [(1, .int (nI (by2 f hA))), (0, .ref m0)], [.int (nI (by2 f hA))], M82)) rfl rfl rfl ?_
  refine ps_st (S' := (18, [(1, .int (nI (by2 f hA))), (0, .ref m0)], [.int 512, .int (nI (by2 f hA))], M82)) rfl rfl rfl ?_
  refine ps_st (S' := (19, [(1, .int (nI (by2 f hA))), (0, .ref m0)], [.int ((nI (by2 f hA)) &&& 512)], M82)) rfl rfl rfl ?_
  rw [nI_an (p := by2 f hA) (k := 512) (x := 512) rfl]
  show pl _ _ _ (_, [(1, .int (nI (by2 f hA))), (0, .ref m0)], [.int (nI (aN (by2 f hA) 512))], M82) _
  refine ps_if (S1 := (26, [(1, .int (nI (by2 f hA))), (0, .ref m0)], [], M82)) (S2 := (22, [(1, .int (nI (by2 f hA))), (0, .ref m0)], [], M82)) rfl rfl rfl (fun c_19 => ?_) (fun c_19 => ?_)
  · have c_19 : (nI (aN (by2 f hA) 512)) = 0 := of_decide_eq_true c_19
    have n_19 : aN (by2 f hA) 512 = 0 := (eq_nI (p := aN (by2 f hA) 512) (n := 0) (Nat.lt_of_le_of_lt (an_le _ _) (by decide)) (by decide)).mp c_19
    refine ps_st (S' := (27, [(0, .ref m0), (1, .int (nI (by2 f hA)))], [.int 0], M82)) rfl rfl rfl ?_
    refine ps_st (S' := (28, [(2, .int 0), (0, .ref m0), (1, .int (nI (by2 f hA)))], [], M82)) rfl rfl rfl ?_
    refine ps_st (S' := (29, [(2, .int 0), (0, .ref m0), (1, .int (nI (by2 f hA)))], [.int (nI (by2 f hA))], M82)) rfl rfl rfl ?_
    refine ps_st (S' := (32, [(2, .int 0), (0, .ref m0), (1, .int (nI (by2 f hA)))], [.int 32768, .int (nI (by2 f hA))], M82)) rfl rfl rfl ?_
    refine ps_st (S' := (33, [(2, .int 0), (0, .ref m0), (1, .int (nI (by2 f hA)))], [.int ((nI (by2 f hA)) &&& 32768)], M82)) rfl rfl rfl ?_
    rw [nI_an (p := by2 f hA) (k := 32768) (x := 32768) rfl]
    show pl _ _ _ (_, [(2, .int 0), (0, .ref m0), (1, .int (nI (by2 f hA)))], [.int (nI (aN (by2 f hA) 32768))], M82) _
    refine ps_if (S1 := (82, [(0, .ref m0), (1, .int (nI (by2 f hA))), (2, .int 0)], [], M82)) (S2 := (36, [(2, .int 0), (0, .ref m0), (1, .int (nI (by2 f hA)))], [], M82)) rfl rfl rfl (fun c_33 => ?_) (fun c_33 => ?_)
    · have c_33 : ¬ (nI (aN (by2 f hA) 32768)) = 0 := of_decide_eq_true c_33
      have n_33 : ¬ (aN (by2 f hA) 32768 = 0) := fun h9 => c_33 ((eq_nI (p := aN (by2 f hA) 32768) (n := 0) (Nat.lt_of_le_of_lt (an_le _ _) (by decide)) (by decide)).mpr h9)
      refine ps_st (S' := (83, [(0, .ref m0), (1, .int (nI (by2 f hA))), (2, .int 0)], [.int 0], M82)) rfl rfl rfl ?_
      refine ps_if (S1 := (110, [(0, .ref m0)], [], M82)) (S2 := (86, [(0, .ref m0), (1, .int (nI (by2 f hA))), (2, .int 0)], [], M82)) rfl rfl rfl (fun c_83 => ?_) (fun c_83 => ?_)
      rotate_left
      · exact absurd (by decide) (of_decide_eq_false c_83)
      refine ps_st (S' := (111, [(0, .ref m0)], [.ref m0], M82)) rfl rfl rfl ?_
      refine ps_st (S' := (113, [(0, .ref m0)], [.int 15, .ref m0], M82)) rfl rfl rfl ?_
      refine ps_st (S' := (114, [(0, .ref m0)], [.ref m0, .int 15, .ref m0], M82)) rfl rfl rfl ?_
      refine pr_int (j := 54) (S' := (117, [(0, .ref m0)], [.int (nI hA), .int 15, .ref m0], M82)) rfl hR84 rfl hi87 rfl ?_
      refine pl_call (a := [.ref m0, .int 15, .int (nI hA)]) (rest := []) rfl rfl rfl (rd_wrong (x1 := 15) (x2 := (nI hA)) hR84) (fun v96 M97 q98 => ?_)
      obtain ⟨I99, R100, rfl, hR101, hI102, hX103, hi104, hi105⟩ := q98
      have hi106 := (hI102 54 (by decide)).trans hi87
      have hi107 := (hI102 11 (by decide)).trans hi88
      have hi108 := (hI102 51 (by decide)).trans hi89
      have hi109 := (hI102 52 (by decide)).trans hi90
      have hi110 := (hI102 53 (by decide)).trans hi91
      have hi111 := (hI102 58 (by decide)).trans hi85
      have hF_112 := hF_92.mono (cIx hI102 (by decide)) (cRx hX103 (by decide))
      have hY_113 := hY_93.mono (cIx hI102 (by decide)) (cRx hX103 (by decide))
      have hP_114 := hP_94.mono (cIx hI102 (by decide)) (cRx hX103 (by decide))
      have hEI115 := hEI95.tr hI102 (by decide)
      have hER116 := hER.tr hX103 (by decide)
      show pl _ _ _ (120, [(0, .ref m0)], [.int 0], M97) _
      exact ps_ret rfl rfl (Or.inr ⟨(15, hA), I99, R100, by
          have ec := cfl_0 (by2 f hA)
          have eh := has_0 (by2 f hA) 512
          unfold ccS
          rw [show hdS f n E hA = some (15, hA) by unfold hdS; first | ((repeat first | rw [if_pos (by omega)] | rw [if_neg (by omega)]) <;> first | rfl | omega) | ((repeat' split) <;> first | rfl | (exfalso; omega) | omega)], rfl, hR101, hEI115, hER116, hi104, hi105⟩)
    · have c_33 : ¬ (¬ (nI (aN (by2 f hA) 32768)) = 0) := of_decide_eq_false c_33
      have n_33 : aN (by2 f hA) 32768 = 0 := (eq_nI (p := aN (by2 f hA) 32768) (n := 0) (Nat.lt_of_le_of_lt (an_le _ _) (by decide)) (by decide)).mp (Decidable.not_not.mp c_33)
      refine ps_st (S' := (37, [(2, .int 0), (0, .ref m0), (1, .int (nI (by2 f hA)))], [.int 0], M82)) rfl rfl rfl ?_
      refine ps_if (S1 := (59, [(2, .int 0), (0, .ref m0), (1, .int (nI (by2 f hA)))], [], M82)) (S2 := (40, [(2, .int 0), (0, .ref m0), (1, .int (nI (by2 f hA)))], [], M82)) rfl rfl rfl (fun c_37 => ?_) (fun c_37 => ?_)
      rotate_left
      · exact absurd (by decide) (of_decide_eq_false c_37)
      refine ps_st (S' := (60, [(2, .int 0), (0, .ref m0), (1, .int (nI (by2 f hA)))], [.int (nI (by2 f hA))], M82)) rfl rfl rfl ?_
      refine ps_st (S' := (63, [(2, .int 0), (0, .ref m0), (1, .int (nI (by2 f hA)))], [.int 8192, .int (nI (by2 f hA))], M82)) rfl rfl rfl ?_
      refine ps_st (S' := (64, [(2, .int 0), (0, .ref m0), (1, .int (nI (by2 f hA)))], [.int ((nI (by2 f hA)) &&& 8192)], M82)) rfl rfl rfl ?_
      rw [nI_an (p := by2 f hA) (k := 8192) (x := 8192) rfl]
      show pl _ _ _ (_, [(2, .int 0), (0, .ref m0), (1, .int (nI (by2 f hA)))], [.int (nI (aN (by2 f hA) 8192))], M82) _
      refine ps_if (S1 := (82, [(0, .ref m0), (1, .int (nI (by2 f hA))), (2, .int 0)], [], M82)) (S2 := (67, [(2, .int 0), (0, .ref m0), (1, .int (nI (by2 f hA)))], [], M82)) rfl rfl rfl (fun c_64 => ?_) (fun c_64 => ?_)
      · have c_64 : ¬ (nI (aN (by2 f hA) 8192)) = 0 := of_decide_eq_true c_64
        have n_64 : ¬ (aN (by2 f hA) 8192 = 0) := fun h9 => c_64 ((eq_nI (p := aN (by2 f hA) 8192) (n := 0) (Nat.lt_of_le_of_lt (an_le _ _) (by decide)) (by decide)).mpr h9)
        refine ps_st (S' := (83, [(0, .ref m0), (1, .int (nI (by2 f hA))), (2, .int 0)], [.int 0], M82)) rfl rfl rfl ?_
        refine ps_if (S1 := (110, [(0, .ref m0)], [], M82)) (S2 := (86, [(0, .ref m0), (1, .int (nI (by2 f hA))), (2, .int 0)], [], M82)) rfl rfl rfl (fun c_83 => ?_) (fun c_83 => ?_)
        rotate_left
        · exact absurd (by decide) (of_decide_eq_false c_83)
        refine ps_st (S' := (111, [(0, .ref m0)], [.ref m0], M82)) rfl rfl rfl ?_
        refine ps_st (S' := (113, [(0, .ref m0)], [.int 15, .ref m0], M82)) rfl rfl rfl ?_
        refine ps_st (S' := (114, [(0, .ref m0)], [.ref m0, .int 15, .ref m0], M82)) rfl rfl rfl ?_
        refine pr_int (j := 54) (S' := (117, [(0, .ref m0)], [.int (nI hA), .int 15, .ref m0], M82)) rfl hR84 rfl hi87 rfl ?_
        refine pl_call (a := [.ref m0, .int 15, .int (nI hA)]) (rest := []) rfl rfl rfl (rd_wrong (x1 := 15) (x2 := (nI hA)) hR84) (fun v117 M118 q119 => ?_)
        obtain ⟨I120, R121, rfl, hR122, hI123, hX124, hi125, hi126⟩ := q119
        have hi127 := (hI123 54 (by decide)).trans hi87
        have hi128 := (hI123 11 (by decide)).trans hi88
        have hi129 := (hI123 51 (by decide)).trans hi89
        have hi130 := (hI123 52 (by decide)).trans hi90
        have hi131 := (hI123 53 (by decide)).trans hi91
        have hi132 := (hI123 58 (by decide)).trans hi85
        have hF_133 := hF_92.mono (cIx hI123 (by decide)) (cRx hX124 (by decide))
        have hY_134 := hY_93.mono (cIx hI123 (by decide)) (cRx hX124 (by decide))
        have hP_135 := hP_94.mono (cIx hI123 (by decide)) (cRx hX124 (by decide))
        have hEI136 := hEI95.tr hI123 (by decide)
        have hER137 := hER.tr hX124 (by decide)
        show pl _ _ _ (120, [(0, .ref m0)], [.int 0], M118) _
        exact ps_ret rfl rfl (Or.inr ⟨(15, hA), I120, R121, by
            have ec := cfl_0 (by2 f hA)
            have eh := has_0 (by2 f hA) 512
            unfold ccS
            rw [show hdS f n E hA = some (15, hA) by unfold hdS; first | ((repeat first | rw [if_pos (by omega)] | rw [if_neg (by omega)]) <;> first | rfl | omega) | ((repeat' split) <;> first | rfl | (exfalso; omega) | omega)], rfl, hR122, hEI136, hER137, hi125, hi126⟩)
      · have c_64 : ¬ (¬ (nI (aN (by2 f hA) 8192)) = 0) := of_decide_eq_false c_64
        have n_64 : aN (by2 f hA) 8192 = 0 := (eq_nI (p := aN (by2 f hA) 8192) (n := 0) (Nat.lt_of_le_of_lt (an_le _ _) (by decide)) (by decide)).mp (Decidable.not_not.mp c_64)
        refine ps_st (S' := (68, [(2, .int 0), (0, .ref m0), (1, .int (nI (by2 f hA)))], [.int (nI (by2 f hA))], M82)) rfl rfl rfl ?_
        refine ps_st (S' := (70, [(2, .int 0), (0, .ref m0), (1, .int (nI (by2 f hA)))], [.int 16, .int (nI (by2 f hA))], M82)) rfl rfl rfl ?_
        refine ps_st (S' := (71, [(2, .int 0), (0, .ref m0), (1, .int (nI (by2 f hA)))], [.int ((nI (by2 f hA)) &&& 16)], M82)) rfl rfl rfl ?_
        rw [nI_an (p := by2 f hA) (k := 16) (x := 16) rfl]
        show pl _ _ _ (_, [(2, .int 0), (0, .ref m0), (1, .int (nI (by2 f hA)))], [.int (nI (aN (by2 f hA) 16))], M82) _
        refine ps_if (S1 := (121, [(0, .ref m0), (2, .int 0)], [], M82)) (S2 := (74, [(2, .int 0), (0, .ref m0), (1, .int (nI (by2 f hA)))], [], M82)) rfl rfl rfl (fun c_71 => ?_) (fun c_71 => ?_)
        · have c_71 : (nI (aN (by2 f hA) 16)) = 0 := of_decide_eq_true c_71
          have n_71 : aN (by2 f hA) 16 = 0 := (eq_nI (p := aN (by2 f hA) 16) (n := 0) (Nat.lt_of_le_of_lt (an_le _ _) (by decide)) (by decide)).mp c_71
          refine ps_st (S' := (122, [(0, .ref m0), (2, .int 0)], [.ref m0], M82)) rfl rfl rfl ?_
          refine ps_st (S' := (123, [(0, .ref m0), (2, .int 0)], [.ref m0, .ref m0], M82)) rfl rfl rfl ?_
          refine ps_st (S' := (124, [(0, .ref m0), (2, .int 0)], [.ref m0, .ref m0, .ref m0], M82)) rfl rfl rfl ?_
          refine pr_int (j := 54) (S' := (127, [(0, .ref m0), (2, .int 0)], [.int (nI hA), .ref m0, .ref m0], M82)) rfl hR84 rfl hi87 rfl ?_
          refine ps_st (S' := (128, [(0, .ref m0), (2, .int 0)], [.int 2, .int (nI hA), .ref m0, .ref m0], M82)) rfl rfl rfl ?_
          refine ps_st (S' := (129, [(0, .ref m0), (2, .int 0)], [.int ((nI hA) + 2), .ref m0, .ref m0], M82)) rfl rfl rfl ?_
          rw [nI_add1 (p := hA) (k := 2) (x := 2) rfl (by omega)]
          show pl _ _ _ (_, [(0, .ref m0), (2, .int 0)], [.int (nI (hA + 2)), .ref m0, .ref m0], M82) _
          refine pl_call (a := [.ref m0, .int (nI (hA + 2))]) (rest := [.ref m0]) rfl rfl rfl (rd_u2 (n := n) (f := f) (p := (hA + 2)) hR84 hF_92 (by omega)) (fun v138 M139 q140 => ?_)
          obtain ⟨rfl, rfl⟩ := q140
          show pl _ _ _ (132, [(0, .ref m0), (2, .int 0)], [.int (nI (by2 f (hA + 2))), .ref m0], M82) _
          have hu_129 := by2_lt f (hA + 2)
          refine pl_call (a := [.ref m0, .int (nI (by2 f (hA + 2)))]) (rest := []) rfl rfl rfl (rd_plainClass (n := n) (f := f) (tx := tx) (cN := cN) (A := A) (N := N) (mj := mj) (E := E) (k := (by2 f (hA + 2))) hR84 hi89 hi90 hi91 hF_92 hY_93 hP_94 (hEP) (hN) (hmj) (by2_lt _ _) (hCP)) (fun v141 M142 q143 => ?_)
          obtain ⟨rfl, rfl⟩ := q143
          show pl _ _ _ (135, [(0, .ref m0), (2, .int 0)], [.int (nI (plnN f n E (by2 f (hA + 2))))], M82) _
          refine ps_if (S1 := (151, [(0, .ref m0), (2, .int 0)], [], M82)) (S2 := (138, [(0, .ref m0), (2, .int 0)], [], M82)) rfl rfl rfl (fun c_135 => ?_) (fun c_135 => ?_)
          · have c_135 : ¬ (nI (plnN f n E (by2 f (hA + 2)))) = 0 := of_decide_eq_true c_135
            have n_135 : ¬ (plnN f n E (by2 f (hA + 2)) = 0) := fun h9 => c_135 ((eq_nI (p := plnN f n E (by2 f (hA + 2))) (n := 0) (Nat.lt_trans (le1_pln _ _ _ _) (by decide)) (by decide)).mpr h9)
            have hpl2 := pln_in (f := f) (n := n) (E := E) (k := by2 f (hA + 2)) (by omega)
            have hcp2 := hCP (by2 f (hA + 2)) hpl2.1
            refine ps_st (S' := (152, [(0, .ref m0), (2, .int 0)], [.ref m0], M82)) rfl rfl rfl ?_
            refine ps_st (S' := (153, [(0, .ref m0), (2, .int 0)], [.ref m0, .ref m0], M82)) rfl rfl rfl ?_
            refine ps_st (S' := (154, [(0, .ref m0), (2, .int 0)], [.ref m0, .ref m0, .ref m0], M82)) rfl rfl rfl ?_
            refine ps_st (S' := (155, [(0, .ref m0), (2, .int 0)], [.ref m0, .ref m0, .ref m0, .ref m0], M82)) rfl rfl rfl ?_
            refine pr_int (j := 54) (S' := (158, [(0, .ref m0), (2, .int 0)], [.int (nI hA), .ref m0, .ref m0, .ref m0], M82)) rfl hR84 rfl hi87 rfl ?_
            refine ps_st (S' := (159, [(0, .ref m0), (2, .int 0)], [.int 2, .int (nI hA), .ref m0, .ref m0, .ref m0], M82)) rfl rfl rfl ?_
            refine ps_st (S' := (160, [(0, .ref m0), (2, .int 0)], [.int ((nI hA) + 2), .ref m0, .ref m0, .ref m0], M82)) rfl rfl rfl ?_
            rw [nI_add1 (p := hA) (k := 2) (x := 2) rfl (by omega)]
            show pl _ _ _ (_, [(0, .ref m0), (2, .int 0)], [.int (nI (hA + 2)), .ref m0, .ref m0, .ref m0], M82) _
            refine pl_call (a := [.ref m0, .int (nI (hA + 2))]) (rest := [.ref m0, .ref m0]) rfl rfl rfl (rd_u2 (n := n) (f := f) (p := (hA + 2)) hR84 hF_92 (by omega)) (fun v144 M145 q146 => ?_)
            obtain ⟨rfl, rfl⟩ := q146
            show pl _ _ _ (163, [(0, .ref m0), (2, .int 0)], [.int (nI (by2 f (hA + 2))), .ref m0, .ref m0], M82) _
            have hu_160 := by2_lt f (hA + 2)
            refine pl_call (a := [.ref m0, .int (nI (by2 f (hA + 2)))]) (rest := [.ref m0]) rfl rfl rfl (rd_className (n := n) (f := f) (tx := tx) (cN := cN) (A := A) (N := N) (mj := mj) (E := E) (k := (by2 f (hA + 2))) hR84 hi89 hi90 hi91 hF_92 hY_93 hP_94 (hEP) (hN) (hmj) (by omega)) (fun v147 M148 q149 => ?_)
            obtain ⟨s150, q163_s, rfl, rfl⟩ := q149
            show pl _ _ _ (166, [(0, .ref m0), (2, .int 0)], [.int (nI s150), .ref m0], M82) _
            have hsl_163 := q163_s.1
            have htl_163 := hY_93.1.2.2.1
            refine pr_put (j := 59) rfl hR84 rfl (fun M151 I152 hR153 hi154 hI155 => ?_)
            have hi156 := (hI155 54 (by decide)).trans hi87
            have hi157 := (hI155 11 (by decide)).trans hi88
            have hi158 := (hI155 51 (by decide)).trans hi89
            have hi159 := (hI155 52 (by decide)).trans hi90
            have hi160 := (hI155 53 (by decide)).trans hi91
            have hi161 := (hI155 58 (by decide)).trans hi85
            have hF_162 := hF_92.mono (pIx hI155 (by decide)) (fun _ _ => rfl)
            have hY_163 := hY_93.mono (pIx hI155 (by decide)) (fun _ _ => rfl)
            have hP_164 := hP_94.mono (pIx hI155 (by decide)) (fun _ _ => rfl)
            have hEI165 := hEI95.put hI155 (by decide)
            show pl _ _ _ (169, [(0, .ref m0), (2, .int 0)], [], M151) _
            refine ps_st (S' := (170, [(0, .ref m0), (2, .int 0)], [.ref m0], M151)) rfl rfl rfl ?_
            refine ps_st (S' := (171, [(0, .ref m0), (2, .int 0)], [.ref m0, .ref m0], M151)) rfl rfl rfl ?_
            refine pr_int (j := 54) (S' := (174, [(0, .ref m0), (2, .int 0)], [.int (nI hA), .ref m0], M151)) rfl hR153 rfl hi156 rfl ?_
            refine ps_st (S' := (175, [(0, .ref m0), (2, .int 0)], [.int 4, .int (nI hA), .ref m0], M151)) rfl rfl rfl ?_
            refine ps_st (S' := (176, [(0, .ref m0), (2, .int 0)], [.int ((nI hA) + 4), .ref m0], M151)) rfl rfl rfl ?_
            rw [nI_add1 (p := hA) (k := 4) (x := 4) rfl (by omega)]
            show pl _ _ _ (_, [(0, .ref m0), (2, .int 0)], [.int (nI (hA + 4)), .ref m0], M151) _
            refine pl_call (a := [.ref m0, .int (nI (hA + 4))]) (rest := []) rfl rfl rfl (rd_u2 (n := n) (f := f) (p := (hA + 4)) hR153 hF_162 (by omega)) (fun v166 M167 q168 => ?_)
            obtain ⟨rfl, rfl⟩ := q168
            show pl _ _ _ (179, [(0, .ref m0), (2, .int 0)], [.int (nI (by2 f (hA + 4)))], M151) _
            have hu_176 := by2_lt f (hA + 4)
            refine ps_st (S' := (180, [(3, .int (nI (by2 f (hA + 4)))), (0, .ref m0), (2, .int 0)], [], M151)) rfl rfl rfl ?_
            refine ps_st (S' := (181, [(3, .int (nI (by2 f (hA + 4)))), (0, .ref m0), (2, .int 0)], [.ref m0], M151)) rfl rfl rfl ?_
            refine ps_st (S' := (182, [(3, .int (nI (by2 f (hA + 4)))), (0, .ref m0), (2, .int 0)], [.int (nI (by2 f (hA + 4))), .ref m0], M151)) rfl rfl rfl ?_
            refine pl_call (a := [.ref m0, .int (nI (by2 f (hA + 4)))]) (rest := []) rfl rfl rfl (rd_plainClass (n := n) (f := f) (tx := tx) (cN := cN) (A := A) (N := N) (mj := mj) (E := E) (k := (by2 f (hA + 4))) hR153 hi158 hi159 hi160 hF_162 hY_163 hP_164 (hEP) (hN) (hmj) (by2_lt _ _) (hCP)) (fun v169 M170 q171 => ?_)
            obtain ⟨rfl, rfl⟩ := q171
            show pl _ _ _ (185, [(3, .int (nI (by2 f (hA + 4)))), (0, .ref m0), (2, .int 0)], [.int (nI (plnN f n E (by2 f (hA + 4))))], M151) _
            refine ps_if (S1 := (204, [(0, .ref m0)], [], M151)) (S2 := (188, [(3, .int (nI (by2 f (hA + 4)))), (0, .ref m0), (2, .int 0)], [], M151)) rfl rfl rfl (fun c_185 => ?_) (fun c_185 => ?_)
            · have c_185 : (nI (plnN f n E (by2 f (hA + 4)))) = 0 := of_decide_eq_true c_185
              have n_185 : plnN f n E (by2 f (hA + 4)) = 0 := (eq_nI (p := plnN f n E (by2 f (hA + 4))) (n := 0) (Nat.lt_trans (le1_pln _ _ _ _) (by decide)) (by decide)).mp c_185
              refine ps_st (S' := (205, [(0, .ref m0)], [.ref m0], M151)) rfl rfl rfl ?_
              refine ps_st (S' := (207, [(0, .ref m0)], [.int 17, .ref m0], M151)) rfl rfl rfl ?_
              refine ps_st (S' := (208, [(0, .ref m0)], [.ref m0, .int 17, .ref m0], M151)) rfl rfl rfl ?_
              refine pr_int (j := 54) (S' := (211, [(0, .ref m0)], [.int (nI hA), .int 17, .ref m0], M151)) rfl hR153 rfl hi156 rfl ?_
              refine ps_st (S' := (212, [(0, .ref m0)], [.int 4, .int (nI hA), .int 17, .ref m0], M151)) rfl rfl rfl ?_
              refine ps_st (S' := (213, [(0, .ref m0)], [.int ((nI hA) + 4), .int 17, .ref m0], M151)) rfl rfl rfl ?_
              rw [nI_add1 (p := hA) (k := 4) (x := 4) rfl (by omega)]
              show pl _ _ _ (_, [(0, .ref m0)], [.int (nI (hA + 4)), .int 17, .ref m0], M151) _
              refine pl_call (a := [.ref m0, .int 17, .int (nI (hA + 4))]) (rest := []) rfl rfl rfl (rd_wrong (x1 := 17) (x2 := (nI (hA + 4))) hR153) (fun v172 M173 q174 => ?_)
              obtain ⟨I175, R176, rfl, hR177, hI178, hX179, hi180, hi181⟩ := q174
              have hi182 := (hI178 54 (by decide)).trans hi156
              have hi183 := (hI178 11 (by decide)).trans hi157
              have hi184 := (hI178 51 (by decide)).trans hi158
              have hi185 := (hI178 52 (by decide)).trans hi159
              have hi186 := (hI178 53 (by decide)).trans hi160
              have hi187 := (hI178 58 (by decide)).trans hi161
              have hi188 := (hI178 59 (by decide)).trans hi154
              have hF_189 := hF_162.mono (cIx hI178 (by decide)) (cRx hX179 (by decide))
              have hY_190 := hY_163.mono (cIx hI178 (by decide)) (cRx hX179 (by decide))
              have hP_191 := hP_164.mono (cIx hI178 (by decide)) (cRx hX179 (by decide))
              have hEI192 := hEI165.tr hI178 (by decide)
              have hER193 := hER.tr hX179 (by decide)
              show pl _ _ _ (216, [(0, .ref m0)], [.int 0], M173) _
              exact ps_ret rfl rfl (Or.inr ⟨(17, hA + 4), I175, R176, by
                  have ec := cfl_0 (by2 f hA)
                  have eh := has_0 (by2 f hA) 512
                  unfold ccS
                  rw [show hdS f n E hA = some (17, hA + 4) by unfold hdS; first | ((repeat first | rw [if_pos (by omega)] | rw [if_neg (by omega)]) <;> first | rfl | omega) | ((repeat' split) <;> first | rfl | (exfalso; omega) | omega)], rfl, hR177, hEI192, hER193, hi180, hi181⟩)
            · have c_185 : ¬ ((nI (plnN f n E (by2 f (hA + 4)))) = 0) := of_decide_eq_false c_185
              have n_185 : ¬ (plnN f n E (by2 f (hA + 4)) = 0) := fun h9 => c_185 ((eq_nI (p := plnN f n E (by2 f (hA + 4))) (n := 0) (Nat.lt_trans (le1_pln _ _ _ _) (by decide)) (by decide)).mpr h9)
              have hpl4 := pln_in (f := f) (n := n) (E := E) (k := by2 f (hA + 4)) (by omega)
              have hcp4 := hCP (by2 f (hA + 4)) hpl4.1
              refine ps_st (S' := (189, [(3, .int (nI (by2 f (hA + 4)))), (0, .ref m0), (2, .int 0)], [.int 0], M151)) rfl rfl rfl ?_
              refine ps_if (S1 := (217, [(0, .ref m0), (3, .int (nI (by2 f (hA + 4))))], [], M151)) (S2 := (192, [(3, .int (nI (by2 f (hA + 4)))), (0, .ref m0), (2, .int 0)], [], M151)) rfl rfl rfl (fun c_189 => ?_) (fun c_189 => ?_)
              rotate_left
              · exact absurd (by decide) (of_decide_eq_false c_189)
              refine ps_st (S' := (218, [(0, .ref m0), (3, .int (nI (by2 f (hA + 4))))], [.ref m0], M151)) rfl rfl rfl ?_
              refine ps_st (S' := (219, [(0, .ref m0), (3, .int (nI (by2 f (hA + 4))))], [.ref m0, .ref m0], M151)) rfl rfl rfl ?_
              refine ps_st (S' := (220, [(0, .ref m0), (3, .int (nI (by2 f (hA + 4))))], [.int (nI (by2 f (hA + 4))), .ref m0, .ref m0], M151)) rfl rfl rfl ?_
              refine pl_call (a := [.ref m0, .int (nI (by2 f (hA + 4)))]) (rest := [.ref m0]) rfl rfl rfl (rd_className (n := n) (f := f) (tx := tx) (cN := cN) (A := A) (N := N) (mj := mj) (E := E) (k := (by2 f (hA + 4))) hR153 hi158 hi159 hi160 hF_162 hY_163 hP_164 (hEP) (hN) (hmj) (by omega)) (fun v194 M195 q196 => ?_)
              obtain ⟨s197, q220_s, rfl, rfl⟩ := q196
              show pl _ _ _ (223, [(0, .ref m0), (3, .int (nI (by2 f (hA + 4))))], [.int (nI s197), .ref m0], M151) _
              have hsl_220 := q220_s.1
              have htl_220 := hY_163.1.2.2.1
              refine pr_put (j := 60) rfl hR153 rfl (fun M198 I199 hR200 hi201 hI202 => ?_)
              have hi203 := (hI202 54 (by decide)).trans hi156
              have hi204 := (hI202 11 (by decide)).trans hi157
              have hi205 := (hI202 51 (by decide)).trans hi158
              have hi206 := (hI202 52 (by decide)).trans hi159
              have hi207 := (hI202 53 (by decide)).trans hi160
              have hi208 := (hI202 58 (by decide)).trans hi161
              have hi209 := (hI202 59 (by decide)).trans hi154
              have hF_210 := hF_162.mono (pIx hI202 (by decide)) (fun _ _ => rfl)
              have hY_211 := hY_163.mono (pIx hI202 (by decide)) (fun _ _ => rfl)
              have hP_212 := hP_164.mono (pIx hI202 (by decide)) (fun _ _ => rfl)
              have hEI213 := hEI165.put hI202 (by decide)
              show pl _ _ _ (226, [(0, .ref m0), (3, .int (nI (by2 f (hA + 4))))], [], M198) _
              have hh : hdS f n E hA = none := by
                have ec := cfl_0 (by2 f hA)
                have eh := has_0 (by2 f hA) 512
                unfold hdS
                first | ((repeat first | rw [if_pos (by omega)] | rw [if_neg (by omega)]) <;> first | rfl | omega) | ((repeat' split) <;> first | rfl | (exfalso; omega) | omega)
              refine ps_st (S' := (227, [(0, .ref m0), (3, .int (nI (by2 f (hA + 4))))], [.ref m0], M198)) rfl rfl rfl ?_
              refine ps_st (S' := (228, [(0, .ref m0), (3, .int (nI (by2 f (hA + 4))))], [.ref m0, .ref m0], M198)) rfl rfl rfl ?_
              refine pr_int (j := 54) (S' := (231, [(0, .ref m0), (3, .int (nI (by2 f (hA + 4))))], [.int (nI hA), .ref m0], M198)) rfl hR200 rfl hi203 rfl ?_
              refine ps_st (S' := (233, [(0, .ref m0), (3, .int (nI (by2 f (hA + 4))))], [.int 6, .int (nI hA), .ref m0], M198)) rfl rfl rfl ?_
              refine ps_st (S' := (234, [(0, .ref m0), (3, .int (nI (by2 f (hA + 4))))], [.int ((nI hA) + 6), .ref m0], M198)) rfl rfl rfl ?_
              rw [nI_add1 (p := hA) (k := 6) (x := 6) rfl (by omega)]
              show pl _ _ _ (_, [(0, .ref m0), (3, .int (nI (by2 f (hA + 4))))], [.int (nI (hA + 6)), .ref m0], M198) _
              refine pl_call (a := [.ref m0, .int (nI (hA + 6))]) (rest := []) rfl rfl rfl (rd_u2 (n := n) (f := f) (p := (hA + 6)) hR200 hF_210 (by omega)) (fun v214 M215 q216 => ?_)
              obtain ⟨rfl, rfl⟩ := q216
              show pl _ _ _ (237, [(0, .ref m0), (3, .int (nI (by2 f (hA + 4))))], [.int (nI (by2 f (hA + 6)))], M198) _
              have hu_234 := by2_lt f (hA + 6)
              refine ps_st (S' := (239, [(4, .int (nI (by2 f (hA + 6)))), (0, .ref m0), (3, .int (nI (by2 f (hA + 4))))], [], M198)) rfl rfl rfl ?_
              refine ps_st (S' := (240, [(4, .int (nI (by2 f (hA + 6)))), (0, .ref m0), (3, .int (nI (by2 f (hA + 4))))], [.int 0], M198)) rfl rfl rfl ?_
              refine ps_st (S' := (242, [(0, .ref m0), (4, .int (nI (by2 f (hA + 6)))), (5, .int 0)], [], M198)) rfl rfl rfl ?_
              exact (LL kf).1 (0) M198 I199 R hR200 hEI213 hER hi203 hi204 hi205 hi206 hi207 hi208 hF_210 hY_211 hP_212 (hh) (by omega) (rfl) (fun j hj => by omega)
          · have c_135 : ¬ (¬ (nI (plnN f n E (by2 f (hA + 2)))) = 0) := of_decide_eq_false c_135
            have n_135 : plnN f n E (by2 f (hA + 2)) = 0 := (eq_nI (p := plnN f n E (by2 f (hA + 2))) (n := 0) (Nat.lt_trans (le1_pln _ _ _ _) (by decide)) (by decide)).mp (Decidable.not_not.mp c_135)
            refine ps_st (S' := (139, [(0, .ref m0), (2, .int 0)], [.ref m0], M82)) rfl rfl rfl ?_
            refine ps_st (S' := (141, [(0, .ref m0), (2, .int 0)], [.int 16, .ref m0], M82)) rfl rfl rfl ?_
            refine ps_st (S' := (142, [(0, .ref m0), (2, .int 0)], [.ref m0, .int 16, .ref m0], M82)) rfl rfl rfl ?_
            refine pr_int (j := 54) (S' := (145, [(0, .ref m0), (2, .int 0)], [.int (nI hA), .int 16, .ref m0], M82)) rfl hR84 rfl hi87 rfl ?_
            refine ps_st (S' := (146, [(0, .ref m0), (2, .int 0)], [.int 2, .int (nI hA), .int 16, .ref m0], M82)) rfl rfl rfl ?_
            refine ps_st (S' := (147, [(0, .ref m0), (2, .int 0)], [.int ((nI hA) + 2), .int 16, .ref m0], M82)) rfl rfl rfl ?_
            rw [nI_add1 (p := hA) (k := 2) (x := 2) rfl (by omega)]
            show pl _ _ _ (_, [(0, .ref m0), (2, .int 0)], [.int (nI (hA + 2)), .int 16, .ref m0], M82) _
            refine pl_call (a := [.ref m0, .int 16, .int (nI (hA + 2))]) (rest := []) rfl rfl rfl (rd_wrong (x1 := 16) (x2 := (nI (hA + 2))) hR84) (fun v217 M218 q219 => ?_)
            obtain ⟨I220, R221, rfl, hR222, hI223, hX224, hi225, hi226⟩ := q219
            have hi227 := (hI223 54 (by decide)).trans hi87
            have hi228 := (hI223 11 (by decide)).trans hi88
            have hi229 := (hI223 51 (by decide)).trans hi89
            have hi230 := (hI223 52 (by decide)).trans hi90
            have hi231 := (hI223 53 (by decide)).trans hi91
            have hi232 := (hI223 58 (by decide)).trans hi85
            have hF_233 := hF_92.mono (cIx hI223 (by decide)) (cRx hX224 (by decide))
            have hY_234 := hY_93.mono (cIx hI223 (by decide)) (cRx hX224 (by decide))
            have hP_235 := hP_94.mono (cIx hI223 (by decide)) (cRx hX224 (by decide))
            have hEI236 := hEI95.tr hI223 (by decide)
            have hER237 := hER.tr hX224 (by decide)
            show pl _ _ _ (150, [(0, .ref m0), (2, .int 0)], [.int 0], M218) _
            exact ps_ret rfl rfl (Or.inr ⟨(16, hA + 2), I220, R221, by
                have ec := cfl_0 (by2 f hA)
                have eh := has_0 (by2 f hA) 512
                unfold ccS
                rw [show hdS f n E hA = some (16, hA + 2) by unfold hdS; first | ((repeat first | rw [if_pos (by omega)] | rw [if_neg (by omega)]) <;> first | rfl | omega) | ((repeat' split) <;> first | rfl | (exfalso; omega) | omega)], rfl, hR222, hEI236, hER237, hi225, hi226⟩)
        · have c_71 : ¬ ((nI (aN (by2 f hA) 16)) = 0) := of_decide_eq_false c_71
          have n_71 : ¬ (aN (by2 f hA) 16 = 0) := fun h9 => c_71 ((eq_nI (p := aN (by2 f hA) 16) (n := 0) (Nat.lt_of_le_of_lt (an_le _ _) (by decide)) (by decide)).mpr h9)
          refine ps_st (S' := (75, [(2, .int 0), (0, .ref m0), (1, .int (nI (by2 f hA)))], [.int (nI (by2 f hA))], M82)) rfl rfl rfl ?_
          refine ps_st (S' := (78, [(2, .int 0), (0, .ref m0), (1, .int (nI (by2 f hA)))], [.int 1024, .int (nI (by2 f hA))], M82)) rfl rfl rfl ?_
          refine ps_st (S' := (79, [(2, .int 0), (0, .ref m0), (1, .int (nI (by2 f hA)))], [.int ((nI (by2 f hA)) &&& 1024)], M82)) rfl rfl rfl ?_
          rw [nI_an (p := by2 f hA) (k := 1024) (x := 1024) rfl]
          show pl _ _ _ (_, [(2, .int 0), (0, .ref m0), (1, .int (nI (by2 f hA)))], [.int (nI (aN (by2 f hA) 1024))], M82) _
          refine ps_if (S1 := (121, [(0, .ref m0), (2, .int 0)], [], M82)) (S2 := (82, [(0, .ref m0), (1, .int (nI (by2 f hA))), (2, .int 0)], [], M82)) rfl rfl rfl (fun c_79 => ?_) (fun c_79 => ?_)
          · have c_79 : (nI (aN (by2 f hA) 1024)) = 0 := of_decide_eq_true c_79
            have n_79 : aN (by2 f hA) 1024 = 0 := (eq_nI (p := aN (by2 f hA) 1024) (n := 0) (Nat.lt_of_le_of_lt (an_le _ _) (by decide)) (by decide)).mp c_79
            refine ps_st (S' := (122, [(0, .ref m0), (2, .int 0)], [.ref m0], M82)) rfl rfl rfl ?_
            refine ps_st (S' := (123, [(0, .ref m0), (2, .int 0)], [.ref m0, .ref m0], M82)) rfl rfl rfl ?_
            refine ps_st (S' := (124, [(0, .ref m0), (2, .int 0)], [.ref m0, .ref m0, .ref m0], M82)) rfl rfl rfl ?_
            refine pr_int (j := 54) (S' := (127, [(0, .ref m0), (2, .int 0)], [.int (nI hA), .ref m0, .ref m0], M82)) rfl hR84 rfl hi87 rfl ?_
            refine ps_st (S' := (128, [(0, .ref m0), (2, .int 0)], [.int 2, .int (nI hA), .ref m0, .ref m0], M82)) rfl rfl rfl ?_
            refine ps_st (S' := (129, [(0, .ref m0), (2, .int 0)], [.int ((nI hA) + 2), .ref m0, .ref m0], M82)) rfl rfl rfl ?_
            rw [nI_add1 (p := hA) (k := 2) (x := 2) rfl (by omega)]
            show pl _ _ _ (_, [(0, .ref m0), (2, .int 0)], [.int (nI (hA + 2)), .ref m0, .ref m0], M82) _
            refine pl_call (a := [.ref m0, .int (nI (hA + 2))]) (rest := [.ref m0]) rfl rfl rfl (rd_u2 (n := n) (f := f) (p := (hA + 2)) hR84 hF_92 (by omega)) (fun v238 M239 q240 => ?_)
            obtain ⟨rfl, rfl⟩ := q240
            show pl _ _ _ (132, [(0, .ref m0), (2, .int 0)], [.int (nI (by2 f (hA + 2))), .ref m0], M82) _
            have hu_129 := by2_lt f (hA + 2)
            refine pl_call (a := [.ref m0, .int (nI (by2 f (hA + 2)))]) (rest := []) rfl rfl rfl (rd_plainClass (n := n) (f := f) (tx := tx) (cN := cN) (A := A) (N := N) (mj := mj) (E := E) (k := (by2 f (hA + 2))) hR84 hi89 hi90 hi91 hF_92 hY_93 hP_94 (hEP) (hN) (hmj) (by2_lt _ _) (hCP)) (fun v241 M242 q243 => ?_)
            obtain ⟨rfl, rfl⟩ := q243
            show pl _ _ _ (135, [(0, .ref m0), (2, .int 0)], [.int (nI (plnN f n E (by2 f (hA + 2))))], M82) _
            refine ps_if (S1 := (151, [(0, .ref m0), (2, .int 0)], [], M82)) (S2 := (138, [(0, .ref m0), (2, .int 0)], [], M82)) rfl rfl rfl (fun c_135 => ?_) (fun c_135 => ?_)
            · have c_135 : ¬ (nI (plnN f n E (by2 f (hA + 2)))) = 0 := of_decide_eq_true c_135
              have n_135 : ¬ (plnN f n E (by2 f (hA + 2)) = 0) := fun h9 => c_135 ((eq_nI (p := plnN f n E (by2 f (hA + 2))) (n := 0) (Nat.lt_trans (le1_pln _ _ _ _) (by decide)) (by decide)).mpr h9)
              have hpl2 := pln_in (f := f) (n := n) (E := E) (k := by2 f (hA + 2)) (by omega)
              have hcp2 := hCP (by2 f (hA + 2)) hpl2.1
              refine ps_st (S' := (152, [(0, .ref m0), (2, .int 0)], [.ref m0], M82)) rfl rfl rfl ?_
              refine ps_st (S' := (153, [(0, .ref m0), (2, .int 0)], [.ref m0, .ref m0], M82)) rfl rfl rfl ?_
              refine ps_st (S' := (154, [(0, .ref m0), (2, .int 0)], [.ref m0, .ref m0, .ref m0], M82)) rfl rfl rfl ?_
              refine ps_st (S' := (155, [(0, .ref m0), (2, .int 0)], [.ref m0, .ref m0, .ref m0, .ref m0], M82)) rfl rfl rfl ?_
              refine pr_int (j := 54) (S' := (158, [(0, .ref m0), (2, .int 0)], [.int (nI hA), .ref m0, .ref m0, .ref m0], M82)) rfl hR84 rfl hi87 rfl ?_
              refine ps_st (S' := (159, [(0, .ref m0), (2, .int 0)], [.int 2, .int (nI hA), .ref m0, .ref m0, .ref m0], M82)) rfl rfl rfl ?_
              refine ps_st (S' := (160, [(0, .ref m0), (2, .int 0)], [.int ((nI hA) + 2), .ref m0, .ref m0, .ref m0], M82)) rfl rfl rfl ?_
              rw [nI_add1 (p := hA) (k := 2) (x := 2) rfl (by omega)]
              show pl _ _ _ (_, [(0, .ref m0), (2, .int 0)], [.int (nI (hA + 2)), .ref m0, .ref m0, .ref m0], M82) _
              refine pl_call (a := [.ref m0, .int (nI (hA + 2))]) (rest := [.ref m0, .ref m0]) rfl rfl rfl (rd_u2 (n := n) (f := f) (p := (hA + 2)) hR84 hF_92 (by omega)) (fun v244 M245 q246 => ?_)
              obtain ⟨rfl, rfl⟩ := q246
              show pl _ _ _ (163, [(0, .ref m0), (2, .int 0)], [.int (nI (by2 f (hA + 2))), .ref m0, .ref m0], M82) _
              have hu_160 := by2_lt f (hA + 2)
              refine pl_call (a := [.ref m0, .int (nI (by2 f (hA + 2)))]) (rest := [.ref m0]) rfl rfl rfl (rd_className (n := n) (f := f) (tx := tx) (cN := cN) (A := A) (N := N) (mj := mj) (E := E) (k := (by2 f (hA + 2))) hR84 hi89 hi90 hi91 hF_92 hY_93 hP_94 (hEP) (hN) (hmj) (by omega)) (fun v247 M248 q249 => ?_)
              obtain ⟨s250, q163_s, rfl, rfl⟩ := q249
              show pl _ _ _ (166, [(0, .ref m0), (2, .int 0)], [.int (nI s250), .ref m0], M82) _
              have hsl_163 := q163_s.1
              have htl_163 := hY_93.1.2.2.1
              refine pr_put (j := 59) rfl hR84 rfl (fun M251 I252 hR253 hi254 hI255 => ?_)
              have hi256 := (hI255 54 (by decide)).trans hi87
              have hi257 := (hI255 11 (by decide)).trans hi88
              have hi258 := (hI255 51 (by decide)).trans hi89
              have hi259 := (hI255 52 (by decide)).trans hi90
              have hi260 := (hI255 53 (by decide)).trans hi91
              have hi261 := (hI255 58 (by decide)).trans hi85
              have hF_262 := hF_92.mono (pIx hI255 (by decide)) (fun _ _ => rfl)
              have hY_263 := hY_93.mono (pIx hI255 (by decide)) (fun _ _ => rfl)
              have hP_264 := hP_94.mono (pIx hI255 (by decide)) (fun _ _ => rfl)
              have hEI265 := hEI95.put hI255 (by decide)
              show pl _ _ _ (169, [(0, .ref m0), (2, .int 0)], [], M251) _
              refine ps_st (S' := (170, [(0, .ref m0), (2, .int 0)], [.ref m0], M251)) rfl rfl rfl ?_
              refine ps_st (S' := (171, [(0, .ref m0), (2, .int 0)], [.ref m0, .ref m0], M251)) rfl rfl rfl ?_
              refine pr_int (j := 54) (S' := (174, [(0, .ref m0), (2, .int 0)], [.int (nI hA), .ref m0], M251)) rfl hR253 rfl hi256 rfl ?_
              refine ps_st (S' := (175, [(0, .ref m0), (2, .int 0)], [.int 4, .int (nI hA), .ref m0], M251)) rfl rfl rfl ?_
              refine ps_st (S' := (176, [(0, .ref m0), (2, .int 0)], [.int ((nI hA) + 4), .ref m0], M251)) rfl rfl rfl ?_
              rw [nI_add1 (p := hA) (k := 4) (x := 4) rfl (by omega)]
              show pl _ _ _ (_, [(0, .ref m0), (2, .int 0)], [.int (nI (hA + 4)), .ref m0], M251) _
              refine pl_call (a := [.ref m0, .int (nI (hA + 4))]) (rest := []) rfl rfl rfl (rd_u2 (n := n) (f := f) (p := (hA + 4)) hR253 hF_262 (by omega)) (fun v266 M267 q268 => ?_)
              obtain ⟨rfl, rfl⟩ := q268
              show pl _ _ _ (179, [(0, .ref m0), (2, .int 0)], [.int (nI (by2 f (hA + 4)))], M251) _
              have hu_176 := by2_lt f (hA + 4)
              refine ps_st (S' := (180, [(3, .int (nI (by2 f (hA + 4)))), (0, .ref m0), (2, .int 0)], [], M251)) rfl rfl rfl ?_
              refine ps_st (S' := (181, [(3, .int (nI (by2 f (hA + 4)))), (0, .ref m0), (2, .int 0)], [.ref m0], M251)) rfl rfl rfl ?_
              refine ps_st (S' := (182, [(3, .int (nI (by2 f (hA + 4)))), (0, .ref m0), (2, .int 0)], [.int (nI (by2 f (hA + 4))), .ref m0], M251)) rfl rfl rfl ?_
              refine pl_call (a := [.ref m0, .int (nI (by2 f (hA + 4)))]) (rest := []) rfl rfl rfl (rd_plainClass (n := n) (f := f) (tx := tx) (cN := cN) (A := A) (N := N) (mj := mj) (E := E) (k := (by2 f (hA + 4))) hR253 hi258 hi259 hi260 hF_262 hY_263 hP_264 (hEP) (hN) (hmj) (by2_lt _ _) (hCP)) (fun v269 M270 q271 => ?_)
              obtain ⟨rfl, rfl⟩ := q271
              show pl _ _ _ (185, [(3, .int (nI (by2 f (hA + 4)))), (0, .ref m0), (2, .int 0)], [.int (nI (plnN f n E (by2 f (hA + 4))))], M251) _
              refine ps_if (S1 := (204, [(0, .ref m0)], [], M251)) (S2 := (188, [(3, .int (nI (by2 f (hA + 4)))), (0, .ref m0), (2, .int 0)], [], M251)) rfl rfl rfl (fun c_185 => ?_) (fun c_185 => ?_)
              · have c_185 : (nI (plnN f n E (by2 f (hA + 4)))) = 0 := of_decide_eq_true c_185
                have n_185 : plnN f n E (by2 f (hA + 4)) = 0 := (eq_nI (p := plnN f n E (by2 f (hA + 4))) (n := 0) (Nat.lt_trans (le1_pln _ _ _ _) (by decide)) (by decide)).mp c_185
                refine ps_st (S' := (205, [(0, .ref m0)], [.ref m0], M251)) rfl rfl rfl ?_
                refine ps_st (S' := (207, [(0, .ref m0)], [.int 17, .ref m0], M251)) rfl rfl rfl ?_
                refine ps_st (S' := (208, [(0, .ref m0)], [.ref m0, .int 17, .ref m0], M251)) rfl rfl rfl ?_
                refine pr_int (j := 54) (S' := (211, [(0, .ref m0)], [.int (nI hA), .int 17, .ref m0], M251)) rfl hR253 rfl hi256 rfl ?_
                refine ps_st (S' := (212, [(0, .ref m0)], [.int 4, .int (nI hA), .int 17, .ref m0], M251)) rfl rfl rfl ?_
                refine ps_st (S' := (213, [(0, .ref m0)], [.int ((nI hA) + 4), .int 17, .ref m0], M251)) rfl rfl rfl ?_
                rw [nI_add1 (p := hA) (k := 4) (x := 4) rfl (by omega)]
                show pl _ _ _ (_, [(0, .ref m0)], [.int (nI (hA + 4)), .int 17, .ref m0], M251) _
                refine pl_call (a := [.ref m0, .int 17, .int (nI (hA + 4))]) (rest := []) rfl rfl rfl (rd_wrong (x1 := 17) (x2 := (nI (hA + 4))) hR253) (fun v272 M273 q274 => ?_)
                obtain ⟨I275, R276, rfl, hR277, hI278, hX279, hi280, hi281⟩ := q274
                have hi282 := (hI278 54 (by decide)).trans hi256
                have hi283 := (hI278 11 (by decide)).trans hi257
                have hi284 := (hI278 51 (by decide)).trans hi258
                have hi285 := (hI278 52 (by decide)).trans hi259
                have hi286 := (hI278 53 (by decide)).trans hi260
                have hi287 := (hI278 58 (by decide)).trans hi261
                have hi288 := (hI278 59 (by decide)).trans hi254
                have hF_289 := hF_262.mono (cIx hI278 (by decide)) (cRx hX279 (by decide))
                have hY_290 := hY_263.mono (cIx hI278 (by decide)) (cRx hX279 (by decide))
                have hP_291 := hP_264.mono (cIx hI278 (by decide)) (cRx hX279 (by decide))
                have hEI292 := hEI265.tr hI278 (by decide)
                have hER293 := hER.tr hX279 (by decide)
                show pl _ _ _ (216, [(0, .ref m0)], [.int 0], M273) _
                exact ps_ret rfl rfl (Or.inr ⟨(17, hA + 4), I275, R276, by
                    have ec := cfl_0 (by2 f hA)
                    have eh := has_0 (by2 f hA) 512
                    unfold ccS
                    rw [show hdS f n E hA = some (17, hA + 4) by unfold hdS; first | ((repeat first | rw [if_pos (by omega)] | rw [if_neg (by omega)]) <;> first | rfl | omega) | ((repeat' split) <;> first | rfl | (exfalso; omega) | omega)], rfl, hR277, hEI292, hER293, hi280, hi281⟩)
              · have c_185 : ¬ ((nI (plnN f n E (by2 f (hA + 4)))) = 0) := of_decide_eq_false c_185
                have n_185 : ¬ (plnN f n E (by2 f (hA + 4)) = 0) := fun h9 => c_185 ((eq_nI (p := plnN f n E (by2 f (hA + 4))) (n := 0) (Nat.lt_trans (le1_pln _ _ _ _) (by decide)) (by decide)).mpr h9)
                have hpl4 := pln_in (f := f) (n := n) (E := E) (k := by2 f (hA + 4)) (by omega)
                have hcp4 := hCP (by2 f (hA + 4)) hpl4.1
                refine ps_st (S' := (189, [(3, .int (nI (by2 f (hA + 4)))), (0, .ref m0), (2, .int 0)], [.int 0], M251)) rfl rfl rfl ?_
                refine ps_if (S1 := (217, [(0, .ref m0), (3, .int (nI (by2 f (hA + 4))))], [], M251)) (S2 := (192, [(3, .int (nI (by2 f (hA + 4)))), (0, .ref m0), (2, .int 0)], [], M251)) rfl rfl rfl (fun c_189 => ?_) (fun c_189 => ?_)
                rotate_left
                · exact absurd (by decide) (of_decide_eq_false c_189)
                refine ps_st (S' := (218, [(0, .ref m0), (3, .int (nI (by2 f (hA + 4))))], [.ref m0], M251)) rfl rfl rfl ?_
                refine ps_st (S' := (219, [(0, .ref m0), (3, .int (nI (by2 f (hA + 4))))], [.ref m0, .ref m0], M251)) rfl rfl rfl ?_
                refine ps_st (S' := (220, [(0, .ref m0), (3, .int (nI (by2 f (hA + 4))))], [.int (nI (by2 f (hA + 4))), .ref m0, .ref m0], M251)) rfl rfl rfl ?_
                refine pl_call (a := [.ref m0, .int (nI (by2 f (hA + 4)))]) (rest := [.ref m0]) rfl rfl rfl (rd_className (n := n) (f := f) (tx := tx) (cN := cN) (A := A) (N := N) (mj := mj) (E := E) (k := (by2 f (hA + 4))) hR253 hi258 hi259 hi260 hF_262 hY_263 hP_264 (hEP) (hN) (hmj) (by omega)) (fun v294 M295 q296 => ?_)
                obtain ⟨s297, q220_s, rfl, rfl⟩ := q296
                show pl _ _ _ (223, [(0, .ref m0), (3, .int (nI (by2 f (hA + 4))))], [.int (nI s297), .ref m0], M251) _
                have hsl_220 := q220_s.1
                have htl_220 := hY_263.1.2.2.1
                refine pr_put (j := 60) rfl hR253 rfl (fun M298 I299 hR300 hi301 hI302 => ?_)
                have hi303 := (hI302 54 (by decide)).trans hi256
                have hi304 := (hI302 11 (by decide)).trans hi257
                have hi305 := (hI302 51 (by decide)).trans hi258
                have hi306 := (hI302 52 (by decide)).trans hi259
                have hi307 := (hI302 53 (by decide)).trans hi260
                have hi308 := (hI302 58 (by decide)).trans hi261
                have hi309 := (hI302 59 (by decide)).trans hi254
                have hF_310 := hF_262.mono (pIx hI302 (by decide)) (fun _ _ => rfl)
                have hY_311 := hY_263.mono (pIx hI302 (by decide)) (fun _ _ => rfl)
                have hP_312 := hP_264.mono (pIx hI302 (by decide)) (fun _ _ => rfl)
                have hEI313 := hEI265.put hI302 (by decide)
                show pl _ _ _ (226, [(0, .ref m0), (3, .int (nI (by2 f (hA + 4))))], [], M298) _
                have hh : hdS f n E hA = none := by
                  have ec := cfl_0 (by2 f hA)
                  have eh := has_0 (by2 f hA) 512
                  unfold hdS
                  first | ((repeat first | rw [if_pos (by omega)] | rw [if_neg (by omega)]) <;> first | rfl | omega) | ((repeat' split) <;> first | rfl | (exfalso; omega) | omega)
                refine ps_st (S' := (227, [(0, .ref m0), (3, .int (nI (by2 f (hA + 4))))], [.ref m0], M298)) rfl rfl rfl ?_
                refine ps_st (S' := (228, [(0, .ref m0), (3, .int (nI (by2 f (hA + 4))))], [.ref m0, .ref m0], M298)) rfl rfl rfl ?_
                refine pr_int (j := 54) (S' := (231, [(0, .ref m0), (3, .int (nI (by2 f (hA + 4))))], [.int (nI hA), .ref m0], M298)) rfl hR300 rfl hi303 rfl ?_
                refine ps_st (S' := (233, [(0, .ref m0), (3, .int (nI (by2 f (hA + 4))))], [.int 6, .int (nI hA), .ref m0], M298)) rfl rfl rfl ?_
                refine ps_st (S' := (234, [(0, .ref m0), (3, .int (nI (by2 f (hA + 4))))], [.int ((nI hA) + 6), .ref m0], M298)) rfl rfl rfl ?_
                rw [nI_add1 (p := hA) (k := 6) (x := 6) rfl (by omega)]
                show pl _ _ _ (_, [(0, .ref m0), (3, .int (nI (by2 f (hA + 4))))], [.int (nI (hA + 6)), .ref m0], M298) _
                refine pl_call (a := [.ref m0, .int (nI (hA + 6))]) (rest := []) rfl rfl rfl (rd_u2 (n := n) (f := f) (p := (hA + 6)) hR300 hF_310 (by omega)) (fun v314 M315 q316 => ?_)
                obtain ⟨rfl, rfl⟩ := q316
                show pl _ _ _ (237, [(0, .ref m0), (3, .int (nI (by2 f (hA + 4))))], [.int (nI (by2 f (hA + 6)))], M298) _
                have hu_234 := by2_lt f (hA + 6)
                refine ps_st (S' := (239, [(4, .int (nI (by2 f (hA + 6)))), (0, .ref m0), (3, .int (nI (by2 f (hA + 4))))], [], M298)) rfl rfl rfl ?_
                refine ps_st (S' := (240, [(4, .int (nI (by2 f (hA + 6)))), (0, .ref m0), (3, .int (nI (by2 f (hA + 4))))], [.int 0], M298)) rfl rfl rfl ?_
                refine ps_st (S' := (242, [(0, .ref m0), (4, .int (nI (by2 f (hA + 6)))), (5, .int 0)], [], M298)) rfl rfl rfl ?_
                exact (LL kf).1 (0) M298 I299 R hR300 hEI313 hER hi303 hi304 hi305 hi306 hi307 hi308 hF_310 hY_311 hP_312 (hh) (by omega) (rfl) (fun j hj => by omega)
            · have c_135 : ¬ (¬ (nI (plnN f n E (by2 f (hA + 2)))) = 0) := of_decide_eq_false c_135
              have n_135 : plnN f n E (by2 f (hA + 2)) = 0 := (eq_nI (p := plnN f n E (by2 f (hA + 2))) (n := 0) (Nat.lt_trans (le1_pln _ _ _ _) (by decide)) (by decide)).mp (Decidable.not_not.mp c_135)
              refine ps_st (S' := (139, [(0, .ref m0), (2, .int 0)], [.ref m0], M82)) rfl rfl rfl ?_
              refine ps_st (S' := (141, [(0, .ref m0), (2, .int 0)], [.int 16, .ref m0], M82)) rfl rfl rfl ?_
              refine ps_st (S' := (142, [(0, .ref m0), (2, .int 0)], [.ref m0, .int 16, .ref m0], M82)) rfl rfl rfl ?_
              refine pr_int (j := 54) (S' := (145, [(0, .ref m0), (2, .int 0)], [.int (nI hA), .int 16, .ref m0], M82)) rfl hR84 rfl hi87 rfl ?_
              refine ps_st (S' := (146, [(0, .ref m0), (2, .int 0)], [.int 2, .int (nI hA), .int 16, .ref m0], M82)) rfl rfl rfl ?_
              refine ps_st (S' := (147, [(0, .ref m0), (2, .int 0)], [.int ((nI hA) + 2), .int 16, .ref m0], M82)) rfl rfl rfl ?_
              rw [nI_add1 (p := hA) (k := 2) (x := 2) rfl (by omega)]
              show pl _ _ _ (_, [(0, .ref m0), (2, .int 0)], [.int (nI (hA + 2)), .int 16, .ref m0], M82) _
              refine pl_call (a := [.ref m0, .int 16, .int (nI (hA + 2))]) (rest := []) rfl rfl rfl (rd_wrong (x1 := 16) (x2 := (nI (hA + 2))) hR84) (fun v317 M318 q319 => ?_)
              obtain ⟨I320, R321, rfl, hR322, hI323, hX324, hi325, hi326⟩ := q319
              have hi327 := (hI323 54 (by decide)).trans hi87
              have hi328 := (hI323 11 (by decide)).trans hi88
              have hi329 := (hI323 51 (by decide)).trans hi89
              have hi330 := (hI323 52 (by decide)).trans hi90
              have hi331 := (hI323 53 (by decide)).trans hi91
              have hi332 := (hI323 58 (by decide)).trans hi85
              have hF_333 := hF_92.mono (cIx hI323 (by decide)) (cRx hX324 (by decide))
              have hY_334 := hY_93.mono (cIx hI323 (by decide)) (cRx hX324 (by decide))
              have hP_335 := hP_94.mono (cIx hI323 (by decide)) (cRx hX324 (by decide))
              have hEI336 := hEI95.tr hI323 (by decide)
              have hER337 := hER.tr hX324 (by decide)
              show pl _ _ _ (150, [(0, .ref m0), (2, .int 0)], [.int 0], M318) _
              exact ps_ret rfl rfl (Or.inr ⟨(16, hA + 2), I320, R321, by
                  have ec := cfl_0 (by2 f hA)
                  have eh := has_0 (by2 f hA) 512
                  unfold ccS
                  rw [show hdS f n E hA = some (16, hA + 2) by unfold hdS; first | ((repeat first | rw [if_pos (by omega)] | rw [if_neg (by omega)]) <;> first | rfl | omega) | ((repeat' split) <;> first | rfl | (exfalso; omega) | omega)], rfl, hR322, hEI336, hER337, hi325, hi326⟩)
          · have c_79 : ¬ ((nI (aN (by2 f hA) 1024)) = 0) := of_decide_eq_false c_79
            have n_79 : ¬ (aN (by2 f hA) 1024 = 0) := fun h9 => c_79 ((eq_nI (p := aN (by2 f hA) 1024) (n := 0) (Nat.lt_of_le_of_lt (an_le _ _) (by decide)) (by decide)).mpr h9)
            refine ps_st (S' := (83, [(0, .ref m0), (1, .int (nI (by2 f hA))), (2, .int 0)], [.int 0], M82)) rfl rfl rfl ?_
            refine ps_if (S1 := (110, [(0, .ref m0)], [], M82)) (S2 := (86, [(0, .ref m0), (1, .int (nI (by2 f hA))), (2, .int 0)], [], M82)) rfl rfl rfl (fun c_83 => ?_) (fun c_83 => ?_)
            rotate_left
            · exact absurd (by decide) (of_decide_eq_false c_83)
            refine ps_st (S' := (111, [(0, .ref m0)], [.ref m0], M82)) rfl rfl rfl ?_
            refine ps_st (S' := (113, [(0, .ref m0)], [.int 15, .ref m0], M82)) rfl rfl rfl ?_
            refine ps_st (S' := (114, [(0, .ref m0)], [.ref m0, .int 15, .ref m0], M82)) rfl rfl rfl ?_
            refine pr_int (j := 54) (S' := (117, [(0, .ref m0)], [.int (nI hA), .int 15, .ref m0], M82)) rfl hR84 rfl hi87 rfl ?_
            refine pl_call (a := [.ref m0, .int 15, .int (nI hA)]) (rest := []) rfl rfl rfl (rd_wrong (x1 := 15) (x2 := (nI hA)) hR84) (fun v338 M339 q340 => ?_)
            obtain ⟨I341, R342, rfl, hR343, hI344, hX345, hi346, hi347⟩ := q340
            have hi348 := (hI344 54 (by decide)).trans hi87
            have hi349 := (hI344 11 (by decide)).trans hi88
            have hi350 := (hI344 51 (by decide)).trans hi89
            have hi351 := (hI344 52 (by decide)).trans hi90
            have hi352 := (hI344 53 (by decide)).trans hi91
            have hi353 := (hI344 58 (by decide)).trans hi85
            have hF_354 := hF_92.mono (cIx hI344 (by decide)) (cRx hX345 (by decide))
            have hY_355 := hY_93.mono (cIx hI344 (by decide)) (cRx hX345 (by decide))
            have hP_356 := hP_94.mono (cIx hI344 (by decide)) (cRx hX345 (by decide))
            have hEI357 := hEI95.tr hI344 (by decide)
            have hER358 := hER.tr hX345 (by decide)
            show pl _ _ _ (120, [(0, .ref m0)], [.int 0], M339) _
            exact ps_ret rfl rfl (Or.inr ⟨(15, hA), I341, R342, by
                have ec := cfl_0 (by2 f hA)
                have eh := has_0 (by2 f hA) 512
                unfold ccS
                rw [show hdS f n E hA = some (15, hA) by unfold hdS; first | ((repeat first | rw [if_pos (by omega)] | rw [if_neg (by omega)]) <;> first | rfl | omega) | ((repeat' split) <;> first | rfl | (exfalso; omega) | omega)], rfl, hR343, hEI357, hER358, hi346, hi347⟩)
  · have c_19 : ¬ ((nI (aN (by2 f hA) 512)) = 0) := of_decide_eq_false c_19
    have n_19 : ¬ (aN (by2 f hA) 512 = 0) := fun h9 => c_19 ((eq_nI (p := aN (by2 f hA) 512) (n := 0) (Nat.lt_of_le_of_lt (an_le _ _) (by decide)) (by decide)).mpr h9)
    refine ps_st (S' := (23, [(1, .int (nI (by2 f hA))), (0, .ref m0)], [.int 1], M82)) rfl rfl rfl ?_
    refine ps_st (S' := (27, [(0, .ref m0), (1, .int (nI (by2 f hA)))], [.int 1], M82)) rfl rfl rfl ?_
    refine ps_st (S' := (28, [(2, .int 1), (0, .ref m0), (1, .int (nI (by2 f hA)))], [], M82)) rfl rfl rfl ?_
    refine ps_st (S' := (29, [(2, .int 1), (0, .ref m0), (1, .int (nI (by2 f hA)))], [.int (nI (by2 f hA))], M82)) rfl rfl rfl ?_
    refine ps_st (S' := (32, [(2, .int 1), (0, .ref m0), (1, .int (nI (by2 f hA)))], [.int 32768, .int (nI (by2 f hA))], M82)) rfl rfl rfl ?_
    refine ps_st (S' := (33, [(2, .int 1), (0, .ref m0), (1, .int (nI (by2 f hA)))], [.int ((nI (by2 f hA)) &&& 32768)], M82)) rfl rfl rfl ?_
    rw [nI_an (p := by2 f hA) (k := 32768) (x := 32768) rfl]
    show pl _ _ _ (_, [(2, .int 1), (0, .ref m0), (1, .int (nI (by2 f hA)))], [.int (nI (aN (by2 f hA) 32768))], M82) _
    refine ps_if (S1 := (82, [(0, .ref m0), (1, .int (nI (by2 f hA))), (2, .int 1)], [], M82)) (S2 := (36, [(2, .int 1), (0, .ref m0), (1, .int (nI (by2 f hA)))], [], M82)) rfl rfl rfl (fun c_33 => ?_) (fun c_33 => ?_)
    · have c_33 : ¬ (nI (aN (by2 f hA) 32768)) = 0 := of_decide_eq_true c_33
      have n_33 : ¬ (aN (by2 f hA) 32768 = 0) := fun h9 => c_33 ((eq_nI (p := aN (by2 f hA) 32768) (n := 0) (Nat.lt_of_le_of_lt (an_le _ _) (by decide)) (by decide)).mpr h9)
      refine ps_st (S' := (83, [(0, .ref m0), (1, .int (nI (by2 f hA))), (2, .int 1)], [.int 1], M82)) rfl rfl rfl ?_
      refine ps_if (S1 := (110, [(0, .ref m0)], [], M82)) (S2 := (86, [(0, .ref m0), (1, .int (nI (by2 f hA))), (2, .int 1)], [], M82)) rfl rfl rfl (fun c_83 => ?_) (fun c_83 => ?_)
      · exact absurd (of_decide_eq_true c_83) (by decide)
      refine ps_st (S' := (87, [(0, .ref m0), (1, .int (nI (by2 f hA))), (2, .int 1)], [.int (nI (by2 f hA))], M82)) rfl rfl rfl ?_
      refine ps_st (S' := (90, [(0, .ref m0), (1, .int (nI (by2 f hA))), (2, .int 1)], [.int 32768, .int (nI (by2 f hA))], M82)) rfl rfl rfl ?_
      refine ps_st (S' := (91, [(0, .ref m0), (1, .int (nI (by2 f hA))), (2, .int 1)], [.int ((nI (by2 f hA)) &&& 32768)], M82)) rfl rfl rfl ?_
      rw [nI_an (p := by2 f hA) (k := 32768) (x := 32768) rfl]
      show pl _ _ _ (_, [(0, .ref m0), (1, .int (nI (by2 f hA))), (2, .int 1)], [.int (nI (aN (by2 f hA) 32768))], M82) _
      refine ps_if (S1 := (110, [(0, .ref m0)], [], M82)) (S2 := (94, [(0, .ref m0), (1, .int (nI (by2 f hA))), (2, .int 1)], [], M82)) rfl rfl rfl (fun c_91 => ?_) (fun c_91 => ?_)
      rotate_left
      · exact absurd (show ¬ ((nI (aN (by2 f hA) 32768)) = 0) from fun h9 => absurd ((eq_nI (p := aN (by2 f hA) 32768) (n := 0) (Nat.lt_of_le_of_lt (an_le _ _) (by decide)) (by decide)).mp h9) (by omega)) (of_decide_eq_false c_91)
      refine ps_st (S' := (111, [(0, .ref m0)], [.ref m0], M82)) rfl rfl rfl ?_
      refine ps_st (S' := (113, [(0, .ref m0)], [.int 15, .ref m0], M82)) rfl rfl rfl ?_
      refine ps_st (S' := (114, [(0, .ref m0)], [.ref m0, .int 15, .ref m0], M82)) rfl rfl rfl ?_
      refine pr_int (j := 54) (S' := (117, [(0, .ref m0)], [.int (nI hA), .int 15, .ref m0], M82)) rfl hR84 rfl hi87 rfl ?_
      refine pl_call (a := [.ref m0, .int 15, .int (nI hA)]) (rest := []) rfl rfl rfl (rd_wrong (x1 := 15) (x2 := (nI hA)) hR84) (fun v359 M360 q361 => ?_)
      obtain ⟨I362, R363, rfl, hR364, hI365, hX366, hi367, hi368⟩ := q361
      have hi369 := (hI365 54 (by decide)).trans hi87
      have hi370 := (hI365 11 (by decide)).trans hi88
      have hi371 := (hI365 51 (by decide)).trans hi89
      have hi372 := (hI365 52 (by decide)).trans hi90
      have hi373 := (hI365 53 (by decide)).trans hi91
      have hi374 := (hI365 58 (by decide)).trans hi85
      have hF_375 := hF_92.mono (cIx hI365 (by decide)) (cRx hX366 (by decide))
      have hY_376 := hY_93.mono (cIx hI365 (by decide)) (cRx hX366 (by decide))
      have hP_377 := hP_94.mono (cIx hI365 (by decide)) (cRx hX366 (by decide))
      have hEI378 := hEI95.tr hI365 (by decide)
      have hER379 := hER.tr hX366 (by decide)
      show pl _ _ _ (120, [(0, .ref m0)], [.int 0], M360) _
      exact ps_ret rfl rfl (Or.inr ⟨(15, hA), I362, R363, by
          have ec := cfl_0 (by2 f hA)
          have eh := has_0 (by2 f hA) 512
          unfold ccS
          rw [show hdS f n E hA = some (15, hA) by unfold hdS; first | ((repeat first | rw [if_pos (by omega)] | rw [if_neg (by omega)]) <;> first | rfl | omega) | ((repeat' split) <;> first | rfl | (exfalso; omega) | omega)], rfl, hR364, hEI378, hER379, hi367, hi368⟩)
    · have c_33 : ¬ (¬ (nI (aN (by2 f hA) 32768)) = 0) := of_decide_eq_false c_33
      have n_33 : aN (by2 f hA) 32768 = 0 := (eq_nI (p := aN (by2 f hA) 32768) (n := 0) (Nat.lt_of_le_of_lt (an_le _ _) (by decide)) (by decide)).mp (Decidable.not_not.mp c_33)
      refine ps_st (S' := (37, [(2, .int 1), (0, .ref m0), (1, .int (nI (by2 f hA)))], [.int 1], M82)) rfl rfl rfl ?_
      refine ps_if (S1 := (59, [(2, .int 1), (0, .ref m0), (1, .int (nI (by2 f hA)))], [], M82)) (S2 := (40, [(2, .int 1), (0, .ref m0), (1, .int (nI (by2 f hA)))], [], M82)) rfl rfl rfl (fun c_37 => ?_) (fun c_37 => ?_)
      · exact absurd (of_decide_eq_true c_37) (by decide)
      refine ps_st (S' := (41, [(2, .int 1), (0, .ref m0), (1, .int (nI (by2 f hA)))], [.int (nI (by2 f hA))], M82)) rfl rfl rfl ?_
      refine ps_st (S' := (44, [(2, .int 1), (0, .ref m0), (1, .int (nI (by2 f hA)))], [.int 1024, .int (nI (by2 f hA))], M82)) rfl rfl rfl ?_
      refine ps_st (S' := (45, [(2, .int 1), (0, .ref m0), (1, .int (nI (by2 f hA)))], [.int ((nI (by2 f hA)) &&& 1024)], M82)) rfl rfl rfl ?_
      rw [nI_an (p := by2 f hA) (k := 1024) (x := 1024) rfl]
      show pl _ _ _ (_, [(2, .int 1), (0, .ref m0), (1, .int (nI (by2 f hA)))], [.int (nI (aN (by2 f hA) 1024))], M82) _
      refine ps_if (S1 := (82, [(0, .ref m0), (1, .int (nI (by2 f hA))), (2, .int 1)], [], M82)) (S2 := (48, [(2, .int 1), (0, .ref m0), (1, .int (nI (by2 f hA)))], [], M82)) rfl rfl rfl (fun c_45 => ?_) (fun c_45 => ?_)
      · have c_45 : (nI (aN (by2 f hA) 1024)) = 0 := of_decide_eq_true c_45
        have n_45 : aN (by2 f hA) 1024 = 0 := (eq_nI (p := aN (by2 f hA) 1024) (n := 0) (Nat.lt_of_le_of_lt (an_le _ _) (by decide)) (by decide)).mp c_45
        refine ps_st (S' := (83, [(0, .ref m0), (1, .int (nI (by2 f hA))), (2, .int 1)], [.int 1], M82)) rfl rfl rfl ?_
        refine ps_if (S1 := (110, [(0, .ref m0)], [], M82)) (S2 := (86, [(0, .ref m0), (1, .int (nI (by2 f hA))), (2, .int 1)], [], M82)) rfl rfl rfl (fun c_83 => ?_) (fun c_83 => ?_)
        · exact absurd (of_decide_eq_true c_83) (by decide)
        refine ps_st (S' := (87, [(0, .ref m0), (1, .int (nI (by2 f hA))), (2, .int 1)], [.int (nI (by2 f hA))], M82)) rfl rfl rfl ?_
        refine ps_st (S' := (90, [(0, .ref m0), (1, .int (nI (by2 f hA))), (2, .int 1)], [.int 32768, .int (nI (by2 f hA))], M82)) rfl rfl rfl ?_
        refine ps_st (S' := (91, [(0, .ref m0), (1, .int (nI (by2 f hA))), (2, .int 1)], [.int ((nI (by2 f hA)) &&& 32768)], M82)) rfl rfl rfl ?_
        rw [nI_an (p := by2 f hA) (k := 32768) (x := 32768) rfl]
        show pl _ _ _ (_, [(0, .ref m0), (1, .int (nI (by2 f hA))), (2, .int 1)], [.int (nI (aN (by2 f hA) 32768))], M82) _
        refine ps_if (S1 := (110, [(0, .ref m0)], [], M82)) (S2 := (94, [(0, .ref m0), (1, .int (nI (by2 f hA))), (2, .int 1)], [], M82)) rfl rfl rfl (fun c_91 => ?_) (fun c_91 => ?_)
        · exact absurd (of_decide_eq_true c_91) (fun h9 => h9 ((eq_nI (p := aN (by2 f hA) 32768) (n := 0) (Nat.lt_of_le_of_lt (an_le _ _) (by decide)) (by decide)).mpr (by omega)))
        refine ps_st (S' := (95, [(0, .ref m0), (1, .int (nI (by2 f hA))), (2, .int 1)], [.int (nI (by2 f hA))], M82)) rfl rfl rfl ?_
        refine ps_st (S' := (98, [(0, .ref m0), (1, .int (nI (by2 f hA))), (2, .int 1)], [.int 1024, .int (nI (by2 f hA))], M82)) rfl rfl rfl ?_
        refine ps_st (S' := (99, [(0, .ref m0), (1, .int (nI (by2 f hA))), (2, .int 1)], [.int ((nI (by2 f hA)) &&& 1024)], M82)) rfl rfl rfl ?_
        rw [nI_an (p := by2 f hA) (k := 1024) (x := 1024) rfl]
        show pl _ _ _ (_, [(0, .ref m0), (1, .int (nI (by2 f hA))), (2, .int 1)], [.int (nI (aN (by2 f hA) 1024))], M82) _
        refine ps_if (S1 := (110, [(0, .ref m0)], [], M82)) (S2 := (102, [(0, .ref m0), (1, .int (nI (by2 f hA))), (2, .int 1)], [], M82)) rfl rfl rfl (fun c_99 => ?_) (fun c_99 => ?_)
        rotate_left
        · exact absurd ((eq_nI (p := aN (by2 f hA) 1024) (n := 0) (Nat.lt_of_le_of_lt (an_le _ _) (by decide)) (by decide)).mpr (by omega)) (of_decide_eq_false c_99)
        refine ps_st (S' := (111, [(0, .ref m0)], [.ref m0], M82)) rfl rfl rfl ?_
        refine ps_st (S' := (113, [(0, .ref m0)], [.int 15, .ref m0], M82)) rfl rfl rfl ?_
        refine ps_st (S' := (114, [(0, .ref m0)], [.ref m0, .int 15, .ref m0], M82)) rfl rfl rfl ?_
        refine pr_int (j := 54) (S' := (117, [(0, .ref m0)], [.int (nI hA), .int 15, .ref m0], M82)) rfl hR84 rfl hi87 rfl ?_
        refine pl_call (a := [.ref m0, .int 15, .int (nI hA)]) (rest := []) rfl rfl rfl (rd_wrong (x1 := 15) (x2 := (nI hA)) hR84) (fun v380 M381 q382 => ?_)
        obtain ⟨I383, R384, rfl, hR385, hI386, hX387, hi388, hi389⟩ := q382
        have hi390 := (hI386 54 (by decide)).trans hi87
        have hi391 := (hI386 11 (by decide)).trans hi88
        have hi392 := (hI386 51 (by decide)).trans hi89
        have hi393 := (hI386 52 (by decide)).trans hi90
        have hi394 := (hI386 53 (by decide)).trans hi91
        have hi395 := (hI386 58 (by decide)).trans hi85
        have hF_396 := hF_92.mono (cIx hI386 (by decide)) (cRx hX387 (by decide))
        have hY_397 := hY_93.mono (cIx hI386 (by decide)) (cRx hX387 (by decide))
        have hP_398 := hP_94.mono (cIx hI386 (by decide)) (cRx hX387 (by decide))
        have hEI399 := hEI95.tr hI386 (by decide)
        have hER400 := hER.tr hX387 (by decide)
        show pl _ _ _ (120, [(0, .ref m0)], [.int 0], M381) _
        exact ps_ret rfl rfl (Or.inr ⟨(15, hA), I383, R384, by
            have ec := cfl_0 (by2 f hA)
            have eh := has_0 (by2 f hA) 512
            unfold ccS
            rw [show hdS f n E hA = some (15, hA) by unfold hdS; first | ((repeat first | rw [if_pos (by omega)] | rw [if_neg (by omega)]) <;> first | rfl | omega) | ((repeat' split) <;> first | rfl | (exfalso; omega) | omega)], rfl, hR385, hEI399, hER400, hi388, hi389⟩)
      · have c_45 : ¬ ((nI (aN (by2 f hA) 1024)) = 0) := of_decide_eq_false c_45
        have n_45 : ¬ (aN (by2 f hA) 1024 = 0) := fun h9 => c_45 ((eq_nI (p := aN (by2 f hA) 1024) (n := 0) (Nat.lt_of_le_of_lt (an_le _ _) (by decide)) (by decide)).mpr h9)
        refine ps_st (S' := (49, [(2, .int 1), (0, .ref m0), (1, .int (nI (by2 f hA)))], [.int (nI (by2 f hA))], M82)) rfl rfl rfl ?_
        refine ps_st (S' := (52, [(2, .int 1), (0, .ref m0), (1, .int (nI (by2 f hA)))], [.int 16432, .int (nI (by2 f hA))], M82)) rfl rfl rfl ?_
        refine ps_st (S' := (53, [(2, .int 1), (0, .ref m0), (1, .int (nI (by2 f hA)))], [.int ((nI (by2 f hA)) &&& 16432)], M82)) rfl rfl rfl ?_
        rw [nI_an (p := by2 f hA) (k := 16432) (x := 16432) rfl]
        show pl _ _ _ (_, [(2, .int 1), (0, .ref m0), (1, .int (nI (by2 f hA)))], [.int (nI (aN (by2 f hA) 16432))], M82) _
        refine ps_if (S1 := (121, [(0, .ref m0), (2, .int 1)], [], M82)) (S2 := (56, [(2, .int 1), (0, .ref m0), (1, .int (nI (by2 f hA)))], [], M82)) rfl rfl rfl (fun c_53 => ?_) (fun c_53 => ?_)
        · have c_53 : (nI (aN (by2 f hA) 16432)) = 0 := of_decide_eq_true c_53
          have n_53 : aN (by2 f hA) 16432 = 0 := (eq_nI (p := aN (by2 f hA) 16432) (n := 0) (Nat.lt_of_le_of_lt (an_le _ _) (by decide)) (by decide)).mp c_53
          refine ps_st (S' := (122, [(0, .ref m0), (2, .int 1)], [.ref m0], M82)) rfl rfl rfl ?_
          refine ps_st (S' := (123, [(0, .ref m0), (2, .int 1)], [.ref m0, .ref m0], M82)) rfl rfl rfl ?_
          refine ps_st (S' := (124, [(0, .ref m0), (2, .int 1)], [.ref m0, .ref m0, .ref m0], M82)) rfl rfl rfl ?_
          refine pr_int (j := 54) (S' := (127, [(0, .ref m0), (2, .int 1)], [.int (nI hA), .ref m0, .ref m0], M82)) rfl hR84 rfl hi87 rfl ?_
          refine ps_st (S' := (128, [(0, .ref m0), (2, .int 1)], [.int 2, .int (nI hA), .ref m0, .ref m0], M82)) rfl rfl rfl ?_
          refine ps_st (S' := (129, [(0, .ref m0), (2, .int 1)], [.int ((nI hA) + 2), .ref m0, .ref m0], M82)) rfl rfl rfl ?_
          rw [nI_add1 (p := hA) (k := 2) (x := 2) rfl (by omega)]
          show pl _ _ _ (_, [(0, .ref m0), (2, .int 1)], [.int (nI (hA + 2)), .ref m0, .ref m0], M82) _
          refine pl_call (a := [.ref m0, .int (nI (hA + 2))]) (rest := [.ref m0]) rfl rfl rfl (rd_u2 (n := n) (f := f) (p := (hA + 2)) hR84 hF_92 (by omega)) (fun v401 M402 q403 => ?_)
          obtain ⟨rfl, rfl⟩ := q403
          show pl _ _ _ (132, [(0, .ref m0), (2, .int 1)], [.int (nI (by2 f (hA + 2))), .ref m0], M82) _
          have hu_129 := by2_lt f (hA + 2)
          refine pl_call (a := [.ref m0, .int (nI (by2 f (hA + 2)))]) (rest := []) rfl rfl rfl (rd_plainClass (n := n) (f := f) (tx := tx) (cN := cN) (A := A) (N := N) (mj := mj) (E := E) (k := (by2 f (hA + 2))) hR84 hi89 hi90 hi91 hF_92 hY_93 hP_94 (hEP) (hN) (hmj) (by2_lt _ _) (hCP)) (fun v404 M405 q406 => ?_)
          obtain ⟨rfl, rfl⟩ := q406
          show pl _ _ _ (135, [(0, .ref m0), (2, .int 1)], [.int (nI (plnN f n E (by2 f (hA + 2))))], M82) _
          refine ps_if (S1 := (151, [(0, .ref m0), (2, .int 1)], [], M82)) (S2 := (138, [(0, .ref m0), (2, .int 1)], [], M82)) rfl rfl rfl (fun c_135 => ?_) (fun c_135 => ?_)
          · have c_135 : ¬ (nI (plnN f n E (by2 f (hA + 2)))) = 0 := of_decide_eq_true c_135
            have n_135 : ¬ (plnN f n E (by2 f (hA + 2)) = 0) := fun h9 => c_135 ((eq_nI (p := plnN f n E (by2 f (hA + 2))) (n := 0) (Nat.lt_trans (le1_pln _ _ _ _) (by decide)) (by decide)).mpr h9)
            have hpl2 := pln_in (f := f) (n := n) (E := E) (k := by2 f (hA + 2)) (by omega)
            have hcp2 := hCP (by2 f (hA + 2)) hpl2.1
            refine ps_st (S' := (152, [(0, .ref m0), (2, .int 1)], [.ref m0], M82)) rfl rfl rfl ?_
            refine ps_st (S' := (153, [(0, .ref m0), (2, .int 1)], [.ref m0, .ref m0], M82)) rfl rfl rfl ?_
            refine ps_st (S' := (154, [(0, .ref m0), (2, .int 1)], [.ref m0, .ref m0, .ref m0], M82)) rfl rfl rfl ?_
            refine ps_st (S' := (155, [(0, .ref m0), (2, .int 1)], [.ref m0, .ref m0, .ref m0, .ref m0], M82)) rfl rfl rfl ?_
            refine pr_int (j := 54) (S' := (158, [(0, .ref m0), (2, .int 1)], [.int (nI hA), .ref m0, .ref m0, .ref m0], M82)) rfl hR84 rfl hi87 rfl ?_
            refine ps_st (S' := (159, [(0, .ref m0), (2, .int 1)], [.int 2, .int (nI hA), .ref m0, .ref m0, .ref m0], M82)) rfl rfl rfl ?_
            refine ps_st (S' := (160, [(0, .ref m0), (2, .int 1)], [.int ((nI hA) + 2), .ref m0, .ref m0, .ref m0], M82)) rfl rfl rfl ?_
            rw [nI_add1 (p := hA) (k := 2) (x := 2) rfl (by omega)]
            show pl _ _ _ (_, [(0, .ref m0), (2, .int 1)], [.int (nI (hA + 2)), .ref m0, .ref m0, .ref m0], M82) _
            refine pl_call (a := [.ref m0, .int (nI (hA + 2))]) (rest := [.ref m0, .ref m0]) rfl rfl rfl (rd_u2 (n := n) (f := f) (p := (hA + 2)) hR84 hF_92 (by omega)) (fun v407 M408 q409 => ?_)
            obtain ⟨rfl, rfl⟩ := q409
            show pl _ _ _ (163, [(0, .ref m0), (2, .int 1)], [.int (nI (by2 f (hA + 2))), .ref m0, .ref m0], M82) _
            have hu_160 := by2_lt f (hA + 2)
            refine pl_call (a := [.ref m0, .int (nI (by2 f (hA + 2)))]) (rest := [.ref m0]) rfl rfl rfl (rd_className (n := n) (f := f) (tx := tx) (cN := cN) (A := A) (N := N) (mj := mj) (E := E) (k := (by2 f (hA + 2))) hR84 hi89 hi90 hi91 hF_92 hY_93 hP_94 (hEP) (hN) (hmj) (by omega)) (fun v410 M411 q412 => ?_)
            obtain ⟨s413, q163_s, rfl, rfl⟩ := q412
            show pl _ _ _ (166, [(0, .ref m0), (2, .int 1)], [.int (nI s413), .ref m0], M82) _
            have hsl_163 := q163_s.1
            have htl_163 := hY_93.1.2.2.1
            refine pr_put (j := 59) rfl hR84 rfl (fun M414 I415 hR416 hi417 hI418 => ?_)
            have hi419 := (hI418 54 (by decide)).trans hi87
            have hi420 := (hI418 11 (by decide)).trans hi88
            have hi421 := (hI418 51 (by decide)).trans hi89
            have hi422 := (hI418 52 (by decide)).trans hi90
            have hi423 := (hI418 53 (by decide)).trans hi91
            have hi424 := (hI418 58 (by decide)).trans hi85
            have hF_425 := hF_92.mono (pIx hI418 (by decide)) (fun _ _ => rfl)
            have hY_426 := hY_93.mono (pIx hI418 (by decide)) (fun _ _ => rfl)
            have hP_427 := hP_94.mono (pIx hI418 (by decide)) (fun _ _ => rfl)
            have hEI428 := hEI95.put hI418 (by decide)
            show pl _ _ _ (169, [(0, .ref m0), (2, .int 1)], [], M414) _
            refine ps_st (S' := (170, [(0, .ref m0), (2, .int 1)], [.ref m0], M414)) rfl rfl rfl ?_
            refine ps_st (S' := (171, [(0, .ref m0), (2, .int 1)], [.ref m0, .ref m0], M414)) rfl rfl rfl ?_
            refine pr_int (j := 54) (S' := (174, [(0, .ref m0), (2, .int 1)], [.int (nI hA), .ref m0], M414)) rfl hR416 rfl hi419 rfl ?_
            refine ps_st (S' := (175, [(0, .ref m0), (2, .int 1)], [.int 4, .int (nI hA), .ref m0], M414)) rfl rfl rfl ?_
            refine ps_st (S' := (176, [(0, .ref m0), (2, .int 1)], [.int ((nI hA) + 4), .ref m0], M414)) rfl rfl rfl ?_
            rw [nI_add1 (p := hA) (k := 4) (x := 4) rfl (by omega)]
            show pl _ _ _ (_, [(0, .ref m0), (2, .int 1)], [.int (nI (hA + 4)), .ref m0], M414) _
            refine pl_call (a := [.ref m0, .int (nI (hA + 4))]) (rest := []) rfl rfl rfl (rd_u2 (n := n) (f := f) (p := (hA + 4)) hR416 hF_425 (by omega)) (fun v429 M430 q431 => ?_)
            obtain ⟨rfl, rfl⟩ := q431
            show pl _ _ _ (179, [(0, .ref m0), (2, .int 1)], [.int (nI (by2 f (hA + 4)))], M414) _
            have hu_176 := by2_lt f (hA + 4)
            refine ps_st (S' := (180, [(3, .int (nI (by2 f (hA + 4)))), (0, .ref m0), (2, .int 1)], [], M414)) rfl rfl rfl ?_
            refine ps_st (S' := (181, [(3, .int (nI (by2 f (hA + 4)))), (0, .ref m0), (2, .int 1)], [.ref m0], M414)) rfl rfl rfl ?_
            refine ps_st (S' := (182, [(3, .int (nI (by2 f (hA + 4)))), (0, .ref m0), (2, .int 1)], [.int (nI (by2 f (hA + 4))), .ref m0], M414)) rfl rfl rfl ?_
            refine pl_call (a := [.ref m0, .int (nI (by2 f (hA + 4)))]) (rest := []) rfl rfl rfl (rd_plainClass (n := n) (f := f) (tx := tx) (cN := cN) (A := A) (N := N) (mj := mj) (E := E) (k := (by2 f (hA + 4))) hR416 hi421 hi422 hi423 hF_425 hY_426 hP_427 (hEP) (hN) (hmj) (by2_lt _ _) (hCP)) (fun v432 M433 q434 => ?_)
            obtain ⟨rfl, rfl⟩ := q434
            show pl _ _ _ (185, [(3, .int (nI (by2 f (hA + 4)))), (0, .ref m0), (2, .int 1)], [.int (nI (plnN f n E (by2 f (hA + 4))))], M414) _
            refine ps_if (S1 := (204, [(0, .ref m0)], [], M414)) (S2 := (188, [(3, .int (nI (by2 f (hA + 4)))), (0, .ref m0), (2, .int 1)], [], M414)) rfl rfl rfl (fun c_185 => ?_) (fun c_185 => ?_)
            · have c_185 : (nI (plnN f n E (by2 f (hA + 4)))) = 0 := of_decide_eq_true c_185
              have n_185 : plnN f n E (by2 f (hA + 4)) = 0 := (eq_nI (p := plnN f n E (by2 f (hA + 4))) (n := 0) (Nat.lt_trans (le1_pln _ _ _ _) (by decide)) (by decide)).mp c_185
              refine ps_st (S' := (205, [(0, .ref m0)], [.ref m0], M414)) rfl rfl rfl ?_
              refine ps_st (S' := (207, [(0, .ref m0)], [.int 17, .ref m0], M414)) rfl rfl rfl ?_
              refine ps_st (S' := (208, [(0, .ref m0)], [.ref m0, .int 17, .ref m0], M414)) rfl rfl rfl ?_
              refine pr_int (j := 54) (S' := (211, [(0, .ref m0)], [.int (nI hA), .int 17, .ref m0], M414)) rfl hR416 rfl hi419 rfl ?_
              refine ps_st (S' := (212, [(0, .ref m0)], [.int 4, .int (nI hA), .int 17, .ref m0], M414)) rfl rfl rfl ?_
              refine ps_st (S' := (213, [(0, .ref m0)], [.int ((nI hA) + 4), .int 17, .ref m0], M414)) rfl rfl rfl ?_
              rw [nI_add1 (p := hA) (k := 4) (x := 4) rfl (by omega)]
              show pl _ _ _ (_, [(0, .ref m0)], [.int (nI (hA + 4)), .int 17, .ref m0], M414) _
              refine pl_call (a := [.ref m0, .int 17, .int (nI (hA + 4))]) (rest := []) rfl rfl rfl (rd_wrong (x1 := 17) (x2 := (nI (hA + 4))) hR416) (fun v435 M436 q437 => ?_)
              obtain ⟨I438, R439, rfl, hR440, hI441, hX442, hi443, hi444⟩ := q437
              have hi445 := (hI441 54 (by decide)).trans hi419
              have hi446 := (hI441 11 (by decide)).trans hi420
              have hi447 := (hI441 51 (by decide)).trans hi421
              have hi448 := (hI441 52 (by decide)).trans hi422
              have hi449 := (hI441 53 (by decide)).trans hi423
              have hi450 := (hI441 58 (by decide)).trans hi424
              have hi451 := (hI441 59 (by decide)).trans hi417
              have hF_452 := hF_425.mono (cIx hI441 (by decide)) (cRx hX442 (by decide))
              have hY_453 := hY_426.mono (cIx hI441 (by decide)) (cRx hX442 (by decide))
              have hP_454 := hP_427.mono (cIx hI441 (by decide)) (cRx hX442 (by decide))
              have hEI455 := hEI428.tr hI441 (by decide)
              have hER456 := hER.tr hX442 (by decide)
              show pl _ _ _ (216, [(0, .ref m0)], [.int 0], M436) _
              exact ps_ret rfl rfl (Or.inr ⟨(17, hA + 4), I438, R439, by
                  have ec := cfl_0 (by2 f hA)
                  have eh := has_0 (by2 f hA) 512
                  unfold ccS
                  rw [show hdS f n E hA = some (17, hA + 4) by unfold hdS; first | ((repeat first | rw [if_pos (by omega)] | rw [if_neg (by omega)]) <;> first | rfl | omega) | ((repeat' split) <;> first | rfl | (exfalso; omega) | omega)], rfl, hR440, hEI455, hER456, hi443, hi444⟩)
            · have c_185 : ¬ ((nI (plnN f n E (by2 f (hA + 4)))) = 0) := of_decide_eq_false c_185
              have n_185 : ¬ (plnN f n E (by2 f (hA + 4)) = 0) := fun h9 => c_185 ((eq_nI (p := plnN f n E (by2 f (hA + 4))) (n := 0) (Nat.lt_trans (le1_pln _ _ _ _) (by decide)) (by decide)).mpr h9)
              have hpl4 := pln_in (f := f) (n := n) (E := E) (k := by2 f (hA + 4)) (by omega)
              have hcp4 := hCP (by2 f (hA + 4)) hpl4.1
              refine ps_st (S' := (189, [(3, .int (nI (by2 f (hA + 4)))), (0, .ref m0), (2, .int 1)], [.int 1], M414)) rfl rfl rfl ?_
              refine ps_if (S1 := (217, [(0, .ref m0), (3, .int (nI (by2 f (hA + 4))))], [], M414)) (S2 := (192, [(3, .int (nI (by2 f (hA + 4)))), (0, .ref m0), (2, .int 1)], [], M414)) rfl rfl rfl (fun c_189 => ?_) (fun c_189 => ?_)
              · exact absurd (of_decide_eq_true c_189) (by decide)
              refine ps_st (S' := (193, [(3, .int (nI (by2 f (hA + 4)))), (0, .ref m0), (2, .int 1)], [.ref m0], M414)) rfl rfl rfl ?_
              refine ps_st (S' := (194, [(3, .int (nI (by2 f (hA + 4)))), (0, .ref m0), (2, .int 1)], [.int (nI (by2 f (hA + 4))), .ref m0], M414)) rfl rfl rfl ?_
              refine pl_call (a := [.ref m0, .int (nI (by2 f (hA + 4)))]) (rest := []) rfl rfl rfl (rd_className (n := n) (f := f) (tx := tx) (cN := cN) (A := A) (N := N) (mj := mj) (E := E) (k := (by2 f (hA + 4))) hR416 hi421 hi422 hi423 hF_425 hY_426 hP_427 (hEP) (hN) (hmj) (by omega)) (fun v457 M458 q459 => ?_)
              obtain ⟨s460, q194_s, rfl, rfl⟩ := q459
              show pl _ _ _ (197, [(3, .int (nI (by2 f (hA + 4)))), (0, .ref m0), (2, .int 1)], [.int (nI s460)], M414) _
              have hsl_194 := q194_s.1
              have htl_194 := hY_426.1.2.2.1
              have he9 := sym_eq hY_426 q194_s hs3
              rw [lt_eq.2.2.2] at he9
              refine ps_st (S' := (198, [(3, .int (nI (by2 f (hA + 4)))), (0, .ref m0), (2, .int 1)], [.ref m0, .int (nI s460)], M414)) rfl rfl rfl ?_
              refine pr_int (j := 11) (S' := (201, [(3, .int (nI (by2 f (hA + 4)))), (0, .ref m0), (2, .int 1)], [.int (nI s3), .int (nI s460)], M414)) rfl hR416 rfl hi420 rfl ?_
              refine ps_if2 (S1 := (217, [(0, .ref m0), (3, .int (nI (by2 f (hA + 4))))], [], M414)) (S2 := (204, [(0, .ref m0)], [], M414)) rfl rfl rfl (fun c_201 => ?_) (fun c_201 => ?_)
              · have c_201 : (nI s460) = (nI s3) := of_decide_eq_true c_201
                have n_201 : s460 = s3 := (eq_nI (p := s460) (n := s3) (by omega) (by omega)).mp c_201
                refine ps_st (S' := (218, [(0, .ref m0), (3, .int (nI (by2 f (hA + 4))))], [.ref m0], M414)) rfl rfl rfl ?_
                refine ps_st (S' := (219, [(0, .ref m0), (3, .int (nI (by2 f (hA + 4))))], [.ref m0, .ref m0], M414)) rfl rfl rfl ?_
                refine ps_st (S' := (220, [(0, .ref m0), (3, .int (nI (by2 f (hA + 4))))], [.int (nI (by2 f (hA + 4))), .ref m0, .ref m0], M414)) rfl rfl rfl ?_
                refine pl_call (a := [.ref m0, .int (nI (by2 f (hA + 4)))]) (rest := [.ref m0]) rfl rfl rfl (rd_className (n := n) (f := f) (tx := tx) (cN := cN) (A := A) (N := N) (mj := mj) (E := E) (k := (by2 f (hA + 4))) hR416 hi421 hi422 hi423 hF_425 hY_426 hP_427 (hEP) (hN) (hmj) (by omega)) (fun v461 M462 q463 => ?_)
                obtain ⟨s464, q220_s, rfl, rfl⟩ := q463
                show pl _ _ _ (223, [(0, .ref m0), (3, .int (nI (by2 f (hA + 4))))], [.int (nI s464), .ref m0], M414) _
                have hsl_220 := q220_s.1
                have htl_220 := hY_426.1.2.2.1
                refine pr_put (j := 60) rfl hR416 rfl (fun M465 I466 hR467 hi468 hI469 => ?_)
                have hi470 := (hI469 54 (by decide)).trans hi419
                have hi471 := (hI469 11 (by decide)).trans hi420
                have hi472 := (hI469 51 (by decide)).trans hi421
                have hi473 := (hI469 52 (by decide)).trans hi422
                have hi474 := (hI469 53 (by decide)).trans hi423
                have hi475 := (hI469 58 (by decide)).trans hi424
                have hi476 := (hI469 59 (by decide)).trans hi417
                have hF_477 := hF_425.mono (pIx hI469 (by decide)) (fun _ _ => rfl)
                have hY_478 := hY_426.mono (pIx hI469 (by decide)) (fun _ _ => rfl)
                have hP_479 := hP_427.mono (pIx hI469 (by decide)) (fun _ _ => rfl)
                have hEI480 := hEI428.put hI469 (by decide)
                show pl _ _ _ (226, [(0, .ref m0), (3, .int (nI (by2 f (hA + 4))))], [], M465) _
                have hh : hdS f n E hA = none := by
                  have ec := cfl_0 (by2 f hA)
                  have eh := has_0 (by2 f hA) 512
                  unfold hdS
                  first | ((repeat first | rw [if_pos (by omega)] | rw [if_neg (by omega)]) <;> first | rfl | omega) | ((repeat' split) <;> first | rfl | (exfalso; omega) | omega)
                refine ps_st (S' := (227, [(0, .ref m0), (3, .int (nI (by2 f (hA + 4))))], [.ref m0], M465)) rfl rfl rfl ?_
                refine ps_st (S' := (228, [(0, .ref m0), (3, .int (nI (by2 f (hA + 4))))], [.ref m0, .ref m0], M465)) rfl rfl rfl ?_
                refine pr_int (j := 54) (S' := (231, [(0, .ref m0), (3, .int (nI (by2 f (hA + 4))))], [.int (nI hA), .ref m0], M465)) rfl hR467 rfl hi470 rfl ?_
                refine ps_st (S' := (233, [(0, .ref m0), (3, .int (nI (by2 f (hA + 4))))], [.int 6, .int (nI hA), .ref m0], M465)) rfl rfl rfl ?_
                refine ps_st (S' := (234, [(0, .ref m0), (3, .int (nI (by2 f (hA + 4))))], [.int ((nI hA) + 6), .ref m0], M465)) rfl rfl rfl ?_
                rw [nI_add1 (p := hA) (k := 6) (x := 6) rfl (by omega)]
                show pl _ _ _ (_, [(0, .ref m0), (3, .int (nI (by2 f (hA + 4))))], [.int (nI (hA + 6)), .ref m0], M465) _
                refine pl_call (a := [.ref m0, .int (nI (hA + 6))]) (rest := []) rfl rfl rfl (rd_u2 (n := n) (f := f) (p := (hA + 6)) hR467 hF_477 (by omega)) (fun v481 M482 q483 => ?_)
                obtain ⟨rfl, rfl⟩ := q483
                show pl _ _ _ (237, [(0, .ref m0), (3, .int (nI (by2 f (hA + 4))))], [.int (nI (by2 f (hA + 6)))], M465) _
                have hu_234 := by2_lt f (hA + 6)
                refine ps_st (S' := (239, [(4, .int (nI (by2 f (hA + 6)))), (0, .ref m0), (3, .int (nI (by2 f (hA + 4))))], [], M465)) rfl rfl rfl ?_
                refine ps_st (S' := (240, [(4, .int (nI (by2 f (hA + 6)))), (0, .ref m0), (3, .int (nI (by2 f (hA + 4))))], [.int 0], M465)) rfl rfl rfl ?_
                refine ps_st (S' := (242, [(0, .ref m0), (4, .int (nI (by2 f (hA + 6)))), (5, .int 0)], [], M465)) rfl rfl rfl ?_
                exact (LL kf).1 (0) M465 I466 R hR467 hEI480 hER hi470 hi471 hi472 hi473 hi474 hi475 hF_477 hY_478 hP_479 (hh) (by omega) (rfl) (fun j hj => by omega)
              · have c_201 : ¬ ((nI s460) = (nI s3)) := of_decide_eq_false c_201
                have n_201 : ¬ (s460 = s3) := fun h9 => c_201 ((eq_nI (p := s460) (n := s3) (by omega) (by omega)).mpr h9)
                refine ps_st (S' := (205, [(0, .ref m0)], [.ref m0], M414)) rfl rfl rfl ?_
                refine ps_st (S' := (207, [(0, .ref m0)], [.int 17, .ref m0], M414)) rfl rfl rfl ?_
                refine ps_st (S' := (208, [(0, .ref m0)], [.ref m0, .int 17, .ref m0], M414)) rfl rfl rfl ?_
                refine pr_int (j := 54) (S' := (211, [(0, .ref m0)], [.int (nI hA), .int 17, .ref m0], M414)) rfl hR416 rfl hi419 rfl ?_
                refine ps_st (S' := (212, [(0, .ref m0)], [.int 4, .int (nI hA), .int 17, .ref m0], M414)) rfl rfl rfl ?_
                refine ps_st (S' := (213, [(0, .ref m0)], [.int ((nI hA) + 4), .int 17, .ref m0], M414)) rfl rfl rfl ?_
                rw [nI_add1 (p := hA) (k := 4) (x := 4) rfl (by omega)]
                show pl _ _ _ (_, [(0, .ref m0)], [.int (nI (hA + 4)), .int 17, .ref m0], M414) _
                refine pl_call (a := [.ref m0, .int 17, .int (nI (hA + 4))]) (rest := []) rfl rfl rfl (rd_wrong (x1 := 17) (x2 := (nI (hA + 4))) hR416) (fun v484 M485 q486 => ?_)
                obtain ⟨I487, R488, rfl, hR489, hI490, hX491, hi492, hi493⟩ := q486
                have hi494 := (hI490 54 (by decide)).trans hi419
                have hi495 := (hI490 11 (by decide)).trans hi420
                have hi496 := (hI490 51 (by decide)).trans hi421
                have hi497 := (hI490 52 (by decide)).trans hi422
                have hi498 := (hI490 53 (by decide)).trans hi423
                have hi499 := (hI490 58 (by decide)).trans hi424
                have hi500 := (hI490 59 (by decide)).trans hi417
                have hF_501 := hF_425.mono (cIx hI490 (by decide)) (cRx hX491 (by decide))
                have hY_502 := hY_426.mono (cIx hI490 (by decide)) (cRx hX491 (by decide))
                have hP_503 := hP_427.mono (cIx hI490 (by decide)) (cRx hX491 (by decide))
                have hEI504 := hEI428.tr hI490 (by decide)
                have hER505 := hER.tr hX491 (by decide)
                show pl _ _ _ (216, [(0, .ref m0)], [.int 0], M485) _
                exact ps_ret rfl rfl (Or.inr ⟨(17, hA + 4), I487, R488, by
                    have ec := cfl_0 (by2 f hA)
                    have eh := has_0 (by2 f hA) 512
                    unfold ccS
                    rw [show hdS f n E hA = some (17, hA + 4) by unfold hdS; first | ((repeat first | rw [if_pos (by omega)] | rw [if_neg (by omega)]) <;> first | rfl | omega) | ((repeat' split) <;> first | rfl | (exfalso; omega) | omega)], rfl, hR489, hEI504, hER505, hi492, hi493⟩)
          · have c_135 : ¬ (¬ (nI (plnN f n E (by2 f (hA + 2)))) = 0) := of_decide_eq_false c_135
            have n_135 : plnN f n E (by2 f (hA + 2)) = 0 := (eq_nI (p := plnN f n E (by2 f (hA + 2))) (n := 0) (Nat.lt_trans (le1_pln _ _ _ _) (by decide)) (by decide)).mp (Decidable.not_not.mp c_135)
            refine ps_st (S' := (139, [(0, .ref m0), (2, .int 1)], [.ref m0], M82)) rfl rfl rfl ?_
            refine ps_st (S' := (141, [(0, .ref m0), (2, .int 1)], [.int 16, .ref m0], M82)) rfl rfl rfl ?_
            refine ps_st (S' := (142, [(0, .ref m0), (2, .int 1)], [.ref m0, .int 16, .ref m0], M82)) rfl rfl rfl ?_
            refine pr_int (j := 54) (S' := (145, [(0, .ref m0), (2, .int 1)], [.int (nI hA), .int 16, .ref m0], M82)) rfl hR84 rfl hi87 rfl ?_
            refine ps_st (S' := (146, [(0, .ref m0), (2, .int 1)], [.int 2, .int (nI hA), .int 16, .ref m0], M82)) rfl rfl rfl ?_
            refine ps_st (S' := (147, [(0, .ref m0), (2, .int 1)], [.int ((nI hA) + 2), .int 16, .ref m0], M82)) rfl rfl rfl ?_
            rw [nI_add1 (p := hA) (k := 2) (x := 2) rfl (by omega)]
            show pl _ _ _ (_, [(0, .ref m0), (2, .int 1)], [.int (nI (hA + 2)), .int 16, .ref m0], M82) _
            refine pl_call (a := [.ref m0, .int 16, .int (nI (hA + 2))]) (rest := []) rfl rfl rfl (rd_wrong (x1 := 16) (x2 := (nI (hA + 2))) hR84) (fun v506 M507 q508 => ?_)
            obtain ⟨I509, R510, rfl, hR511, hI512, hX513, hi514, hi515⟩ := q508
            have hi516 := (hI512 54 (by decide)).trans hi87
            have hi517 := (hI512 11 (by decide)).trans hi88
            have hi518 := (hI512 51 (by decide)).trans hi89
            have hi519 := (hI512 52 (by decide)).trans hi90
            have hi520 := (hI512 53 (by decide)).trans hi91
            have hi521 := (hI512 58 (by decide)).trans hi85
            have hF_522 := hF_92.mono (cIx hI512 (by decide)) (cRx hX513 (by decide))
            have hY_523 := hY_93.mono (cIx hI512 (by decide)) (cRx hX513 (by decide))
            have hP_524 := hP_94.mono (cIx hI512 (by decide)) (cRx hX513 (by decide))
            have hEI525 := hEI95.tr hI512 (by decide)
            have hER526 := hER.tr hX513 (by decide)
            show pl _ _ _ (150, [(0, .ref m0), (2, .int 1)], [.int 0], M507) _
            exact ps_ret rfl rfl (Or.inr ⟨(16, hA + 2), I509, R510, by
                have ec := cfl_0 (by2 f hA)
                have eh := has_0 (by2 f hA) 512
                unfold ccS
                rw [show hdS f n E hA = some (16, hA + 2) by unfold hdS; first | ((repeat first | rw [if_pos (by omega)] | rw [if_neg (by omega)]) <;> first | rfl | omega) | ((repeat' split) <;> first | rfl | (exfalso; omega) | omega)], rfl, hR511, hEI525, hER526, hi514, hi515⟩)
        · have c_53 : ¬ ((nI (aN (by2 f hA) 16432)) = 0) := of_decide_eq_false c_53
          have n_53 : ¬ (aN (by2 f hA) 16432 = 0) := fun h9 => c_53 ((eq_nI (p := aN (by2 f hA) 16432) (n := 0) (Nat.lt_of_le_of_lt (an_le _ _) (by decide)) (by decide)).mpr h9)
          refine ps_st (S' := (82, [(0, .ref m0), (1, .int (nI (by2 f hA))), (2, .int 1)], [], M82)) rfl rfl rfl ?_
          refine ps_st (S' := (83, [(0, .ref m0), (1, .int (nI (by2 f hA))), (2, .int 1)], [.int 1], M82)) rfl rfl rfl ?_
          refine ps_if (S1 := (110, [(0, .ref m0)], [], M82)) (S2 := (86, [(0, .ref m0), (1, .int (nI (by2 f hA))), (2, .int 1)], [], M82)) rfl rfl rfl (fun c_83 => ?_) (fun c_83 => ?_)
          · exact absurd (of_decide_eq_true c_83) (by decide)
          refine ps_st (S' := (87, [(0, .ref m0), (1, .int (nI (by2 f hA))), (2, .int 1)], [.int (nI (by2 f hA))], M82)) rfl rfl rfl ?_
          refine ps_st (S' := (90, [(0, .ref m0), (1, .int (nI (by2 f hA))), (2, .int 1)], [.int 32768, .int (nI (by2 f hA))], M82)) rfl rfl rfl ?_
          refine ps_st (S' := (91, [(0, .ref m0), (1, .int (nI (by2 f hA))), (2, .int 1)], [.int ((nI (by2 f hA)) &&& 32768)], M82)) rfl rfl rfl ?_
          rw [nI_an (p := by2 f hA) (k := 32768) (x := 32768) rfl]
          show pl _ _ _ (_, [(0, .ref m0), (1, .int (nI (by2 f hA))), (2, .int 1)], [.int (nI (aN (by2 f hA) 32768))], M82) _
          refine ps_if (S1 := (110, [(0, .ref m0)], [], M82)) (S2 := (94, [(0, .ref m0), (1, .int (nI (by2 f hA))), (2, .int 1)], [], M82)) rfl rfl rfl (fun c_91 => ?_) (fun c_91 => ?_)
          · exact absurd (of_decide_eq_true c_91) (fun h9 => h9 ((eq_nI (p := aN (by2 f hA) 32768) (n := 0) (Nat.lt_of_le_of_lt (an_le _ _) (by decide)) (by decide)).mpr (by omega)))
          refine ps_st (S' := (95, [(0, .ref m0), (1, .int (nI (by2 f hA))), (2, .int 1)], [.int (nI (by2 f hA))], M82)) rfl rfl rfl ?_
          refine ps_st (S' := (98, [(0, .ref m0), (1, .int (nI (by2 f hA))), (2, .int 1)], [.int 1024, .int (nI (by2 f hA))], M82)) rfl rfl rfl ?_
          refine ps_st (S' := (99, [(0, .ref m0), (1, .int (nI (by2 f hA))), (2, .int 1)], [.int ((nI (by2 f hA)) &&& 1024)], M82)) rfl rfl rfl ?_
          rw [nI_an (p := by2 f hA) (k := 1024) (x := 1024) rfl]
          show pl _ _ _ (_, [(0, .ref m0), (1, .int (nI (by2 f hA))), (2, .int 1)], [.int (nI (aN (by2 f hA) 1024))], M82) _
          refine ps_if (S1 := (110, [(0, .ref m0)], [], M82)) (S2 := (102, [(0, .ref m0), (1, .int (nI (by2 f hA))), (2, .int 1)], [], M82)) rfl rfl rfl (fun c_99 => ?_) (fun c_99 => ?_)
          · exact absurd (of_decide_eq_true c_99) (show ¬ ((nI (aN (by2 f hA) 1024)) = 0) from fun h9 => absurd ((eq_nI (p := aN (by2 f hA) 1024) (n := 0) (Nat.lt_of_le_of_lt (an_le _ _) (by decide)) (by decide)).mp h9) (by omega))
          refine ps_st (S' := (103, [(0, .ref m0), (1, .int (nI (by2 f hA))), (2, .int 1)], [.int (nI (by2 f hA))], M82)) rfl rfl rfl ?_
          refine ps_st (S' := (106, [(0, .ref m0), (1, .int (nI (by2 f hA))), (2, .int 1)], [.int 16400, .int (nI (by2 f hA))], M82)) rfl rfl rfl ?_
          refine ps_st (S' := (107, [(0, .ref m0), (1, .int (nI (by2 f hA))), (2, .int 1)], [.int ((nI (by2 f hA)) &&& 16400)], M82)) rfl rfl rfl ?_
          rw [nI_an (p := by2 f hA) (k := 16400) (x := 16400) rfl]
          show pl _ _ _ (_, [(0, .ref m0), (1, .int (nI (by2 f hA))), (2, .int 1)], [.int (nI (aN (by2 f hA) 16400))], M82) _
          refine ps_if (S1 := (110, [(0, .ref m0)], [], M82)) (S2 := (110, [(0, .ref m0)], [], M82)) rfl rfl rfl (fun c_107 => ?_) (fun c_107 => ?_)
          · have c_107 : ¬ (nI (aN (by2 f hA) 16400)) = 0 := of_decide_eq_true c_107
            have n_107 : ¬ (aN (by2 f hA) 16400 = 0) := fun h9 => c_107 ((eq_nI (p := aN (by2 f hA) 16400) (n := 0) (Nat.lt_of_le_of_lt (an_le _ _) (by decide)) (by decide)).mpr h9)
            refine ps_st (S' := (111, [(0, .ref m0)], [.ref m0], M82)) rfl rfl rfl ?_
            refine ps_st (S' := (113, [(0, .ref m0)], [.int 15, .ref m0], M82)) rfl rfl rfl ?_
            refine ps_st (S' := (114, [(0, .ref m0)], [.ref m0, .int 15, .ref m0], M82)) rfl rfl rfl ?_
            refine pr_int (j := 54) (S' := (117, [(0, .ref m0)], [.int (nI hA), .int 15, .ref m0], M82)) rfl hR84 rfl hi87 rfl ?_
            refine pl_call (a := [.ref m0, .int 15, .int (nI hA)]) (rest := []) rfl rfl rfl (rd_wrong (x1 := 15) (x2 := (nI hA)) hR84) (fun v527 M528 q529 => ?_)
            obtain ⟨I530, R531, rfl, hR532, hI533, hX534, hi535, hi536⟩ := q529
            have hi537 := (hI533 54 (by decide)).trans hi87
            have hi538 := (hI533 11 (by decide)).trans hi88
            have hi539 := (hI533 51 (by decide)).trans hi89
            have hi540 := (hI533 52 (by decide)).trans hi90
            have hi541 := (hI533 53 (by decide)).trans hi91
            have hi542 := (hI533 58 (by decide)).trans hi85
            have hF_543 := hF_92.mono (cIx hI533 (by decide)) (cRx hX534 (by decide))
            have hY_544 := hY_93.mono (cIx hI533 (by decide)) (cRx hX534 (by decide))
            have hP_545 := hP_94.mono (cIx hI533 (by decide)) (cRx hX534 (by decide))
            have hEI546 := hEI95.tr hI533 (by decide)
            have hER547 := hER.tr hX534 (by decide)
            show pl _ _ _ (120, [(0, .ref m0)], [.int 0], M528) _
            exact ps_ret rfl rfl (Or.inr ⟨(15, hA), I530, R531, by
                have ec := cfl_0 (by2 f hA)
                have eh := has_0 (by2 f hA) 512
                unfold ccS
                rw [show hdS f n E hA = some (15, hA) by unfold hdS; first | ((repeat first | rw [if_pos (by omega)] | rw [if_neg (by omega)]) <;> first | rfl | omega) | ((repeat' split) <;> first | rfl | (exfalso; omega) | omega)], rfl, hR532, hEI546, hER547, hi535, hi536⟩)
          · have c_107 : ¬ (¬ (nI (aN (by2 f hA) 16400)) = 0) := of_decide_eq_false c_107
            have n_107 : aN (by2 f hA) 16400 = 0 := (eq_nI (p := aN (by2 f hA) 16400) (n := 0) (Nat.lt_of_le_of_lt (an_le _ _) (by decide)) (by decide)).mp (Decidable.not_not.mp c_107)
            refine ps_st (S' := (111, [(0, .ref m0)], [.ref m0], M82)) rfl rfl rfl ?_
            refine ps_st (S' := (113, [(0, .ref m0)], [.int 15, .ref m0], M82)) rfl rfl rfl ?_
            refine ps_st (S' := (114, [(0, .ref m0)], [.ref m0, .int 15, .ref m0], M82)) rfl rfl rfl ?_
            refine pr_int (j := 54) (S' := (117, [(0, .ref m0)], [.int (nI hA), .int 15, .ref m0], M82)) rfl hR84 rfl hi87 rfl ?_
            refine pl_call (a := [.ref m0, .int 15, .int (nI hA)]) (rest := []) rfl rfl rfl (rd_wrong (x1 := 15) (x2 := (nI hA)) hR84) (fun v548 M549 q550 => ?_)
            obtain ⟨I551, R552, rfl, hR553, hI554, hX555, hi556, hi557⟩ := q550
            have hi558 := (hI554 54 (by decide)).trans hi87
            have hi559 := (hI554 11 (by decide)).trans hi88
            have hi560 := (hI554 51 (by decide)).trans hi89
            have hi561 := (hI554 52 (by decide)).trans hi90
            have hi562 := (hI554 53 (by decide)).trans hi91
            have hi563 := (hI554 58 (by decide)).trans hi85
            have hF_564 := hF_92.mono (cIx hI554 (by decide)) (cRx hX555 (by decide))
            have hY_565 := hY_93.mono (cIx hI554 (by decide)) (cRx hX555 (by decide))
            have hP_566 := hP_94.mono (cIx hI554 (by decide)) (cRx hX555 (by decide))
            have hEI567 := hEI95.tr hI554 (by decide)
            have hER568 := hER.tr hX555 (by decide)
            show pl _ _ _ (120, [(0, .ref m0)], [.int 0], M549) _
            exact ps_ret rfl rfl (Or.inr ⟨(15, hA), I551, R552, by
                have ec := cfl_0 (by2 f hA)
                have eh := has_0 (by2 f hA) 512
                unfold ccS
                rw [show hdS f n E hA = some (15, hA) by unfold hdS; first | ((repeat first | rw [if_pos (by omega)] | rw [if_neg (by omega)]) <;> first | rfl | omega) | ((repeat' split) <;> first | rfl | (exfalso; omega) | omega)], rfl, hR553, hEI567, hER568, hi556, hi557⟩)
