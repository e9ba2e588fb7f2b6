/-! flags (my own text) -/
section FLA
theorem an_pow (x i : Nat) : aN x (2 ^ i) = 0 ∨ aN x (2 ^ i) = 2 ^ i := by
  unfold aN
  cases h : x.testBit i with
  | false =>
    left
    apply Nat.eq_of_testBit_eq
    intro j
    rw [Nat.testBit_and, Nat.testBit_two_pow]
    by_cases e : i = j
    · subst e
      simp [h]
    · simp [e]
  | true =>
    right
    apply Nat.eq_of_testBit_eq
    intro j
    rw [Nat.testBit_and, Nat.testBit_two_pow]
    by_cases e : i = j
    · subst e
      simp [h]
    · simp [e]
theorem an_or (x a b : Nat) : aN x (a ||| b) = aN x a ||| aN x b := Nat.and_or_distrib_left x a b
theorem an_an (x a b : Nat) : aN (aN x a) b = aN x (a &&& b) := Nat.and_assoc x a b
theorem hall_1040 (x : Nat) : hallN x 1040 = 0 ↔ ¬ (¬ aN x 16 = 0 ∧ ¬ aN x 1024 = 0) := by
  have h1 : aN x 16 = 0 ∨ aN x 16 = 16 := an_pow x 4
  have h2 : aN x 1024 = 0 ∨ aN x 1024 = 1024 := an_pow x 10
  have h3 : aN x 1040 = aN x 16 ||| aN x 1024 := an_or x 16 1024
  unfold hallN
  rw [h3]
  rcases h1 with h1 | h1 <;> rcases h2 with h2 | h2 <;> rw [h1, h2] <;> decide
theorem hall_80 (x : Nat) : hallN x 80 = 0 ↔ ¬ (¬ aN x 16 = 0 ∧ ¬ aN x 64 = 0) := by
  have h1 : aN x 16 = 0 ∨ aN x 16 = 16 := an_pow x 4
  have h2 : aN x 64 = 0 ∨ aN x 64 = 64 := an_pow x 6
  have h3 : aN x 80 = aN x 16 ||| aN x 64 := an_or x 16 64
  unfold hallN
  rw [h3]
  rcases h1 with h1 | h1 <;> rcases h2 with h2 | h2 <;> rw [h1, h2] <;> decide
theorem hall_1025 (x : Nat) : hallN x 1025 = 0 ↔ ¬ (¬ aN x 1 = 0 ∧ ¬ aN x 1024 = 0) := by
  have h1 : aN x 1 = 0 ∨ aN x 1 = 1 := an_pow x 0
  have h2 : aN x 1024 = 0 ∨ aN x 1024 = 1024 := an_pow x 10
  have h3 : aN x 1025 = aN x 1 ||| aN x 1024 := an_or x 1 1024
  unfold hallN
  rw [h3]
  rcases h1 with h1 | h1 <;> rcases h2 with h2 | h2 <;> rw [h1, h2] <;> decide
theorem one_7 (x : Nat) : oneN x = 0 ↔ (¬ aN x 1 = 0 ∧ ¬ aN x 2 = 0) ∨ (¬ aN x 1 = 0 ∧ ¬ aN x 4 = 0) ∨ (¬ aN x 2 = 0 ∧ ¬ aN x 4 = 0) := by
  have h1 : aN x 1 = 0 ∨ aN x 1 = 1 := an_pow x 0
  have h2 : aN x 2 = 0 ∨ aN x 2 = 2 := an_pow x 1
  have h4 : aN x 4 = 0 ∨ aN x 4 = 4 := an_pow x 2
  have h3 : aN x 7 = (aN x 1 ||| aN x 2) ||| aN x 4 := by
    rw [← an_or, ← an_or]
    rfl
  unfold oneN
  rw [h3]
  rcases h1 with h1 | h1 <;> rcases h2 with h2 | h2 <;> rcases h4 with h4 | h4 <;> rw [h1, h2, h4] <;> decide
theorem has_0 (x w : Nat) : hasN x w = 0 ↔ aN x w = 0 := by
  unfold hasN
  split <;> omega
theorem ffl_25 (x : Nat) (h : aN x 16607 = 25) : ¬ oneN x = 0 ∧ hallN x 80 = 0 := by
  have e1 : aN (aN x 16607) 1 = aN x 1 := an_an x 16607 1
  have e2 : aN (aN x 16607) 2 = aN x 2 := an_an x 16607 2
  have e4 : aN (aN x 16607) 4 = aN x 4 := an_an x 16607 4
  have e6 : aN (aN x 16607) 64 = aN x 64 := an_an x 16607 64
  rw [h] at e1 e2 e4 e6
  rw [one_7, hall_80, ← e1, ← e2, ← e4, ← e6]
  exact ⟨by decide, fun h9 => h9.2 (by decide)⟩
def sevN (x : Nat) : Nat := if oneN x = 0 then 1 else 0
theorem le1_sev (x : Nat) : sevN x < 2 := by unfold sevN; split <;> decide
theorem sev_0 (x : Nat) : sevN x = 0 ↔ ¬ oneN x = 0 := by
  unfold sevN
  split <;> omega
theorem cfl_0 (x : Nat) : cflN x = 0 ↔ (¬ aN x 32768 = 0 ∨ (¬ aN x 512 = 0 ∧ (aN x 1024 = 0 ∨ ¬ aN x 16432 = 0)) ∨ (aN x 512 = 0 ∧ (¬ aN x 8192 = 0 ∨ (¬ aN x 16 = 0 ∧ ¬ aN x 1024 = 0)))) := by
  have h := hall_1040 x
  unfold cflN
  repeat' split
  all_goals omega
/-- whether a method's flags fit, its name being neither <clinit> -/
def fitN (mj c x i : Nat) : Nat := if ¬ i = 0 then (if ¬ oneN x = 0 ∧ hasN x 1400 = 0 then 1 else 0) else
  if ¬ hasN x 1024 = 0 ∧ absN mj x = 0 then 0 else if ¬ hasN c 512 = 0 then imhN mj x else oneN x
theorem abs_0 (mj x : Nat) : absN mj x = 0 ↔ (¬ aN x 314 = 0 ∨ (46 ≤ mj ∧ mj ≤ 60 ∧ ¬ aN x 2048 = 0)) := by
  have h1 := has_0 x 314
  have h2 := has_0 x 2048
  unfold absN
  repeat' split
  all_goals omega
theorem imh_0 (mj x : Nat) : imhN mj x = 0 ↔ (¬ aN x 308 = 0 ∨ (mj < 52 ∧ (aN x 1 = 0 ∨ aN x 1024 = 0 ∨ ¬ aN x 8 = 0)) ∨ (52 ≤ mj ∧ (aN x 1 = 0 ↔ aN x 2 = 0))) := by
  have h1 := has_0 x 308
  have h2 := has_0 x 8
  have h3 := has_0 x 1
  have h4 := has_0 x 2
  have b3 := le1_has x 1
  have b4 := le1_has x 2
  have h5 := hall_1025 x
  unfold imhN
  repeat' split
  all_goals omega
end FLA

theorem le1_fit (mj c x i : Nat) : fitN mj c x i < 2 := by
  have h1 := le1_imh mj x
  have h2 := le1_one x
  unfold fitN
  repeat' split
  all_goals omega
section FLB
variable {f : Nat → Int32} {n : Nat} {E : List (Nat × Nat)} {k m : Nat}
/-- head and interfaces -/
def ccS (f : Nat → Int32) (n : Nat) (E : List (Nat × Nat)) (h : Nat) : Option (Nat × Nat) := match hdS f n E h with
  | some e => some e
  | none => ifS f n E (h + 8) (by2 f (h + 6)) 0
theorem pln_in (h : ¬ plnN f n E k = 0) : tg f E k = 7 ∧ ¬ (tX f n E (fi f E k)).getD 0 0 = 91 := by
  unfold plnN at h
  split at h
  · assumption
  · exact absurd rfl h
theorem sm_sym {tx : List (List Nat)} {cN : Nat} {A : Nat → Nat} {I : rI} {R : rR} {s t : Nat} (h : SYT tx cN A I R) (hs : s < tx.length ∧ tx.getD s [] = tX f n E k) (ht : t < tx.length ∧ tx.getD t [] = tX f n E m) (hk : tg f E k = 1) (hm : tg f E m = 1) : s = t ↔ ¬ smN f n E k m = 0 := by
  rw [sym_eq h hs ht]
  unfold eqN smN
  by_cases e : tX f n E k = tX f n E m
  · rw [if_pos e, if_pos (Or.inr ⟨hk, hm, e⟩)]
  · rw [if_neg e, if_neg]
    rintro (h9 | h9)
    · exact e (by rw [h9])
    · exact e h9.2.2
end FLB
set_option maxHeartbeats 1000000 in
theorem rd_several {g : xe_G} {M : mi_H} {x : Nat}    : pt (mT g) 242 [.int (nI x), .int 1, .int 2, .int 4] M (fun v M' => (v = some (.int (nI (sevN x))) ∧ M = M')) := by
  refine pt_in (b := mb_242 g) rfl (fun kf => ?_)
  show pl (mT g) kf (mb_242 g).2 (0, [(0, .int (nI x)), (1, .int 1), (2, .int 2), (3, .int 4)], [], M) _
  refine ps_st (S' := (1, [(0, .int (nI x)), (1, .int 1), (2, .int 2), (3, .int 4)], [.int (nI x)], M)) rfl rfl rfl ?_
  refine ps_st (S' := (2, [(0, .int (nI x)), (1, .int 1), (2, .int 2), (3, .int 4)], [.int 1, .int (nI x)], M)) rfl rfl rfl ?_
  refine ps_st (S' := (3, [(0, .int (nI x)), (1, .int 1), (2, .int 2), (3, .int 4)], [.int ((nI x) &&& 1)], M)) rfl rfl rfl ?_
  rw [nI_an (p := x) (k := 1) (x := 1) rfl]
  show pl _ _ _ (_, [(0, .int (nI x)), (1, .int 1), (2, .int 2), (3, .int 4)], [.int (nI (aN x 1))], M) _
  refine ps_if (S1 := (10, [(0, .int (nI x)), (1, .int 1), (2, .int 2), (3, .int 4)], [], M)) (S2 := (6, [(0, .int (nI x)), (1, .int 1), (2, .int 2), (3, .int 4)], [], M)) rfl rfl rfl (fun c_3 => ?_) (fun c_3 => ?_)
  · have c_3 : (nI (aN x 1)) = 0 := of_decide_eq_true c_3
    have n_3 : aN x 1 = 0 := (eq_nI (p := aN x 1) (n := 0) (Nat.lt_of_le_of_lt (an_le _ _) (by decide)) (by decide)).mp c_3
    refine ps_st (S' := (11, [(0, .int (nI x)), (2, .int 2), (3, .int 4)], [.int 0], M)) rfl rfl rfl ?_
    refine ps_st (S' := (12, [(0, .int (nI x)), (2, .int 2), (3, .int 4)], [.int (nI x), .int 0], M)) rfl rfl rfl ?_
    refine ps_st (S' := (13, [(0, .int (nI x)), (2, .int 2), (3, .int 4)], [.int 2, .int (nI x), .int 0], M)) rfl rfl rfl ?_
    refine ps_st (S' := (14, [(0, .int (nI x)), (2, .int 2), (3, .int 4)], [.int ((nI x) &&& 2), .int 0], M)) rfl rfl rfl ?_
    rw [nI_an (p := x) (k := 2) (x := 2) rfl]
    show pl _ _ _ (_, [(0, .int (nI x)), (2, .int 2), (3, .int 4)], [.int (nI (aN x 2)), .int 0], M) _
    refine ps_if (S1 := (21, [(0, .int (nI x)), (2, .int 2), (3, .int 4)], [.int 0], M)) (S2 := (17, [(0, .int (nI x)), (2, .int 2), (3, .int 4)], [.int 0], M)) rfl rfl rfl (fun c_14 => ?_) (fun c_14 => ?_)
    · have c_14 : (nI (aN x 2)) = 0 := of_decide_eq_true c_14
      have n_14 : aN x 2 = 0 := (eq_nI (p := aN x 2) (n := 0) (Nat.lt_of_le_of_lt (an_le _ _) (by decide)) (by decide)).mp c_14
      refine ps_st (S' := (22, [(0, .int (nI x)), (3, .int 4)], [.int 0, .int 0], M)) rfl rfl rfl ?_
      refine ps_st (S' := (23, [(0, .int (nI x)), (3, .int 4)], [.int (0 + 0)], M)) rfl rfl rfl ?_
      refine ps_st (S' := (24, [(0, .int (nI x)), (3, .int 4)], [.int (nI x), .int (0 + 0)], M)) rfl rfl rfl ?_
      refine ps_st (S' := (25, [(0, .int (nI x)), (3, .int 4)], [.int 4, .int (nI x), .int (0 + 0)], M)) rfl rfl rfl ?_
      refine ps_st (S' := (26, [(0, .int (nI x)), (3, .int 4)], [.int ((nI x) &&& 4), .int (0 + 0)], M)) rfl rfl rfl ?_
      rw [nI_an (p := x) (k := 4) (x := 4) rfl]
      show pl _ _ _ (_, [(0, .int (nI x)), (3, .int 4)], [.int (nI (aN x 4)), .int (0 + 0)], M) _
      refine ps_if (S1 := (33, [(0, .int (nI x)), (3, .int 4)], [.int (0 + 0)], M)) (S2 := (29, [(0, .int (nI x)), (3, .int 4)], [.int (0 + 0)], M)) rfl rfl rfl (fun c_26 => ?_) (fun c_26 => ?_)
      · have c_26 : (nI (aN x 4)) = 0 := of_decide_eq_true c_26
        have n_26 : aN x 4 = 0 := (eq_nI (p := aN x 4) (n := 0) (Nat.lt_of_le_of_lt (an_le _ _) (by decide)) (by decide)).mp c_26
        refine ps_st (S' := (34, [], [.int 0, .int (0 + 0)], M)) rfl rfl rfl ?_
        refine ps_st (S' := (35, [], [.int ((0 + 0) + 0)], M)) rfl rfl rfl ?_
        refine ps_st (S' := (36, [], [.int 1, .int ((0 + 0) + 0)], M)) rfl rfl rfl ?_
        refine ps_if2 (S1 := (43, [], [], M)) (S2 := (39, [], [], M)) rfl rfl rfl (fun c_36 => ?_) (fun c_36 => ?_)
        · have c_36 : ((0 + 0) + 0) ≤ 1 := of_decide_eq_true c_36
          refine ps_st (S' := (44, [], [.int 0], M)) rfl rfl rfl ?_
          exact ps_ret rfl rfl (⟨congrArg (fun x => some (Value.int (nI x))) (show 0 = sevN x from by
              have e1 := one_7 x
              have e2 := sev_0 x
              have e3 := le1_sev x
              omega), rfl⟩)
        · have c_36 : ¬ (((0 + 0) + 0) ≤ 1) := of_decide_eq_false c_36
          refine ps_st (S' := (40, [], [.int 1], M)) rfl rfl rfl ?_
          refine ps_st (S' := (44, [], [.int 1], M)) rfl rfl rfl ?_
          exact ps_ret rfl rfl (⟨congrArg (fun x => some (Value.int (nI x))) (show 1 = sevN x from by
              have e1 := one_7 x
              have e2 := sev_0 x
              have e3 := le1_sev x
              omega), rfl⟩)
      · have c_26 : ¬ ((nI (aN x 4)) = 0) := of_decide_eq_false c_26
        have n_26 : ¬ (aN x 4 = 0) := fun h9 => c_26 ((eq_nI (p := aN x 4) (n := 0) (Nat.lt_of_le_of_lt (an_le _ _) (by decide)) (by decide)).mpr h9)
        refine ps_st (S' := (30, [(0, .int (nI x)), (3, .int 4)], [.int 1, .int (0 + 0)], M)) rfl rfl rfl ?_
        refine ps_st (S' := (34, [], [.int 1, .int (0 + 0)], M)) rfl rfl rfl ?_
        refine ps_st (S' := (35, [], [.int ((0 + 0) + 1)], M)) rfl rfl rfl ?_
        refine ps_st (S' := (36, [], [.int 1, .int ((0 + 0) + 1)], M)) rfl rfl rfl ?_
        refine ps_if2 (S1 := (43, [], [], M)) (S2 := (39, [], [], M)) rfl rfl rfl (fun c_36 => ?_) (fun c_36 => ?_)
        · have c_36 : ((0 + 0) + 1) ≤ 1 := of_decide_eq_true c_36
          refine ps_st (S' := (44, [], [.int 0], M)) rfl rfl rfl ?_
          exact ps_ret rfl rfl (⟨congrArg (fun x => some (Value.int (nI x))) (show 0 = sevN x from by
              have e1 := one_7 x
              have e2 := sev_0 x
              have e3 := le1_sev x
              omega), rfl⟩)
        · have c_36 : ¬ (((0 + 0) + 1) ≤ 1) := of_decide_eq_false c_36
          refine ps_st (S' := (40, [], [.int 1], M)) rfl rfl rfl ?_
          refine ps_st (S' := (44, [], [.int 1], M)) rfl rfl rfl ?_
          exact ps_ret rfl rfl (⟨congrArg (fun x => some (Value.int (nI x))) (show 1 = sevN x from by
              have e1 := one_7 x
              have e2 := sev_0 x
              have e3 := le1_sev x
              omega), rfl⟩)
    · have c_14 : ¬ ((nI (aN x 2)) = 0) := of_decide_eq_false c_14
      have n_14 : ¬ (aN x 2 = 0) := fun h9 => c_14 ((eq_nI (p := aN x 2) (n := 0) (Nat.lt_of_le_of_lt (an_le _ _) (by decide)) (by decide)).mpr h9)
      refine ps_st (S' := (18, [(0, .int (nI x)), (2, .int 2), (3, .int 4)], [.int 1, .int 0], M)) rfl rfl rfl ?_
      refine ps_st (S' := (22, [(0, .int (nI x)), (3, .int 4)], [.int 1, .int 0], M)) rfl rfl rfl ?_
      refine ps_st (S' := (23, [(0, .int (nI x)), (3, .int 4)], [.int (0 + 1)], M)) rfl rfl rfl ?_
      refine ps_st (S' := (24, [(0, .int (nI x)), (3, .int 4)], [.int (nI x), .int (0 + 1)], M)) rfl rfl rfl ?_
      refine ps_st (S' := (25, [(0, .int (nI x)), (3, .int 4)], [.int 4, .int (nI x), .int (0 + 1)], M)) rfl rfl rfl ?_
      refine ps_st (S' := (26, [(0, .int (nI x)), (3, .int 4)], [.int ((nI x) &&& 4), .int (0 + 1)], M)) rfl rfl rfl ?_
      rw [nI_an (p := x) (k := 4) (x := 4) rfl]
      show pl _ _ _ (_, [(0, .int (nI x)), (3, .int 4)], [.int (nI (aN x 4)), .int (0 + 1)], M) _
      refine ps_if (S1 := (33, [(0, .int (nI x)), (3, .int 4)], [.int (0 + 1)], M)) (S2 := (29, [(0, .int (nI x)), (3, .int 4)], [.int (0 + 1)], M)) rfl rfl rfl (fun c_26 => ?_) (fun c_26 => ?_)
      · have c_26 : (nI (aN x 4)) = 0 := of_decide_eq_true c_26
        have n_26 : aN x 4 = 0 := (eq_nI (p := aN x 4) (n := 0) (Nat.lt_of_le_of_lt (an_le _ _) (by decide)) (by decide)).mp c_26
        refine ps_st (S' := (34, [], [.int 0, .int (0 + 1)], M)) rfl rfl rfl ?_
        refine ps_st (S' := (35, [], [.int ((0 + 1) + 0)], M)) rfl rfl rfl ?_
        refine ps_st (S' := (36, [], [.int 1, .int ((0 + 1) + 0)], M)) rfl rfl rfl ?_
        refine ps_if2 (S1 := (43, [], [], M)) (S2 := (39, [], [], M)) rfl rfl rfl (fun c_36 => ?_) (fun c_36 => ?_)
        · have c_36 : ((0 + 1) + 0) ≤ 1 := of_decide_eq_true c_36
          refine ps_st (S' := (44, [], [.int 0], M)) rfl rfl rfl ?_
          exact ps_ret rfl rfl (⟨congrArg (fun x => some (Value.int (nI x))) (show 0 = sevN x from by
              have e1 := one_7 x
              have e2 := sev_0 x
              have e3 := le1_sev x
              omega), rfl⟩)
        · have c_36 : ¬ (((0 + 1) + 0) ≤ 1) := of_decide_eq_false c_36
          refine ps_st (S' := (40, [], [.int 1], M)) rfl rfl rfl ?_
          refine ps_st (S' := (44, [], [.int 1], M)) rfl rfl rfl ?_
          exact ps_ret rfl rfl (⟨congrArg (fun x => some (Value.int (nI x))) (show 1 = sevN x from by
              have e1 := one_7 x
              have e2 := sev_0 x
              have e3 := le1_sev x
              omega), rfl⟩)
      · have c_26 : ¬ ((nI (aN x 4)) = 0) := of_decide_eq_false c_26
        have n_26 : ¬ (aN x 4 = 0) := fun h9 => c_26 ((eq_nI (p := aN x 4) (n := 0) (Nat.lt_of_le_of_lt (an_le _ _) (by decide)) (by decide)).mpr h9)
        refine ps_st (S' := (30, [(0, .int (nI x)), (3, .int 4)], [.int 1, .int (0 + 1)], M)) rfl rfl rfl ?_
        refine ps_st (S' := (34, [], [.int 1, .int (0 + 1)], M)) rfl rfl rfl ?_
        refine ps_st (S' := (35, [], [.int ((0 + 1) + 1)], M)) rfl rfl rfl ?_
        refine ps_st (S' := (36, [], [.int 1, .int ((0 + 1) + 1)], M)) rfl rfl rfl ?_
        refine ps_if2 (S1 := (43, [], [], M)) (S2 := (39, [], [], M)) rfl rfl rfl (fun c_36 => ?_) (fun c_36 => ?_)
        · have c_36 : ((0 + 1) + 1) ≤ 1 := of_decide_eq_true c_36
          refine ps_st (S' := (44, [], [.int 0], M)) rfl rfl rfl ?_
          exact ps_ret rfl rfl (⟨congrArg (fun x => some (Value.int (nI x))) (show 0 = sevN x from by
              have e1 := one_7 x
              have e2 := sev_0 x
              have e3 := le1_sev x
              omega), rfl⟩)
        · have c_36 : ¬ (((0 + 1) + 1) ≤ 1) := of_decide_eq_false c_36
          refine ps_st (S' := (40, [], [.int 1], M)) rfl rfl rfl ?_
          refine ps_st (S' := (44, [], [.int 1], M)) rfl rfl rfl ?_
          exact ps_ret rfl rfl (⟨congrArg (fun x => some (Value.int (nI x))) (show 1 = sevN x from by
              have e1 := one_7 x
              have e2 := sev_0 x
              have e3 := le1_sev x
              omega), rfl⟩)
  · have c_3 : ¬ ((nI (aN x 1)) = 0) := of_decide_eq_false c_3
    have n_3 : ¬ (aN x 1 = 0) := fun h9 => c_3 ((eq_nI (p := aN x 1) (n := 0) (Nat.lt_of_le_of_lt (an_le _ _) (by decide)) (by decide)).mpr h9)
    refine ps_st (S' := (7, [(0, .int (nI x)), (1, .int 1), (2, .int 2), (3, .int 4)], [.int 1], M)) rfl rfl rfl ?_
    refine ps_st (S' := (11, [(0, .int (nI x)), (2, .int 2), (3, .int 4)], [.int 1], M)) rfl rfl rfl ?_
    refine ps_st (S' := (12, [(0, .int (nI x)), (2, .int 2), (3, .int 4)], [.int (nI x), .int 1], M)) rfl rfl rfl ?_
    refine ps_st (S' := (13, [(0, .int (nI x)), (2, .int 2), (3, .int 4)], [.int 2, .int (nI x), .int 1], M)) rfl rfl rfl ?_
    refine ps_st (S' := (14, [(0, .int (nI x)), (2, .int 2), (3, .int 4)], [.int ((nI x) &&& 2), .int 1], M)) rfl rfl rfl ?_
    rw [nI_an (p := x) (k := 2) (x := 2) rfl]
    show pl _ _ _ (_, [(0, .int (nI x)), (2, .int 2), (3, .int 4)], [.int (nI (aN x 2)), .int 1], M) _
    refine ps_if (S1 := (21, [(0, .int (nI x)), (2, .int 2), (3, .int 4)], [.int 1], M)) (S2 := (17, [(0, .int (nI x)), (2, .int 2), (3, .int 4)], [.int 1], M)) rfl rfl rfl (fun c_14 => ?_) (fun c_14 => ?_)
    · have c_14 : (nI (aN x 2)) = 0 := of_decide_eq_true c_14
      have n_14 : aN x 2 = 0 := (eq_nI (p := aN x 2) (n := 0) (Nat.lt_of_le_of_lt (an_le _ _) (by decide)) (by decide)).mp c_14
      refine ps_st (S' := (22, [(0, .int (nI x)), (3, .int 4)], [.int 0, .int 1], M)) rfl rfl rfl ?_
      refine ps_st (S' := (23, [(0, .int (nI x)), (3, .int 4)], [.int (1 + 0)], M)) rfl rfl rfl ?_
      refine ps_st (S' := (24, [(0, .int (nI x)), (3, .int 4)], [.int (nI x), .int (1 + 0)], M)) rfl rfl rfl ?_
      refine ps_st (S' := (25, [(0, .int (nI x)), (3, .int 4)], [.int 4, .int (nI x), .int (1 + 0)], M)) rfl rfl rfl ?_
      refine ps_st (S' := (26, [(0, .int (nI x)), (3, .int 4)], [.int ((nI x) &&& 4), .int (1 + 0)], M)) rfl rfl rfl ?_
      rw [nI_an (p := x) (k := 4) (x := 4) rfl]
      show pl _ _ _ (_, [(0, .int (nI x)), (3, .int 4)], [.int (nI (aN x 4)), .int (1 + 0)], M) _
      refine ps_if (S1 := (33, [(0, .int (nI x)), (3, .int 4)], [.int (1 + 0)], M)) (S2 := (29, [(0, .int (nI x)), (3, .int 4)], [.int (1 + 0)], M)) rfl rfl rfl (fun c_26 => ?_) (fun c_26 => ?_)
      · have c_26 : (nI (aN x 4)) = 0 := of_decide_eq_true c_26
        have n_26 : aN x 4 = 0 := (eq_nI (p := aN x 4) (n := 0) (Nat.lt_of_le_of_lt (an_le _ _) (by decide)) (by decide)).mp c_26
        refine ps_st (S' := (34, [], [.int 0, .int (1 + 0)], M)) rfl rfl rfl ?_
        refine ps_st (S' := (35, [], [.int ((1 + 0) + 0)], M)) rfl rfl rfl ?_
        refine ps_st (S' := (36, [], [.int 1, .int ((1 + 0) + 0)], M)) rfl rfl rfl ?_
        refine ps_if2 (S1 := (43, [], [], M)) (S2 := (39, [], [], M)) rfl rfl rfl (fun c_36 => ?_) (fun c_36 => ?_)
        · have c_36 : ((1 + 0) + 0) ≤ 1 := of_decide_eq_true c_36
          refine ps_st (S' := (44, [], [.int 0], M)) rfl rfl rfl ?_
          exact ps_ret rfl rfl (⟨congrArg (fun x => some (Value.int (nI x))) (show 0 = sevN x from by
              have e1 := one_7 x
              have e2 := sev_0 x
              have e3 := le1_sev x
              omega), rfl⟩)
        · have c_36 : ¬ (((1 + 0) + 0) ≤ 1) := of_decide_eq_false c_36
          refine ps_st (S' := (40, [], [.int 1], M)) rfl rfl rfl ?_
          refine ps_st (S' := (44, [], [.int 1], M)) rfl rfl rfl ?_
          exact ps_ret rfl rfl (⟨congrArg (fun x => some (Value.int (nI x))) (show 1 = sevN x from by
              have e1 := one_7 x
              have e2 := sev_0 x
              have e3 := le1_sev x
              omega), rfl⟩)
      · have c_26 : ¬ ((nI (aN x 4)) = 0) := of_decide_eq_false c_26
        have n_26 : ¬ (aN x 4 = 0) := fun h9 => c_26 ((eq_nI (p := aN x 4) (n := 0) (Nat.lt_of_le_of_lt (an_le _ _) (by decide)) (by decide)).mpr h9)
        refine ps_st (S' := (30, [(0, .int (nI x)), (3, .int 4)], [.int 1, .int (1 + 0)], M)) rfl rfl rfl ?_
        refine ps_st (S' := (34, [], [.int 1, .int (1 + 0)], M)) rfl rfl rfl ?_
        refine ps_st (S' := (35, [], [.int ((1 + 0) + 1)], M)) rfl rfl rfl ?_
        refine ps_st (S' := (36, [], [.int 1, .int ((1 + 0) + 1)], M)) rfl rfl rfl ?_
        refine ps_if2 (S1 := (43, [], [], M)) (S2 := (39, [], [], M)) rfl rfl rfl (fun c_36 => ?_) (fun c_36 => ?_)
        · have c_36 : ((1 + 0) + 1) ≤ 1 := of_decide_eq_true c_36
          refine ps_st (S' := (44, [], [.int 0], M)) rfl rfl rfl ?_
          exact ps_ret rfl rfl (⟨congrArg (fun x => some (Value.int (nI x))) (show 0 = sevN x from by
              have e1 := one_7 x
              have e2 := sev_0 x
              have e3 := le1_sev x
              omega), rfl⟩)
        · have c_36 : ¬ (((1 + 0) + 1) ≤ 1) := of_decide_eq_false c_36
          refine ps_st (S' := (40, [], [.int 1], M)) rfl rfl rfl ?_
          refine ps_st (S' := (44, [], [.int 1], M)) rfl rfl rfl ?_
          exact ps_ret rfl rfl (⟨congrArg (fun x => some (Value.int (nI x))) (show 1 = sevN x from by
              have e1 := one_7 x
              have e2 := sev_0 x
              have e3 := le1_sev x
              omega), rfl⟩)
    · have c_14 : ¬ ((nI (aN x 2)) = 0) := of_decide_eq_false c_14
      have n_14 : ¬ (aN x 2 = 0) := fun h9 => c_14 ((eq_nI (p := aN x 2) (n := 0) (Nat.lt_of_le_of_lt (an_le _ _) (by decide)) (by decide)).mpr h9)
      refine ps_st (S' := (18, [(0, .int (nI x)), (2, .int 2), (3, .int 4)], [.int 1, .int 1], M)) rfl rfl rfl ?_
      refine ps_st (S' := (22, [(0, .int (nI x)), (3, .int 4)], [.int 1, .int 1], M)) rfl rfl rfl ?_
      refine ps_st (S' := (23, [(0, .int (nI x)), (3, .int 4)], [.int (1 + 1)], M)) rfl rfl rfl ?_
      refine ps_st (S' := (24, [(0, .int (nI x)), (3, .int 4)], [.int (nI x), .int (1 + 1)], M)) rfl rfl rfl ?_
      refine ps_st (S' := (25, [(0, .int (nI x)), (3, .int 4)], [.int 4, .int (nI x), .int (1 + 1)], M)) rfl rfl rfl ?_
      refine ps_st (S' := (26, [(0, .int (nI x)), (3, .int 4)], [.int ((nI x) &&& 4), .int (1 + 1)], M)) rfl rfl rfl ?_
      rw [nI_an (p := x) (k := 4) (x := 4) rfl]
      show pl _ _ _ (_, [(0, .int (nI x)), (3, .int 4)], [.int (nI (aN x 4)), .int (1 + 1)], M) _
      refine ps_if (S1 := (33, [(0, .int (nI x)), (3, .int 4)], [.int (1 + 1)], M)) (S2 := (29, [(0, .int (nI x)), (3, .int 4)], [.int (1 + 1)], M)) rfl rfl rfl (fun c_26 => ?_) (fun c_26 => ?_)
      · have c_26 : (nI (aN x 4)) = 0 := of_decide_eq_true c_26
        have n_26 : aN x 4 = 0 := (eq_nI (p := aN x 4) (n := 0) (Nat.lt_of_le_of_lt (an_le _ _) (by decide)) (by decide)).mp c_26
        refine ps_st (S' := (34, [], [.int 0, .int (1 + 1)], M)) rfl rfl rfl ?_
        refine ps_st (S' := (35, [], [.int ((1 + 1) + 0)], M)) rfl rfl rfl ?_
        refine ps_st (S' := (36, [], [.int 1, .int ((1 + 1) + 0)], M)) rfl rfl rfl ?_
        refine ps_if2 (S1 := (43, [], [], M)) (S2 := (39, [], [], M)) rfl rfl rfl (fun c_36 => ?_) (fun c_36 => ?_)
        · have c_36 : ((1 + 1) + 0) ≤ 1 := of_decide_eq_true c_36
          refine ps_st (S' := (44, [], [.int 0], M)) rfl rfl rfl ?_
          exact ps_ret rfl rfl (⟨congrArg (fun x => some (Value.int (nI x))) (show 0 = sevN x from by
              have e1 := one_7 x
              have e2 := sev_0 x
              have e3 := le1_sev x
              omega), rfl⟩)
        · have c_36 : ¬ (((1 + 1) + 0) ≤ 1) := of_decide_eq_false c_36
          refine ps_st (S' := (40, [], [.int 1], M)) rfl rfl rfl ?_
          refine ps_st (S' := (44, [], [.int 1], M)) rfl rfl rfl ?_
          exact ps_ret rfl rfl (⟨congrArg (fun x => some (Value.int (nI x))) (show 1 = sevN x from by
              have e1 := one_7 x
              have e2 := sev_0 x
              have e3 := le1_sev x
              omega), rfl⟩)
      · have c_26 : ¬ ((nI (aN x 4)) = 0) := of_decide_eq_false c_26
        have n_26 : ¬ (aN x 4 = 0) := fun h9 => c_26 ((eq_nI (p := aN x 4) (n := 0) (Nat.lt_of_le_of_lt (an_le _ _) (by decide)) (by decide)).mpr h9)
        refine ps_st (S' := (30, [(0, .int (nI x)), (3, .int 4)], [.int 1, .int (1 + 1)], M)) rfl rfl rfl ?_
        refine ps_st (S' := (34, [], [.int 1, .int (1 + 1)], M)) rfl rfl rfl ?_
        refine ps_st (S' := (35, [], [.int ((1 + 1) + 1)], M)) rfl rfl rfl ?_
        refine ps_st (S' := (36, [], [.int 1, .int ((1 + 1) + 1)], M)) rfl rfl rfl ?_
        refine ps_if2 (S1 := (43, [], [], M)) (S2 := (39, [], [], M)) rfl rfl rfl (fun c_36 => ?_) (fun c_36 => ?_)
        · have c_36 : ((1 + 1) + 1) ≤ 1 := of_decide_eq_true c_36
          refine ps_st (S' := (44, [], [.int 0], M)) rfl rfl rfl ?_
          exact ps_ret rfl rfl (⟨congrArg (fun x => some (Value.int (nI x))) (show 0 = sevN x from by
              have e1 := one_7 x
              have e2 := sev_0 x
              have e3 := le1_sev x
              omega), rfl⟩)
        · have c_36 : ¬ (((1 + 1) + 1) ≤ 1) := of_decide_eq_false c_36
          refine ps_st (S' := (40, [], [.int 1], M)) rfl rfl rfl ?_
          refine ps_st (S' := (44, [], [.int 1], M)) rfl rfl rfl ?_
          exact ps_ret rfl rfl (⟨congrArg (fun x => some (Value.int (nI x))) (show 1 = sevN x from by
              have e1 := one_7 x
              have e2 := sev_0 x
              have e3 := le1_sev x
              omega), rfl⟩)
set_option maxHeartbeats 8000000 in
theorem rd_fit00 {g : xe_G} {m0 : Nat} {q : Nat → Nat} {z : Nat × Nat} {I : rI} {R : rR} {M : mi_H} {mj x c : Nat} (hR : RS g m0 q z I R M) (hi53 : I 53 = some (nI mj))  (hmj : mj < 65536) (hx : x < 65536) (hc : aN c 512 = 0) : pt (mT g) 209 [.ref m0, .int (nI x), .int 0, .int 0] M (fun v M' => (v = some (.int (nI (fitN mj c x 0))) ∧ M = M')) := by
  refine pt_in (b := mb_209 g) rfl (fun kf => ?_)
  show pl (mT g) kf (mb_209 g).2 (0, [(0, .ref m0), (1, .int (nI x)), (2, .int 0), (3, .int 0)], [], M) _
  refine ps_st (S' := (1, [(0, .ref m0), (1, .int (nI x)), (2, .int 0), (3, .int 0)], [.int 0], M)) rfl rfl rfl ?_
  refine ps_if (S1 := (28, [(0, .ref m0), (1, .int (nI x)), (2, .int 0), (3, .int 0)], [], M)) (S2 := (4, [(0, .ref m0), (1, .int (nI x)), (2, .int 0), (3, .int 0)], [], M)) rfl rfl rfl (fun c_1 => ?_) (fun c_1 => ?_)
  rotate_left
  · exact absurd (by decide) (of_decide_eq_false c_1)
  refine ps_st (S' := (29, [(0, .ref m0), (1, .int (nI x)), (2, .int 0), (3, .int 0)], [.int (nI x)], M)) rfl rfl rfl ?_
  refine ps_st (S' := (32, [(0, .ref m0), (1, .int (nI x)), (2, .int 0), (3, .int 0)], [.int 1024, .int (nI x)], M)) rfl rfl rfl ?_
  refine ps_st (S' := (33, [(0, .ref m0), (1, .int (nI x)), (2, .int 0), (3, .int 0)], [.int ((nI x) &&& 1024)], M)) rfl rfl rfl ?_
  rw [nI_an (p := x) (k := 1024) (x := 1024) rfl]
  show pl _ _ _ (_, [(0, .ref m0), (1, .int (nI x)), (2, .int 0), (3, .int 0)], [.int (nI (aN x 1024))], M) _
  refine ps_if (S1 := (74, [(0, .ref m0), (1, .int (nI x)), (3, .int 0)], [], M)) (S2 := (36, [(0, .ref m0), (1, .int (nI x)), (2, .int 0), (3, .int 0)], [], M)) rfl rfl rfl (fun c_33 => ?_) (fun c_33 => ?_)
  · have c_33 : (nI (aN x 1024)) = 0 := of_decide_eq_true c_33
    have n_33 : aN x 1024 = 0 := (eq_nI (p := aN x 1024) (n := 0) (Nat.lt_of_le_of_lt (an_le _ _) (by decide)) (by decide)).mp c_33
    refine ps_st (S' := (75, [(0, .ref m0), (1, .int (nI x)), (3, .int 0)], [.int 0], M)) rfl rfl rfl ?_
    refine ps_st (S' := (77, [(4, .int 0), (0, .ref m0), (1, .int (nI x)), (3, .int 0)], [], M)) rfl rfl rfl ?_
    refine ps_st (S' := (78, [(4, .int 0), (0, .ref m0), (1, .int (nI x)), (3, .int 0)], [.int 0], M)) rfl rfl rfl ?_
    refine ps_if (S1 := (102, [(4, .int 0), (0, .ref m0), (1, .int (nI x)), (3, .int 0)], [], M)) (S2 := (81, [(4, .int 0), (0, .ref m0), (1, .int (nI x)), (3, .int 0)], [], M)) rfl rfl rfl (fun c_78 => ?_) (fun c_78 => ?_)
    · exact absurd (of_decide_eq_true c_78) (by decide)
    refine ps_st (S' := (82, [(4, .int 0), (0, .ref m0), (1, .int (nI x)), (3, .int 0)], [.int (nI x)], M)) rfl rfl rfl ?_
    refine ps_st (S' := (83, [(4, .int 0), (0, .ref m0), (1, .int (nI x)), (3, .int 0)], [.int 1, .int (nI x)], M)) rfl rfl rfl ?_
    refine ps_st (S' := (84, [(4, .int 0), (0, .ref m0), (1, .int (nI x)), (3, .int 0)], [.int 2, .int 1, .int (nI x)], M)) rfl rfl rfl ?_
    refine ps_st (S' := (85, [(4, .int 0), (0, .ref m0), (1, .int (nI x)), (3, .int 0)], [.int 4, .int 2, .int 1, .int (nI x)], M)) rfl rfl rfl ?_
    refine pl_call (a := [.int (nI x), .int 1, .int 2, .int 4]) (rest := []) rfl rfl rfl (rd_several (x := x)) (fun v1 M2 q3 => ?_)
    obtain ⟨rfl, rfl⟩ := q3
    show pl _ _ _ (88, [(4, .int 0), (0, .ref m0), (1, .int (nI x)), (3, .int 0)], [.int (nI (sevN x))], M) _
    refine ps_if (S1 := (100, [], [], M)) (S2 := (91, [(4, .int 0), (0, .ref m0), (1, .int (nI x)), (3, .int 0)], [], M)) rfl rfl rfl (fun c_88 => ?_) (fun c_88 => ?_)
    · have c_88 : ¬ (nI (sevN x)) = 0 := of_decide_eq_true c_88
      have n_88 : ¬ (sevN x = 0) := fun h9 => c_88 ((eq_nI (p := sevN x) (n := 0) (Nat.lt_trans (le1_sev _) (by decide)) (by decide)).mpr h9)
      refine ps_st (S' := (101, [], [.int 0], M)) rfl rfl rfl ?_
      exact ps_ret rfl rfl (⟨congrArg (fun x => some (Value.int (nI x))) (show 0 = fitN mj c x 0 from by
          have e3 := has_0 x 1400
          have e4 := has_0 x 1024
          have e5 := has_0 c 512
          have e2 := sev_0 x
          have b1 := le1_one x
          unfold fitN
          first | ((repeat first | rw [if_pos (by omega)] | rw [if_neg (by omega)]) <;> first | rfl | omega) | ((repeat' split) <;> first | rfl | (exfalso; omega) | omega)), rfl⟩)
    · have c_88 : ¬ (¬ (nI (sevN x)) = 0) := of_decide_eq_false c_88
      have n_88 : sevN x = 0 := (eq_nI (p := sevN x) (n := 0) (Nat.lt_trans (le1_sev _) (by decide)) (by decide)).mp (Decidable.not_not.mp c_88)
      refine ps_st (S' := (93, [(4, .int 0), (0, .ref m0), (1, .int (nI x)), (3, .int 0)], [.int 0], M)) rfl rfl rfl ?_
      refine ps_if (S1 := (100, [], [], M)) (S2 := (96, [(4, .int 0), (0, .ref m0), (1, .int (nI x)), (3, .int 0)], [], M)) rfl rfl rfl (fun c_93 => ?_) (fun c_93 => ?_)
      · exact absurd (of_decide_eq_true c_93) (by decide)
      refine ps_st (S' := (97, [(4, .int 0), (0, .ref m0), (1, .int (nI x)), (3, .int 0)], [.int 1], M)) rfl rfl rfl ?_
      refine ps_st (S' := (101, [], [.int 1], M)) rfl rfl rfl ?_
      exact ps_ret rfl rfl (⟨congrArg (fun x => some (Value.int (nI x))) (show 1 = fitN mj c x 0 from by
          have e3 := has_0 x 1400
          have e4 := has_0 x 1024
          have e5 := has_0 c 512
          have e2 := sev_0 x
          have b1 := le1_one x
          unfold fitN
          first | ((repeat first | rw [if_pos (by omega)] | rw [if_neg (by omega)]) <;> first | rfl | omega) | ((repeat' split) <;> first | rfl | (exfalso; omega) | omega)), rfl⟩)
  · have c_33 : ¬ ((nI (aN x 1024)) = 0) := of_decide_eq_false c_33
    have n_33 : ¬ (aN x 1024 = 0) := fun h9 => c_33 ((eq_nI (p := aN x 1024) (n := 0) (Nat.lt_of_le_of_lt (an_le _ _) (by decide)) (by decide)).mpr h9)
    refine ps_st (S' := (37, [(0, .ref m0), (1, .int (nI x)), (2, .int 0), (3, .int 0)], [.int (nI x)], M)) rfl rfl rfl ?_
    refine ps_st (S' := (40, [(0, .ref m0), (1, .int (nI x)), (2, .int 0), (3, .int 0)], [.int 314, .int (nI x)], M)) rfl rfl rfl ?_
    refine ps_st (S' := (41, [(0, .ref m0), (1, .int (nI x)), (2, .int 0), (3, .int 0)], [.int ((nI x) &&& 314)], M)) rfl rfl rfl ?_
    rw [nI_an (p := x) (k := 314) (x := 314) rfl]
    show pl _ _ _ (_, [(0, .ref m0), (1, .int (nI x)), (2, .int 0), (3, .int 0)], [.int (nI (aN x 314))], M) _
    refine ps_if (S1 := (70, [(0, .ref m0), (1, .int (nI x)), (3, .int 0)], [], M)) (S2 := (44, [(0, .ref m0), (1, .int (nI x)), (2, .int 0), (3, .int 0)], [], M)) rfl rfl rfl (fun c_41 => ?_) (fun c_41 => ?_)
    · have c_41 : ¬ (nI (aN x 314)) = 0 := of_decide_eq_true c_41
      have n_41 : ¬ (aN x 314 = 0) := fun h9 => c_41 ((eq_nI (p := aN x 314) (n := 0) (Nat.lt_of_le_of_lt (an_le _ _) (by decide)) (by decide)).mpr h9)
      refine ps_st (S' := (71, [(0, .ref m0), (1, .int (nI x)), (3, .int 0)], [.int 1], M)) rfl rfl rfl ?_
      refine ps_st (S' := (75, [(0, .ref m0), (1, .int (nI x)), (3, .int 0)], [.int 1], M)) rfl rfl rfl ?_
      refine ps_st (S' := (77, [(4, .int 1), (0, .ref m0), (1, .int (nI x)), (3, .int 0)], [], M)) rfl rfl rfl ?_
      refine ps_st (S' := (78, [(4, .int 1), (0, .ref m0), (1, .int (nI x)), (3, .int 0)], [.int 0], M)) rfl rfl rfl ?_
      refine ps_if (S1 := (102, [(4, .int 1), (0, .ref m0), (1, .int (nI x)), (3, .int 0)], [], M)) (S2 := (81, [(4, .int 1), (0, .ref m0), (1, .int (nI x)), (3, .int 0)], [], M)) rfl rfl rfl (fun c_78 => ?_) (fun c_78 => ?_)
      · exact absurd (of_decide_eq_true c_78) (by decide)
      refine ps_st (S' := (82, [(4, .int 1), (0, .ref m0), (1, .int (nI x)), (3, .int 0)], [.int (nI x)], M)) rfl rfl rfl ?_
      refine ps_st (S' := (83, [(4, .int 1), (0, .ref m0), (1, .int (nI x)), (3, .int 0)], [.int 1, .int (nI x)], M)) rfl rfl rfl ?_
      refine ps_st (S' := (84, [(4, .int 1), (0, .ref m0), (1, .int (nI x)), (3, .int 0)], [.int 2, .int 1, .int (nI x)], M)) rfl rfl rfl ?_
      refine ps_st (S' := (85, [(4, .int 1), (0, .ref m0), (1, .int (nI x)), (3, .int 0)], [.int 4, .int 2, .int 1, .int (nI x)], M)) rfl rfl rfl ?_
      refine pl_call (a := [.int (nI x), .int 1, .int 2, .int 4]) (rest := []) rfl rfl rfl (rd_several (x := x)) (fun v4 M5 q6 => ?_)
      obtain ⟨rfl, rfl⟩ := q6
      show pl _ _ _ (88, [(4, .int 1), (0, .ref m0), (1, .int (nI x)), (3, .int 0)], [.int (nI (sevN x))], M) _
      refine ps_if (S1 := (100, [], [], M)) (S2 := (91, [(4, .int 1), (0, .ref m0), (1, .int (nI x)), (3, .int 0)], [], M)) rfl rfl rfl (fun c_88 => ?_) (fun c_88 => ?_)
      · have c_88 : ¬ (nI (sevN x)) = 0 := of_decide_eq_true c_88
        have n_88 : ¬ (sevN x = 0) := fun h9 => c_88 ((eq_nI (p := sevN x) (n := 0) (Nat.lt_trans (le1_sev _) (by decide)) (by decide)).mpr h9)
        refine ps_st (S' := (101, [], [.int 0], M)) rfl rfl rfl ?_
        exact ps_ret rfl rfl (⟨congrArg (fun x => some (Value.int (nI x))) (show 0 = fitN mj c x 0 from by
            have e3 := has_0 x 1400
            have e4 := has_0 x 1024
            have e5 := has_0 c 512
            have e2 := sev_0 x
            have b1 := le1_one x
            have ha : absN mj x = 0 := (abs_0 mj x).mpr (by omega)
            unfold fitN
            first | ((repeat first | rw [if_pos (by omega)] | rw [if_neg (by omega)]) <;> first | rfl | omega) | ((repeat' split) <;> first | rfl | (exfalso; omega) | omega)), rfl⟩)
      · have c_88 : ¬ (¬ (nI (sevN x)) = 0) := of_decide_eq_false c_88
        have n_88 : sevN x = 0 := (eq_nI (p := sevN x) (n := 0) (Nat.lt_trans (le1_sev _) (by decide)) (by decide)).mp (Decidable.not_not.mp c_88)
        refine ps_st (S' := (93, [(4, .int 1), (0, .ref m0), (1, .int (nI x)), (3, .int 0)], [.int 1], M)) rfl rfl rfl ?_
        refine ps_if (S1 := (100, [], [], M)) (S2 := (96, [(4, .int 1), (0, .ref m0), (1, .int (nI x)), (3, .int 0)], [], M)) rfl rfl rfl (fun c_93 => ?_) (fun c_93 => ?_)
        rotate_left
        · exact absurd (by decide) (of_decide_eq_false c_93)
        refine ps_st (S' := (101, [], [.int 0], M)) rfl rfl rfl ?_
        exact ps_ret rfl rfl (⟨congrArg (fun x => some (Value.int (nI x))) (show 0 = fitN mj c x 0 from by
            have e3 := has_0 x 1400
            have e4 := has_0 x 1024
            have e5 := has_0 c 512
            have e2 := sev_0 x
            have b1 := le1_one x
            have ha : absN mj x = 0 := (abs_0 mj x).mpr (by omega)
            unfold fitN
            first | ((repeat first | rw [if_pos (by omega)] | rw [if_neg (by omega)]) <;> first | rfl | omega) | ((repeat' split) <;> first | rfl | (exfalso; omega) | omega)), rfl⟩)
    · have c_41 : ¬ (¬ (nI (aN x 314)) = 0) := of_decide_eq_false c_41
      have n_41 : aN x 314 = 0 := (eq_nI (p := aN x 314) (n := 0) (Nat.lt_of_le_of_lt (an_le _ _) (by decide)) (by decide)).mp (Decidable.not_not.mp c_41)
      refine ps_st (S' := (45, [(0, .ref m0), (1, .int (nI x)), (2, .int 0), (3, .int 0)], [.ref m0], M)) rfl rfl rfl ?_
      refine pr_int (j := 53) (S' := (48, [(0, .ref m0), (1, .int (nI x)), (2, .int 0), (3, .int 0)], [.int (nI mj)], M)) rfl hR rfl hi53 rfl ?_
      refine ps_st (S' := (50, [(0, .ref m0), (1, .int (nI x)), (2, .int 0), (3, .int 0)], [.int 46, .int (nI mj)], M)) rfl rfl rfl ?_
      refine ps_if2 (S1 := (74, [(0, .ref m0), (1, .int (nI x)), (3, .int 0)], [], M)) (S2 := (53, [(0, .ref m0), (1, .int (nI x)), (2, .int 0), (3, .int 0)], [], M)) rfl rfl rfl (fun c_50 => ?_) (fun c_50 => ?_)
      · have c_50 : (nI mj) < 46 := of_decide_eq_true c_50
        have n_50 : mj < 46 := (lt_nI (p := mj) (n := 46) (by omega) (by decide)).mp c_50
        refine ps_st (S' := (75, [(0, .ref m0), (1, .int (nI x)), (3, .int 0)], [.int 0], M)) rfl rfl rfl ?_
        refine ps_st (S' := (77, [(4, .int 0), (0, .ref m0), (1, .int (nI x)), (3, .int 0)], [], M)) rfl rfl rfl ?_
        refine ps_st (S' := (78, [(4, .int 0), (0, .ref m0), (1, .int (nI x)), (3, .int 0)], [.int 0], M)) rfl rfl rfl ?_
        refine ps_if (S1 := (102, [(4, .int 0), (0, .ref m0), (1, .int (nI x)), (3, .int 0)], [], M)) (S2 := (81, [(4, .int 0), (0, .ref m0), (1, .int (nI x)), (3, .int 0)], [], M)) rfl rfl rfl (fun c_78 => ?_) (fun c_78 => ?_)
        · exact absurd (of_decide_eq_true c_78) (by decide)
        refine ps_st (S' := (82, [(4, .int 0), (0, .ref m0), (1, .int (nI x)), (3, .int 0)], [.int (nI x)], M)) rfl rfl rfl ?_
        refine ps_st (S' := (83, [(4, .int 0), (0, .ref m0), (1, .int (nI x)), (3, .int 0)], [.int 1, .int (nI x)], M)) rfl rfl rfl ?_
        refine ps_st (S' := (84, [(4, .int 0), (0, .ref m0), (1, .int (nI x)), (3, .int 0)], [.int 2, .int 1, .int (nI x)], M)) rfl rfl rfl ?_
        refine ps_st (S' := (85, [(4, .int 0), (0, .ref m0), (1, .int (nI x)), (3, .int 0)], [.int 4, .int 2, .int 1, .int (nI x)], M)) rfl rfl rfl ?_
        refine pl_call (a := [.int (nI x), .int 1, .int 2, .int 4]) (rest := []) rfl rfl rfl (rd_several (x := x)) (fun v7 M8 q9 => ?_)
        obtain ⟨rfl, rfl⟩ := q9
        show pl _ _ _ (88, [(4, .int 0), (0, .ref m0), (1, .int (nI x)), (3, .int 0)], [.int (nI (sevN x))], M) _
        refine ps_if (S1 := (100, [], [], M)) (S2 := (91, [(4, .int 0), (0, .ref m0), (1, .int (nI x)), (3, .int 0)], [], M)) rfl rfl rfl (fun c_88 => ?_) (fun c_88 => ?_)
        · have c_88 : ¬ (nI (sevN x)) = 0 := of_decide_eq_true c_88
          have n_88 : ¬ (sevN x = 0) := fun h9 => c_88 ((eq_nI (p := sevN x) (n := 0) (Nat.lt_trans (le1_sev _) (by decide)) (by decide)).mpr h9)
          refine ps_st (S' := (101, [], [.int 0], M)) rfl rfl rfl ?_
          exact ps_ret rfl rfl (⟨congrArg (fun x => some (Value.int (nI x))) (show 0 = fitN mj c x 0 from by
              have e3 := has_0 x 1400
              have e4 := has_0 x 1024
              have e5 := has_0 c 512
              have e2 := sev_0 x
              have b1 := le1_one x
              have ha : ¬ absN mj x = 0 := fun h => absurd ((abs_0 mj x).mp h) (by omega)
              unfold fitN
              first | ((repeat first | rw [if_pos (by omega)] | rw [if_neg (by omega)]) <;> first | rfl | omega) | ((repeat' split) <;> first | rfl | (exfalso; omega) | omega)), rfl⟩)
        · have c_88 : ¬ (¬ (nI (sevN x)) = 0) := of_decide_eq_false c_88
          have n_88 : sevN x = 0 := (eq_nI (p := sevN x) (n := 0) (Nat.lt_trans (le1_sev _) (by decide)) (by decide)).mp (Decidable.not_not.mp c_88)
          refine ps_st (S' := (93, [(4, .int 0), (0, .ref m0), (1, .int (nI x)), (3, .int 0)], [.int 0], M)) rfl rfl rfl ?_
          refine ps_if (S1 := (100, [], [], M)) (S2 := (96, [(4, .int 0), (0, .ref m0), (1, .int (nI x)), (3, .int 0)], [], M)) rfl rfl rfl (fun c_93 => ?_) (fun c_93 => ?_)
          · exact absurd (of_decide_eq_true c_93) (by decide)
          refine ps_st (S' := (97, [(4, .int 0), (0, .ref m0), (1, .int (nI x)), (3, .int 0)], [.int 1], M)) rfl rfl rfl ?_
          refine ps_st (S' := (101, [], [.int 1], M)) rfl rfl rfl ?_
          exact ps_ret rfl rfl (⟨congrArg (fun x => some (Value.int (nI x))) (show 1 = fitN mj c x 0 from by
              have e3 := has_0 x 1400
              have e4 := has_0 x 1024
              have e5 := has_0 c 512
              have e2 := sev_0 x
              have b1 := le1_one x
              have ha : ¬ absN mj x = 0 := fun h => absurd ((abs_0 mj x).mp h) (by omega)
              unfold fitN
              first | ((repeat first | rw [if_pos (by omega)] | rw [if_neg (by omega)]) <;> first | rfl | omega) | ((repeat' split) <;> first | rfl | (exfalso; omega) | omega)), rfl⟩)
      · have c_50 : ¬ ((nI mj) < 46) := of_decide_eq_false c_50
        have n_50 : ¬ (mj < 46) := fun h9 => c_50 ((lt_nI (p := mj) (n := 46) (by omega) (by decide)).mpr h9)
        refine ps_st (S' := (54, [(0, .ref m0), (1, .int (nI x)), (2, .int 0), (3, .int 0)], [.ref m0], M)) rfl rfl rfl ?_
        refine pr_int (j := 53) (S' := (57, [(0, .ref m0), (1, .int (nI x)), (2, .int 0), (3, .int 0)], [.int (nI mj)], M)) rfl hR rfl hi53 rfl ?_
        refine ps_st (S' := (59, [(0, .ref m0), (1, .int (nI x)), (2, .int 0), (3, .int 0)], [.int 60, .int (nI mj)], M)) rfl rfl rfl ?_
        refine ps_if2 (S1 := (74, [(0, .ref m0), (1, .int (nI x)), (3, .int 0)], [], M)) (S2 := (62, [(0, .ref m0), (1, .int (nI x)), (2, .int 0), (3, .int 0)], [], M)) rfl rfl rfl (fun c_59 => ?_) (fun c_59 => ?_)
        · have c_59 : 60 < (nI mj) := of_decide_eq_true c_59
          have n_59 : 60 < mj := (lt_nI (p := 60) (n := mj) (by decide) (by omega)).mp c_59
          refine ps_st (S' := (75, [(0, .ref m0), (1, .int (nI x)), (3, .int 0)], [.int 0], M)) rfl rfl rfl ?_
          refine ps_st (S' := (77, [(4, .int 0), (0, .ref m0), (1, .int (nI x)), (3, .int 0)], [], M)) rfl rfl rfl ?_
          refine ps_st (S' := (78, [(4, .int 0), (0, .ref m0), (1, .int (nI x)), (3, .int 0)], [.int 0], M)) rfl rfl rfl ?_
          refine ps_if (S1 := (102, [(4, .int 0), (0, .ref m0), (1, .int (nI x)), (3, .int 0)], [], M)) (S2 := (81, [(4, .int 0), (0, .ref m0), (1, .int (nI x)), (3, .int 0)], [], M)) rfl rfl rfl (fun c_78 => ?_) (fun c_78 => ?_)
          · exact absurd (of_decide_eq_true c_78) (by decide)
          refine ps_st (S' := (82, [(4, .int 0), (0, .ref m0), (1, .int (nI x)), (3, .int 0)], [.int (nI x)], M)) rfl rfl rfl ?_
          refine ps_st (S' := (83, [(4, .int 0), (0, .ref m0), (1, .int (nI x)), (3, .int 0)], [.int 1, .int (nI x)], M)) rfl rfl rfl ?_
          refine ps_st (S' := (84, [(4, .int 0), (0, .ref m0), (1, .int (nI x)), (3, .int 0)], [.int 2, .int 1, .int (nI x)], M)) rfl rfl rfl ?_
          refine ps_st (S' := (85, [(4, .int 0), (0, .ref m0), (1, .int (nI x)), (3, .int 0)], [.int 4, .int 2, .int 1, .int (nI x)], M)) rfl rfl rfl ?_
          refine pl_call (a := [.int (nI x), .int 1, .int 2, .int 4]) (rest := []) rfl rfl rfl (rd_several (x := x)) (fun v10 M11 q12 => ?_)
          obtain ⟨rfl, rfl⟩ := q12
          show pl _ _ _ (88, [(4, .int 0), (0, .ref m0), (1, .int (nI x)), (3, .int 0)], [.int (nI (sevN x))], M) _
          refine ps_if (S1 := (100, [], [], M)) (S2 := (91, [(4, .int 0), (0, .ref m0), (1, .int (nI x)), (3, .int 0)], [], M)) rfl rfl rfl (fun c_88 => ?_) (fun c_88 => ?_)
          · have c_88 : ¬ (nI (sevN x)) = 0 := of_decide_eq_true c_88
            have n_88 : ¬ (sevN x = 0) := fun h9 => c_88 ((eq_nI (p := sevN x) (n := 0) (Nat.lt_trans (le1_sev _) (by decide)) (by decide)).mpr h9)
            refine ps_st (S' := (101, [], [.int 0], M)) rfl rfl rfl ?_
            exact ps_ret rfl rfl (⟨congrArg (fun x => some (Value.int (nI x))) (show 0 = fitN mj c x 0 from by
                have e3 := has_0 x 1400
                have e4 := has_0 x 1024
                have e5 := has_0 c 512
                have e2 := sev_0 x
                have b1 := le1_one x
                have ha : ¬ absN mj x = 0 := fun h => absurd ((abs_0 mj x).mp h) (by omega)
                unfold fitN
                first | ((repeat first | rw [if_pos (by omega)] | rw [if_neg (by omega)]) <;> first | rfl | omega) | ((repeat' split) <;> first | rfl | (exfalso; omega) | omega)), rfl⟩)
          · have c_88 : ¬ (¬ (nI (sevN x)) = 0) := of_decide_eq_false c_88
            have n_88 : sevN x = 0 := (eq_nI (p := sevN x) (n := 0) (Nat.lt_trans (le1_sev _) (by decide)) (by decide)).mp (Decidable.not_not.mp c_88)
            refine ps_st (S' := (93, [(4, .int 0), (0, .ref m0), (1, .int (nI x)), (3, .int 0)], [.int 0], M)) rfl rfl rfl ?_
            refine ps_if (S1 := (100, [], [], M)) (S2 := (96, [(4, .int 0), (0, .ref m0), (1, .int (nI x)), (3, .int 0)], [], M)) rfl rfl rfl (fun c_93 => ?_) (fun c_93 => ?_)
            · exact absurd (of_decide_eq_true c_93) (by decide)
            refine ps_st (S' := (97, [(4, .int 0), (0, .ref m0), (1, .int (nI x)), (3, .int 0)], [.int 1], M)) rfl rfl rfl ?_
            refine ps_st (S' := (101, [], [.int 1], M)) rfl rfl rfl ?_
            exact ps_ret rfl rfl (⟨congrArg (fun x => some (Value.int (nI x))) (show 1 = fitN mj c x 0 from by
                have e3 := has_0 x 1400
                have e4 := has_0 x 1024
                have e5 := has_0 c 512
                have e2 := sev_0 x
                have b1 := le1_one x
                have ha : ¬ absN mj x = 0 := fun h => absurd ((abs_0 mj x).mp h) (by omega)
                unfold fitN
                first | ((repeat first | rw [if_pos (by omega)] | rw [if_neg (by omega)]) <;> first | rfl | omega) | ((repeat' split) <;> first | rfl | (exfalso; omega) | omega)), rfl⟩)
        · have c_59 : ¬ (60 < (nI mj)) := of_decide_eq_false c_59
          have n_59 : ¬ (60 < mj) := fun h9 => c_59 ((lt_nI (p := 60) (n := mj) (by decide) (by omega)).mpr h9)
          refine ps_st (S' := (63, [(0, .ref m0), (1, .int (nI x)), (2, .int 0), (3, .int 0)], [.int (nI x)], M)) rfl rfl rfl ?_
          refine ps_st (S' := (66, [(0, .ref m0), (1, .int (nI x)), (2, .int 0), (3, .int 0)], [.int 2048, .int (nI x)], M)) rfl rfl rfl ?_
          refine ps_st (S' := (67, [(0, .ref m0), (1, .int (nI x)), (2, .int 0), (3, .int 0)], [.int ((nI x) &&& 2048)], M)) rfl rfl rfl ?_
          rw [nI_an (p := x) (k := 2048) (x := 2048) rfl]
          show pl _ _ _ (_, [(0, .ref m0), (1, .int (nI x)), (2, .int 0), (3, .int 0)], [.int (nI (aN x 2048))], M) _
          refine ps_if (S1 := (74, [(0, .ref m0), (1, .int (nI x)), (3, .int 0)], [], M)) (S2 := (70, [(0, .ref m0), (1, .int (nI x)), (3, .int 0)], [], M)) rfl rfl rfl (fun c_67 => ?_) (fun c_67 => ?_)
          · have c_67 : (nI (aN x 2048)) = 0 := of_decide_eq_true c_67
            have n_67 : aN x 2048 = 0 := (eq_nI (p := aN x 2048) (n := 0) (Nat.lt_of_le_of_lt (an_le _ _) (by decide)) (by decide)).mp c_67
            refine ps_st (S' := (75, [(0, .ref m0), (1, .int (nI x)), (3, .int 0)], [.int 0], M)) rfl rfl rfl ?_
            refine ps_st (S' := (77, [(4, .int 0), (0, .ref m0), (1, .int (nI x)), (3, .int 0)], [], M)) rfl rfl rfl ?_
            refine ps_st (S' := (78, [(4, .int 0), (0, .ref m0), (1, .int (nI x)), (3, .int 0)], [.int 0], M)) rfl rfl rfl ?_
            refine ps_if (S1 := (102, [(4, .int 0), (0, .ref m0), (1, .int (nI x)), (3, .int 0)], [], M)) (S2 := (81, [(4, .int 0), (0, .ref m0), (1, .int (nI x)), (3, .int 0)], [], M)) rfl rfl rfl (fun c_78 => ?_) (fun c_78 => ?_)
            · exact absurd (of_decide_eq_true c_78) (by decide)
            refine ps_st (S' := (82, [(4, .int 0), (0, .ref m0), (1, .int (nI x)), (3, .int 0)], [.int (nI x)], M)) rfl rfl rfl ?_
            refine ps_st (S' := (83, [(4, .int 0), (0, .ref m0), (1, .int (nI x)), (3, .int 0)], [.int 1, .int (nI x)], M)) rfl rfl rfl ?_
            refine ps_st (S' := (84, [(4, .int 0), (0, .ref m0), (1, .int (nI x)), (3, .int 0)], [.int 2, .int 1, .int (nI x)], M)) rfl rfl rfl ?_
            refine ps_st (S' := (85, [(4, .int 0), (0, .ref m0), (1, .int (nI x)), (3, .int 0)], [.int 4, .int 2, .int 1, .int (nI x)], M)) rfl rfl rfl ?_
            refine pl_call (a := [.int (nI x), .int 1, .int 2, .int 4]) (rest := []) rfl rfl rfl (rd_several (x := x)) (fun v13 M14 q15 => ?_)
            obtain ⟨rfl, rfl⟩ := q15
            show pl _ _ _ (88, [(4, .int 0), (0, .ref m0), (1, .int (nI x)), (3, .int 0)], [.int (nI (sevN x))], M) _
            refine ps_if (S1 := (100, [], [], M)) (S2 := (91, [(4, .int 0), (0, .ref m0), (1, .int (nI x)), (3, .int 0)], [], M)) rfl rfl rfl (fun c_88 => ?_) (fun c_88 => ?_)
            · have c_88 : ¬ (nI (sevN x)) = 0 := of_decide_eq_true c_88
              have n_88 : ¬ (sevN x = 0) := fun h9 => c_88 ((eq_nI (p := sevN x) (n := 0) (Nat.lt_trans (le1_sev _) (by decide)) (by decide)).mpr h9)
              refine ps_st (S' := (101, [], [.int 0], M)) rfl rfl rfl ?_
              exact ps_ret rfl rfl (⟨congrArg (fun x => some (Value.int (nI x))) (show 0 = fitN mj c x 0 from by
                  have e3 := has_0 x 1400
                  have e4 := has_0 x 1024
                  have e5 := has_0 c 512
                  have e2 := sev_0 x
                  have b1 := le1_one x
                  have ha : ¬ absN mj x = 0 := fun h => absurd ((abs_0 mj x).mp h) (by omega)
                  unfold fitN
                  first | ((repeat first | rw [if_pos (by omega)] | rw [if_neg (by omega)]) <;> first | rfl | omega) | ((repeat' split) <;> first | rfl | (exfalso; omega) | omega)), rfl⟩)
            · have c_88 : ¬ (¬ (nI (sevN x)) = 0) := of_decide_eq_false c_88
              have n_88 : sevN x = 0 := (eq_nI (p := sevN x) (n := 0) (Nat.lt_trans (le1_sev _) (by decide)) (by decide)).mp (Decidable.not_not.mp c_88)
              refine ps_st (S' := (93, [(4, .int 0), (0, .ref m0), (1, .int (nI x)), (3, .int 0)], [.int 0], M)) rfl rfl rfl ?_
              refine ps_if (S1 := (100, [], [], M)) (S2 := (96, [(4, .int 0), (0, .ref m0), (1, .int (nI x)), (3, .int 0)], [], M)) rfl rfl rfl (fun c_93 => ?_) (fun c_93 => ?_)
              · exact absurd (of_decide_eq_true c_93) (by decide)
              refine ps_st (S' := (97, [(4, .int 0), (0, .ref m0), (1, .int (nI x)), (3, .int 0)], [.int 1], M)) rfl rfl rfl ?_
              refine ps_st (S' := (101, [], [.int 1], M)) rfl rfl rfl ?_
              exact ps_ret rfl rfl (⟨congrArg (fun x => some (Value.int (nI x))) (show 1 = fitN mj c x 0 from by
                  have e3 := has_0 x 1400
                  have e4 := has_0 x 1024
                  have e5 := has_0 c 512
                  have e2 := sev_0 x
                  have b1 := le1_one x
                  have ha : ¬ absN mj x = 0 := fun h => absurd ((abs_0 mj x).mp h) (by omega)
                  unfold fitN
                  first | ((repeat first | rw [if_pos (by omega)] | rw [if_neg (by omega)]) <;> first | rfl | omega) | ((repeat' split) <;> first | rfl | (exfalso; omega) | omega)), rfl⟩)
          · have c_67 : ¬ ((nI (aN x 2048)) = 0) := of_decide_eq_false c_67
            have n_67 : ¬ (aN x 2048 = 0) := fun h9 => c_67 ((eq_nI (p := aN x 2048) (n := 0) (Nat.lt_of_le_of_lt (an_le _ _) (by decide)) (by decide)).mpr h9)
            refine ps_st (S' := (71, [(0, .ref m0), (1, .int (nI x)), (3, .int 0)], [.int 1], M)) rfl rfl rfl ?_
            refine ps_st (S' := (75, [(0, .ref m0), (1, .int (nI x)), (3, .int 0)], [.int 1], M)) rfl rfl rfl ?_
            refine ps_st (S' := (77, [(4, .int 1), (0, .ref m0), (1, .int (nI x)), (3, .int 0)], [], M)) rfl rfl rfl ?_
            refine ps_st (S' := (78, [(4, .int 1), (0, .ref m0), (1, .int (nI x)), (3, .int 0)], [.int 0], M)) rfl rfl rfl ?_
            refine ps_if (S1 := (102, [(4, .int 1), (0, .ref m0), (1, .int (nI x)), (3, .int 0)], [], M)) (S2 := (81, [(4, .int 1), (0, .ref m0), (1, .int (nI x)), (3, .int 0)], [], M)) rfl rfl rfl (fun c_78 => ?_) (fun c_78 => ?_)
            · exact absurd (of_decide_eq_true c_78) (by decide)
            refine ps_st (S' := (82, [(4, .int 1), (0, .ref m0), (1, .int (nI x)), (3, .int 0)], [.int (nI x)], M)) rfl rfl rfl ?_
            refine ps_st (S' := (83, [(4, .int 1), (0, .ref m0), (1, .int (nI x)), (3, .int 0)], [.int 1, .int (nI x)], M)) rfl rfl rfl ?_
            refine ps_st (S' := (84, [(4, .int 1), (0, .ref m0), (1, .int (nI x)), (3, .int 0)], [.int 2, .int 1, .int (nI x)], M)) rfl rfl rfl ?_
            refine ps_st (S' := (85, [(4, .int 1), (0, .ref m0), (1, .int (nI x)), (3, .int 0)], [.int 4, .int 2, .int 1, .int (nI x)], M)) rfl rfl rfl ?_
            refine pl_call (a := [.int (nI x), .int 1, .int 2, .int 4]) (rest := []) rfl rfl rfl (rd_several (x := x)) (fun v16 M17 q18 => ?_)
            obtain ⟨rfl, rfl⟩ := q18
            show pl _ _ _ (88, [(4, .int 1), (0, .ref m0), (1, .int (nI x)), (3, .int 0)], [.int (nI (sevN x))], M) _
            refine ps_if (S1 := (100, [], [], M)) (S2 := (91, [(4, .int 1), (0, .ref m0), (1, .int (nI x)), (3, .int 0)], [], M)) rfl rfl rfl (fun c_88 => ?_) (fun c_88 => ?_)
            · have c_88 : ¬ (nI (sevN x)) = 0 := of_decide_eq_true c_88
              have n_88 : ¬ (sevN x = 0) := fun h9 => c_88 ((eq_nI (p := sevN x) (n := 0) (Nat.lt_trans (le1_sev _) (by decide)) (by decide)).mpr h9)
              refine ps_st (S' := (101, [], [.int 0], M)) rfl rfl rfl ?_
              exact ps_ret rfl rfl (⟨congrArg (fun x => some (Value.int (nI x))) (show 0 = fitN mj c x 0 from by
                  have e3 := has_0 x 1400
                  have e4 := has_0 x 1024
                  have e5 := has_0 c 512
                  have e2 := sev_0 x
                  have b1 := le1_one x
                  have ha : absN mj x = 0 := (abs_0 mj x).mpr (by omega)
                  unfold fitN
                  first | ((repeat first | rw [if_pos (by omega)] | rw [if_neg (by omega)]) <;> first | rfl | omega) | ((repeat' split) <;> first | rfl | (exfalso; omega) | omega)), rfl⟩)
            · have c_88 : ¬ (¬ (nI (sevN x)) = 0) := of_decide_eq_false c_88
              have n_88 : sevN x = 0 := (eq_nI (p := sevN x) (n := 0) (Nat.lt_trans (le1_sev _) (by decide)) (by decide)).mp (Decidable.not_not.mp c_88)
              refine ps_st (S' := (93, [(4, .int 1), (0, .ref m0), (1, .int (nI x)), (3, .int 0)], [.int 1], M)) rfl rfl rfl ?_
              refine ps_if (S1 := (100, [], [], M)) (S2 := (96, [(4, .int 1), (0, .ref m0), (1, .int (nI x)), (3, .int 0)], [], M)) rfl rfl rfl (fun c_93 => ?_) (fun c_93 => ?_)
              rotate_left
              · exact absurd (by decide) (of_decide_eq_false c_93)
              refine ps_st (S' := (101, [], [.int 0], M)) rfl rfl rfl ?_
              exact ps_ret rfl rfl (⟨congrArg (fun x => some (Value.int (nI x))) (show 0 = fitN mj c x 0 from by
                  have e3 := has_0 x 1400
                  have e4 := has_0 x 1024
                  have e5 := has_0 c 512
                  have e2 := sev_0 x
                  have b1 := le1_one x
                  have ha : absN mj x = 0 := (abs_0 mj x).mpr (by omega)
                  unfold fitN
                  first | ((repeat first | rw [if_pos (by omega)] | rw [if_neg (by omega)]) <;> first | rfl | omega) | ((repeat' split) <;> first | rfl | (exfalso; omega) | omega)), rfl⟩)
set_option maxHeartbeats 8000000 in
theorem rd_fit01 {g : xe_G} {m0 : Nat} {q : Nat → Nat} {z : Nat × Nat} {I : rI} {R : rR} {M : mi_H} {mj x c : Nat} (hR : RS g m0 q z I R M) (hi53 : I 53 = some (nI mj))  (hmj : mj < 65536) (hx : x < 65536) (hc : ¬ aN c 512 = 0) : pt (mT g) 209 [.ref m0, .int (nI x), .int 0, .int 1] M (fun v M' => (v = some (.int (nI (fitN mj c x 0))) ∧ M = M')) := by
  refine pt_in (b := mb_209 g) rfl (fun kf => ?_)
  show pl (mT g) kf (mb_209 g).2 (0, [(0, .ref m0), (1, .int (nI x)), (2, .int 0), (3, .int 1)], [], M) _
  refine ps_st (S' := (1, [(0, .ref m0), (1, .int (nI x)), (2, .int 0), (3, .int 1)], [.int 0], M)) rfl rfl rfl ?_
  refine ps_if (S1 := (28, [(0, .ref m0), (1, .int (nI x)), (2, .int 0), (3, .int 1)], [], M)) (S2 := (4, [(0, .ref m0), (1, .int (nI x)), (2, .int 0), (3, .int 1)], [], M)) rfl rfl rfl (fun c_1 => ?_) (fun c_1 => ?_)
  rotate_left
  · exact absurd (by decide) (of_decide_eq_false c_1)
  refine ps_st (S' := (29, [(0, .ref m0), (1, .int (nI x)), (2, .int 0), (3, .int 1)], [.int (nI x)], M)) rfl rfl rfl ?_
  refine ps_st (S' := (32, [(0, .ref m0), (1, .int (nI x)), (2, .int 0), (3, .int 1)], [.int 1024, .int (nI x)], M)) rfl rfl rfl ?_
  refine ps_st (S' := (33, [(0, .ref m0), (1, .int (nI x)), (2, .int 0), (3, .int 1)], [.int ((nI x) &&& 1024)], M)) rfl rfl rfl ?_
  rw [nI_an (p := x) (k := 1024) (x := 1024) rfl]
  show pl _ _ _ (_, [(0, .ref m0), (1, .int (nI x)), (2, .int 0), (3, .int 1)], [.int (nI (aN x 1024))], M) _
  refine ps_if (S1 := (74, [(0, .ref m0), (1, .int (nI x)), (3, .int 1)], [], M)) (S2 := (36, [(0, .ref m0), (1, .int (nI x)), (2, .int 0), (3, .int 1)], [], M)) rfl rfl rfl (fun c_33 => ?_) (fun c_33 => ?_)
  · have c_33 : (nI (aN x 1024)) = 0 := of_decide_eq_true c_33
    have n_33 : aN x 1024 = 0 := (eq_nI (p := aN x 1024) (n := 0) (Nat.lt_of_le_of_lt (an_le _ _) (by decide)) (by decide)).mp c_33
    refine ps_st (S' := (75, [(0, .ref m0), (1, .int (nI x)), (3, .int 1)], [.int 0], M)) rfl rfl rfl ?_
    refine ps_st (S' := (77, [(4, .int 0), (0, .ref m0), (1, .int (nI x)), (3, .int 1)], [], M)) rfl rfl rfl ?_
    refine ps_st (S' := (78, [(4, .int 0), (0, .ref m0), (1, .int (nI x)), (3, .int 1)], [.int 1], M)) rfl rfl rfl ?_
    refine ps_if (S1 := (102, [(4, .int 0), (0, .ref m0), (1, .int (nI x)), (3, .int 1)], [], M)) (S2 := (81, [(4, .int 0), (0, .ref m0), (1, .int (nI x)), (3, .int 1)], [], M)) rfl rfl rfl (fun c_78 => ?_) (fun c_78 => ?_)
    rotate_left
    · exact absurd (by decide) (of_decide_eq_false c_78)
    refine ps_st (S' := (103, [(4, .int 0), (0, .ref m0), (1, .int (nI x)), (3, .int 1)], [.int (nI x)], M)) rfl rfl rfl ?_
    refine ps_st (S' := (106, [(4, .int 0), (0, .ref m0), (1, .int (nI x)), (3, .int 1)], [.int 308, .int (nI x)], M)) rfl rfl rfl ?_
    refine ps_st (S' := (107, [(4, .int 0), (0, .ref m0), (1, .int (nI x)), (3, .int 1)], [.int ((nI x) &&& 308)], M)) rfl rfl rfl ?_
    rw [nI_an (p := x) (k := 308) (x := 308) rfl]
    show pl _ _ _ (_, [(4, .int 0), (0, .ref m0), (1, .int (nI x)), (3, .int 1)], [.int (nI (aN x 308))], M) _
    refine ps_if (S1 := (112, [(4, .int 0), (0, .ref m0), (1, .int (nI x)), (3, .int 1)], [], M)) (S2 := (110, [(4, .int 0), (0, .ref m0), (1, .int (nI x)), (3, .int 1)], [], M)) rfl rfl rfl (fun c_107 => ?_) (fun c_107 => ?_)
    · have c_107 : (nI (aN x 308)) = 0 := of_decide_eq_true c_107
      have n_107 : aN x 308 = 0 := (eq_nI (p := aN x 308) (n := 0) (Nat.lt_of_le_of_lt (an_le _ _) (by decide)) (by decide)).mp c_107
      refine ps_st (S' := (113, [(4, .int 0), (0, .ref m0), (1, .int (nI x)), (3, .int 1)], [.ref m0], M)) rfl rfl rfl ?_
      refine pr_int (j := 53) (S' := (116, [(4, .int 0), (0, .ref m0), (1, .int (nI x)), (3, .int 1)], [.int (nI mj)], M)) rfl hR rfl hi53 rfl ?_
      refine ps_st (S' := (118, [(4, .int 0), (0, .ref m0), (1, .int (nI x)), (3, .int 1)], [.int 52, .int (nI mj)], M)) rfl rfl rfl ?_
      refine ps_if2 (S1 := (145, [(4, .int 0), (0, .ref m0), (1, .int (nI x)), (3, .int 1)], [], M)) (S2 := (121, [(4, .int 0), (0, .ref m0), (1, .int (nI x)), (3, .int 1)], [], M)) rfl rfl rfl (fun c_118 => ?_) (fun c_118 => ?_)
      · have c_118 : 52 ≤ (nI mj) := of_decide_eq_true c_118
        have n_118 : 52 ≤ mj := (le_nI (p := 52) (n := mj) (by decide) (by omega)).mp c_118
        refine ps_st (S' := (146, [(4, .int 0), (0, .ref m0), (1, .int (nI x)), (3, .int 1)], [.int (nI x)], M)) rfl rfl rfl ?_
        refine ps_st (S' := (147, [(4, .int 0), (0, .ref m0), (1, .int (nI x)), (3, .int 1)], [.int 1, .int (nI x)], M)) rfl rfl rfl ?_
        refine ps_st (S' := (148, [(4, .int 0), (0, .ref m0), (1, .int (nI x)), (3, .int 1)], [.int ((nI x) &&& 1)], M)) rfl rfl rfl ?_
        rw [nI_an (p := x) (k := 1) (x := 1) rfl]
        show pl _ _ _ (_, [(4, .int 0), (0, .ref m0), (1, .int (nI x)), (3, .int 1)], [.int (nI (aN x 1))], M) _
        refine ps_if (S1 := (155, [(4, .int 0), (0, .ref m0), (1, .int (nI x)), (3, .int 1)], [], M)) (S2 := (151, [(4, .int 0), (0, .ref m0), (1, .int (nI x)), (3, .int 1)], [], M)) rfl rfl rfl (fun c_148 => ?_) (fun c_148 => ?_)
        · have c_148 : (nI (aN x 1)) = 0 := of_decide_eq_true c_148
          have n_148 : aN x 1 = 0 := (eq_nI (p := aN x 1) (n := 0) (Nat.lt_of_le_of_lt (an_le _ _) (by decide)) (by decide)).mp c_148
          refine ps_st (S' := (156, [(1, .int (nI x)), (4, .int 0)], [.int 0], M)) rfl rfl rfl ?_
          refine ps_st (S' := (157, [(1, .int (nI x)), (4, .int 0)], [.int (nI x), .int 0], M)) rfl rfl rfl ?_
          refine ps_st (S' := (158, [(1, .int (nI x)), (4, .int 0)], [.int 2, .int (nI x), .int 0], M)) rfl rfl rfl ?_
          refine ps_st (S' := (159, [(1, .int (nI x)), (4, .int 0)], [.int ((nI x) &&& 2), .int 0], M)) rfl rfl rfl ?_
          rw [nI_an (p := x) (k := 2) (x := 2) rfl]
          show pl _ _ _ (_, [(1, .int (nI x)), (4, .int 0)], [.int (nI (aN x 2)), .int 0], M) _
          refine ps_if (S1 := (166, [(1, .int (nI x)), (4, .int 0)], [.int 0], M)) (S2 := (162, [(1, .int (nI x)), (4, .int 0)], [.int 0], M)) rfl rfl rfl (fun c_159 => ?_) (fun c_159 => ?_)
          · have c_159 : (nI (aN x 2)) = 0 := of_decide_eq_true c_159
            have n_159 : aN x 2 = 0 := (eq_nI (p := aN x 2) (n := 0) (Nat.lt_of_le_of_lt (an_le _ _) (by decide)) (by decide)).mp c_159
            refine ps_st (S' := (167, [(4, .int 0)], [.int 0, .int 0], M)) rfl rfl rfl ?_
            refine ps_if2 (S1 := (172, [(4, .int 0)], [], M)) (S2 := (170, [], [], M)) rfl rfl rfl (fun c_167 => ?_) (fun c_167 => ?_)
            · exact absurd (of_decide_eq_true c_167) (by decide)
            refine ps_st (S' := (171, [], [.int 0], M)) rfl rfl rfl ?_
            exact ps_ret rfl rfl (⟨congrArg (fun x => some (Value.int (nI x))) (show 0 = fitN mj c x 0 from by
                have e3 := has_0 x 1400
                have e4 := has_0 x 1024
                have e5 := has_0 c 512
                have e2 := sev_0 x
                have b1 := le1_one x
                have b2 := le1_imh mj x
                have hi : imhN mj x = 0 := (imh_0 mj x).mpr (by omega)
                unfold fitN
                first | ((repeat first | rw [if_pos (by omega)] | rw [if_neg (by omega)]) <;> first | rfl | omega) | ((repeat' split) <;> first | rfl | (exfalso; omega) | omega)), rfl⟩)
          · have c_159 : ¬ ((nI (aN x 2)) = 0) := of_decide_eq_false c_159
            have n_159 : ¬ (aN x 2 = 0) := fun h9 => c_159 ((eq_nI (p := aN x 2) (n := 0) (Nat.lt_of_le_of_lt (an_le _ _) (by decide)) (by decide)).mpr h9)
            refine ps_st (S' := (163, [(1, .int (nI x)), (4, .int 0)], [.int 1, .int 0], M)) rfl rfl rfl ?_
            refine ps_st (S' := (167, [(4, .int 0)], [.int 1, .int 0], M)) rfl rfl rfl ?_
            refine ps_if2 (S1 := (172, [(4, .int 0)], [], M)) (S2 := (170, [], [], M)) rfl rfl rfl (fun c_167 => ?_) (fun c_167 => ?_)
            rotate_left
            · exact absurd (by decide) (of_decide_eq_false c_167)
            refine ps_st (S' := (174, [(4, .int 0)], [.int 0], M)) rfl rfl rfl ?_
            refine ps_if (S1 := (181, [(4, .int 0)], [], M)) (S2 := (177, [(4, .int 0)], [], M)) rfl rfl rfl (fun c_174 => ?_) (fun c_174 => ?_)
            · exact absurd (of_decide_eq_true c_174) (by decide)
            refine ps_st (S' := (178, [(4, .int 0)], [.int 1], M)) rfl rfl rfl ?_
            refine ps_st (S' := (182, [], [.int 1], M)) rfl rfl rfl ?_
            exact ps_ret rfl rfl (⟨congrArg (fun x => some (Value.int (nI x))) (show 1 = fitN mj c x 0 from by
                have e3 := has_0 x 1400
                have e4 := has_0 x 1024
                have e5 := has_0 c 512
                have e2 := sev_0 x
                have b1 := le1_one x
                have b2 := le1_imh mj x
                have hi : ¬ imhN mj x = 0 := fun h => absurd ((imh_0 mj x).mp h) (by omega)
                unfold fitN
                first | ((repeat first | rw [if_pos (by omega)] | rw [if_neg (by omega)]) <;> first | rfl | omega) | ((repeat' split) <;> first | rfl | (exfalso; omega) | omega)), rfl⟩)
        · have c_148 : ¬ ((nI (aN x 1)) = 0) := of_decide_eq_false c_148
          have n_148 : ¬ (aN x 1 = 0) := fun h9 => c_148 ((eq_nI (p := aN x 1) (n := 0) (Nat.lt_of_le_of_lt (an_le _ _) (by decide)) (by decide)).mpr h9)
          refine ps_st (S' := (152, [(4, .int 0), (0, .ref m0), (1, .int (nI x)), (3, .int 1)], [.int 1], M)) rfl rfl rfl ?_
          refine ps_st (S' := (156, [(1, .int (nI x)), (4, .int 0)], [.int 1], M)) rfl rfl rfl ?_
          refine ps_st (S' := (157, [(1, .int (nI x)), (4, .int 0)], [.int (nI x), .int 1], M)) rfl rfl rfl ?_
          refine ps_st (S' := (158, [(1, .int (nI x)), (4, .int 0)], [.int 2, .int (nI x), .int 1], M)) rfl rfl rfl ?_
          refine ps_st (S' := (159, [(1, .int (nI x)), (4, .int 0)], [.int ((nI x) &&& 2), .int 1], M)) rfl rfl rfl ?_
          rw [nI_an (p := x) (k := 2) (x := 2) rfl]
          show pl _ _ _ (_, [(1, .int (nI x)), (4, .int 0)], [.int (nI (aN x 2)), .int 1], M) _
          refine ps_if (S1 := (166, [(1, .int (nI x)), (4, .int 0)], [.int 1], M)) (S2 := (162, [(1, .int (nI x)), (4, .int 0)], [.int 1], M)) rfl rfl rfl (fun c_159 => ?_) (fun c_159 => ?_)
          · have c_159 : (nI (aN x 2)) = 0 := of_decide_eq_true c_159
            have n_159 : aN x 2 = 0 := (eq_nI (p := aN x 2) (n := 0) (Nat.lt_of_le_of_lt (an_le _ _) (by decide)) (by decide)).mp c_159
            refine ps_st (S' := (167, [(4, .int 0)], [.int 0, .int 1], M)) rfl rfl rfl ?_
            refine ps_if2 (S1 := (172, [(4, .int 0)], [], M)) (S2 := (170, [], [], M)) rfl rfl rfl (fun c_167 => ?_) (fun c_167 => ?_)
            rotate_left
            · exact absurd (by decide) (of_decide_eq_false c_167)
            refine ps_st (S' := (174, [(4, .int 0)], [.int 0], M)) rfl rfl rfl ?_
            refine ps_if (S1 := (181, [(4, .int 0)], [], M)) (S2 := (177, [(4, .int 0)], [], M)) rfl rfl rfl (fun c_174 => ?_) (fun c_174 => ?_)
            · exact absurd (of_decide_eq_true c_174) (by decide)
            refine ps_st (S' := (178, [(4, .int 0)], [.int 1], M)) rfl rfl rfl ?_
            refine ps_st (S' := (182, [], [.int 1], M)) rfl rfl rfl ?_
            exact ps_ret rfl rfl (⟨congrArg (fun x => some (Value.int (nI x))) (show 1 = fitN mj c x 0 from by
                have e3 := has_0 x 1400
                have e4 := has_0 x 1024
                have e5 := has_0 c 512
                have e2 := sev_0 x
                have b1 := le1_one x
                have b2 := le1_imh mj x
                have hi : ¬ imhN mj x = 0 := fun h => absurd ((imh_0 mj x).mp h) (by omega)
                unfold fitN
                first | ((repeat first | rw [if_pos (by omega)] | rw [if_neg (by omega)]) <;> first | rfl | omega) | ((repeat' split) <;> first | rfl | (exfalso; omega) | omega)), rfl⟩)
          · have c_159 : ¬ ((nI (aN x 2)) = 0) := of_decide_eq_false c_159
            have n_159 : ¬ (aN x 2 = 0) := fun h9 => c_159 ((eq_nI (p := aN x 2) (n := 0) (Nat.lt_of_le_of_lt (an_le _ _) (by decide)) (by decide)).mpr h9)
            refine ps_st (S' := (163, [(1, .int (nI x)), (4, .int 0)], [.int 1, .int 1], M)) rfl rfl rfl ?_
            refine ps_st (S' := (167, [(4, .int 0)], [.int 1, .int 1], M)) rfl rfl rfl ?_
            refine ps_if2 (S1 := (172, [(4, .int 0)], [], M)) (S2 := (170, [], [], M)) rfl rfl rfl (fun c_167 => ?_) (fun c_167 => ?_)
            · exact absurd (of_decide_eq_true c_167) (by decide)
            refine ps_st (S' := (171, [], [.int 0], M)) rfl rfl rfl ?_
            exact ps_ret rfl rfl (⟨congrArg (fun x => some (Value.int (nI x))) (show 0 = fitN mj c x 0 from by
                have e3 := has_0 x 1400
                have e4 := has_0 x 1024
                have e5 := has_0 c 512
                have e2 := sev_0 x
                have b1 := le1_one x
                have b2 := le1_imh mj x
                have hi : imhN mj x = 0 := (imh_0 mj x).mpr (by omega)
                unfold fitN
                first | ((repeat first | rw [if_pos (by omega)] | rw [if_neg (by omega)]) <;> first | rfl | omega) | ((repeat' split) <;> first | rfl | (exfalso; omega) | omega)), rfl⟩)
      · have c_118 : ¬ (52 ≤ (nI mj)) := of_decide_eq_false c_118
        have n_118 : ¬ (52 ≤ mj) := fun h9 => c_118 ((le_nI (p := 52) (n := mj) (by decide) (by omega)).mpr h9)
        refine ps_st (S' := (122, [(4, .int 0), (0, .ref m0), (1, .int (nI x)), (3, .int 1)], [.int (nI x)], M)) rfl rfl rfl ?_
        refine ps_st (S' := (123, [(4, .int 0), (0, .ref m0), (1, .int (nI x)), (3, .int 1)], [.int 1, .int (nI x)], M)) rfl rfl rfl ?_
        refine ps_st (S' := (124, [(4, .int 0), (0, .ref m0), (1, .int (nI x)), (3, .int 1)], [.int ((nI x) &&& 1)], M)) rfl rfl rfl ?_
        rw [nI_an (p := x) (k := 1) (x := 1) rfl]
        show pl _ _ _ (_, [(4, .int 0), (0, .ref m0), (1, .int (nI x)), (3, .int 1)], [.int (nI (aN x 1))], M) _
        refine ps_if (S1 := (170, [], [], M)) (S2 := (127, [(4, .int 0), (0, .ref m0), (1, .int (nI x)), (3, .int 1)], [], M)) rfl rfl rfl (fun c_124 => ?_) (fun c_124 => ?_)
        · have c_124 : (nI (aN x 1)) = 0 := of_decide_eq_true c_124
          have n_124 : aN x 1 = 0 := (eq_nI (p := aN x 1) (n := 0) (Nat.lt_of_le_of_lt (an_le _ _) (by decide)) (by decide)).mp c_124
          refine ps_st (S' := (171, [], [.int 0], M)) rfl rfl rfl ?_
          exact ps_ret rfl rfl (⟨congrArg (fun x => some (Value.int (nI x))) (show 0 = fitN mj c x 0 from by
              have e3 := has_0 x 1400
              have e4 := has_0 x 1024
              have e5 := has_0 c 512
              have e2 := sev_0 x
              have b1 := le1_one x
              have b2 := le1_imh mj x
              have hi : imhN mj x = 0 := (imh_0 mj x).mpr (by omega)
              unfold fitN
              first | ((repeat first | rw [if_pos (by omega)] | rw [if_neg (by omega)]) <;> first | rfl | omega) | ((repeat' split) <;> first | rfl | (exfalso; omega) | omega)), rfl⟩)
        · have c_124 : ¬ ((nI (aN x 1)) = 0) := of_decide_eq_false c_124
          have n_124 : ¬ (aN x 1 = 0) := fun h9 => c_124 ((eq_nI (p := aN x 1) (n := 0) (Nat.lt_of_le_of_lt (an_le _ _) (by decide)) (by decide)).mpr h9)
          refine ps_st (S' := (128, [(4, .int 0), (0, .ref m0), (1, .int (nI x)), (3, .int 1)], [.int (nI x)], M)) rfl rfl rfl ?_
          refine ps_st (S' := (131, [(4, .int 0), (0, .ref m0), (1, .int (nI x)), (3, .int 1)], [.int 1024, .int (nI x)], M)) rfl rfl rfl ?_
          refine ps_st (S' := (132, [(4, .int 0), (0, .ref m0), (1, .int (nI x)), (3, .int 1)], [.int ((nI x) &&& 1024)], M)) rfl rfl rfl ?_
          rw [nI_an (p := x) (k := 1024) (x := 1024) rfl]
          show pl _ _ _ (_, [(4, .int 0), (0, .ref m0), (1, .int (nI x)), (3, .int 1)], [.int (nI (aN x 1024))], M) _
          refine ps_if (S1 := (170, [], [], M)) (S2 := (135, [(4, .int 0), (0, .ref m0), (1, .int (nI x)), (3, .int 1)], [], M)) rfl rfl rfl (fun c_132 => ?_) (fun c_132 => ?_)
          rotate_left
          · exact absurd ((eq_nI (p := aN x 1024) (n := 0) (Nat.lt_of_le_of_lt (an_le _ _) (by decide)) (by decide)).mpr (by omega)) (of_decide_eq_false c_132)
          refine ps_st (S' := (171, [], [.int 0], M)) rfl rfl rfl ?_
          exact ps_ret rfl rfl (⟨congrArg (fun x => some (Value.int (nI x))) (show 0 = fitN mj c x 0 from by
              have e3 := has_0 x 1400
              have e4 := has_0 x 1024
              have e5 := has_0 c 512
              have e2 := sev_0 x
              have b1 := le1_one x
              have b2 := le1_imh mj x
              have hi : imhN mj x = 0 := (imh_0 mj x).mpr (by omega)
              unfold fitN
              first | ((repeat first | rw [if_pos (by omega)] | rw [if_neg (by omega)]) <;> first | rfl | omega) | ((repeat' split) <;> first | rfl | (exfalso; omega) | omega)), rfl⟩)
    · have c_107 : ¬ ((nI (aN x 308)) = 0) := of_decide_eq_false c_107
      have n_107 : ¬ (aN x 308 = 0) := fun h9 => c_107 ((eq_nI (p := aN x 308) (n := 0) (Nat.lt_of_le_of_lt (an_le _ _) (by decide)) (by decide)).mpr h9)
      refine ps_st (S' := (111, [(4, .int 0), (0, .ref m0), (1, .int (nI x)), (3, .int 1)], [.int 0], M)) rfl rfl rfl ?_
      exact ps_ret rfl rfl (⟨congrArg (fun x => some (Value.int (nI x))) (show 0 = fitN mj c x 0 from by
          have e3 := has_0 x 1400
          have e4 := has_0 x 1024
          have e5 := has_0 c 512
          have e2 := sev_0 x
          have b1 := le1_one x
          have b2 := le1_imh mj x
          have hi : imhN mj x = 0 := (imh_0 mj x).mpr (by omega)
          unfold fitN
          first | ((repeat first | rw [if_pos (by omega)] | rw [if_neg (by omega)]) <;> first | rfl | omega) | ((repeat' split) <;> first | rfl | (exfalso; omega) | omega)), rfl⟩)
  · have c_33 : ¬ ((nI (aN x 1024)) = 0) := of_decide_eq_false c_33
    have n_33 : ¬ (aN x 1024 = 0) := fun h9 => c_33 ((eq_nI (p := aN x 1024) (n := 0) (Nat.lt_of_le_of_lt (an_le _ _) (by decide)) (by decide)).mpr h9)
    refine ps_st (S' := (37, [(0, .ref m0), (1, .int (nI x)), (2, .int 0), (3, .int 1)], [.int (nI x)], M)) rfl rfl rfl ?_
    refine ps_st (S' := (40, [(0, .ref m0), (1, .int (nI x)), (2, .int 0), (3, .int 1)], [.int 314, .int (nI x)], M)) rfl rfl rfl ?_
    refine ps_st (S' := (41, [(0, .ref m0), (1, .int (nI x)), (2, .int 0), (3, .int 1)], [.int ((nI x) &&& 314)], M)) rfl rfl rfl ?_
    rw [nI_an (p := x) (k := 314) (x := 314) rfl]
    show pl _ _ _ (_, [(0, .ref m0), (1, .int (nI x)), (2, .int 0), (3, .int 1)], [.int (nI (aN x 314))], M) _
    refine ps_if (S1 := (70, [(0, .ref m0), (1, .int (nI x)), (3, .int 1)], [], M)) (S2 := (44, [(0, .ref m0), (1, .int (nI x)), (2, .int 0), (3, .int 1)], [], M)) rfl rfl rfl (fun c_41 => ?_) (fun c_41 => ?_)
    · have c_41 : ¬ (nI (aN x 314)) = 0 := of_decide_eq_true c_41
      have n_41 : ¬ (aN x 314 = 0) := fun h9 => c_41 ((eq_nI (p := aN x 314) (n := 0) (Nat.lt_of_le_of_lt (an_le _ _) (by decide)) (by decide)).mpr h9)
      refine ps_st (S' := (71, [(0, .ref m0), (1, .int (nI x)), (3, .int 1)], [.int 1], M)) rfl rfl rfl ?_
      refine ps_st (S' := (75, [(0, .ref m0), (1, .int (nI x)), (3, .int 1)], [.int 1], M)) rfl rfl rfl ?_
      refine ps_st (S' := (77, [(4, .int 1), (0, .ref m0), (1, .int (nI x)), (3, .int 1)], [], M)) rfl rfl rfl ?_
      refine ps_st (S' := (78, [(4, .int 1), (0, .ref m0), (1, .int (nI x)), (3, .int 1)], [.int 1], M)) rfl rfl rfl ?_
      refine ps_if (S1 := (102, [(4, .int 1), (0, .ref m0), (1, .int (nI x)), (3, .int 1)], [], M)) (S2 := (81, [(4, .int 1), (0, .ref m0), (1, .int (nI x)), (3, .int 1)], [], M)) rfl rfl rfl (fun c_78 => ?_) (fun c_78 => ?_)
      rotate_left
      · exact absurd (by decide) (of_decide_eq_false c_78)
      refine ps_st (S' := (103, [(4, .int 1), (0, .ref m0), (1, .int (nI x)), (3, .int 1)], [.int (nI x)], M)) rfl rfl rfl ?_
      refine ps_st (S' := (106, [(4, .int 1), (0, .ref m0), (1, .int (nI x)), (3, .int 1)], [.int 308, .int (nI x)], M)) rfl rfl rfl ?_
      refine ps_st (S' := (107, [(4, .int 1), (0, .ref m0), (1, .int (nI x)), (3, .int 1)], [.int ((nI x) &&& 308)], M)) rfl rfl rfl ?_
      rw [nI_an (p := x) (k := 308) (x := 308) rfl]
      show pl _ _ _ (_, [(4, .int 1), (0, .ref m0), (1, .int (nI x)), (3, .int 1)], [.int (nI (aN x 308))], M) _
      refine ps_if (S1 := (112, [(4, .int 1), (0, .ref m0), (1, .int (nI x)), (3, .int 1)], [], M)) (S2 := (110, [(4, .int 1), (0, .ref m0), (1, .int (nI x)), (3, .int 1)], [], M)) rfl rfl rfl (fun c_107 => ?_) (fun c_107 => ?_)
      · have c_107 : (nI (aN x 308)) = 0 := of_decide_eq_true c_107
        have n_107 : aN x 308 = 0 := (eq_nI (p := aN x 308) (n := 0) (Nat.lt_of_le_of_lt (an_le _ _) (by decide)) (by decide)).mp c_107
        refine ps_st (S' := (113, [(4, .int 1), (0, .ref m0), (1, .int (nI x)), (3, .int 1)], [.ref m0], M)) rfl rfl rfl ?_
        refine pr_int (j := 53) (S' := (116, [(4, .int 1), (0, .ref m0), (1, .int (nI x)), (3, .int 1)], [.int (nI mj)], M)) rfl hR rfl hi53 rfl ?_
        refine ps_st (S' := (118, [(4, .int 1), (0, .ref m0), (1, .int (nI x)), (3, .int 1)], [.int 52, .int (nI mj)], M)) rfl rfl rfl ?_
        refine ps_if2 (S1 := (145, [(4, .int 1), (0, .ref m0), (1, .int (nI x)), (3, .int 1)], [], M)) (S2 := (121, [(4, .int 1), (0, .ref m0), (1, .int (nI x)), (3, .int 1)], [], M)) rfl rfl rfl (fun c_118 => ?_) (fun c_118 => ?_)
        · have c_118 : 52 ≤ (nI mj) := of_decide_eq_true c_118
          have n_118 : 52 ≤ mj := (le_nI (p := 52) (n := mj) (by decide) (by omega)).mp c_118
          refine ps_st (S' := (146, [(4, .int 1), (0, .ref m0), (1, .int (nI x)), (3, .int 1)], [.int (nI x)], M)) rfl rfl rfl ?_
          refine ps_st (S' := (147, [(4, .int 1), (0, .ref m0), (1, .int (nI x)), (3, .int 1)], [.int 1, .int (nI x)], M)) rfl rfl rfl ?_
          refine ps_st (S' := (148, [(4, .int 1), (0, .ref m0), (1, .int (nI x)), (3, .int 1)], [.int ((nI x) &&& 1)], M)) rfl rfl rfl ?_
          rw [nI_an (p := x) (k := 1) (x := 1) rfl]
          show pl _ _ _ (_, [(4, .int 1), (0, .ref m0), (1, .int (nI x)), (3, .int 1)], [.int (nI (aN x 1))], M) _
          refine ps_if (S1 := (155, [(4, .int 1), (0, .ref m0), (1, .int (nI x)), (3, .int 1)], [], M)) (S2 := (151, [(4, .int 1), (0, .ref m0), (1, .int (nI x)), (3, .int 1)], [], M)) rfl rfl rfl (fun c_148 => ?_) (fun c_148 => ?_)
          · have c_148 : (nI (aN x 1)) = 0 := of_decide_eq_true c_148
            have n_148 : aN x 1 = 0 := (eq_nI (p := aN x 1) (n := 0) (Nat.lt_of_le_of_lt (an_le _ _) (by decide)) (by decide)).mp c_148
            refine ps_st (S' := (156, [(1, .int (nI x)), (4, .int 1)], [.int 0], M)) rfl rfl rfl ?_
            refine ps_st (S' := (157, [(1, .int (nI x)), (4, .int 1)], [.int (nI x), .int 0], M)) rfl rfl rfl ?_
            refine ps_st (S' := (158, [(1, .int (nI x)), (4, .int 1)], [.int 2, .int (nI x), .int 0], M)) rfl rfl rfl ?_
            refine ps_st (S' := (159, [(1, .int (nI x)), (4, .int 1)], [.int ((nI x) &&& 2), .int 0], M)) rfl rfl rfl ?_
            rw [nI_an (p := x) (k := 2) (x := 2) rfl]
            show pl _ _ _ (_, [(1, .int (nI x)), (4, .int 1)], [.int (nI (aN x 2)), .int 0], M) _
            refine ps_if (S1 := (166, [(1, .int (nI x)), (4, .int 1)], [.int 0], M)) (S2 := (162, [(1, .int (nI x)), (4, .int 1)], [.int 0], M)) rfl rfl rfl (fun c_159 => ?_) (fun c_159 => ?_)
            · have c_159 : (nI (aN x 2)) = 0 := of_decide_eq_true c_159
              have n_159 : aN x 2 = 0 := (eq_nI (p := aN x 2) (n := 0) (Nat.lt_of_le_of_lt (an_le _ _) (by decide)) (by decide)).mp c_159
              refine ps_st (S' := (167, [(4, .int 1)], [.int 0, .int 0], M)) rfl rfl rfl ?_
              refine ps_if2 (S1 := (172, [(4, .int 1)], [], M)) (S2 := (170, [], [], M)) rfl rfl rfl (fun c_167 => ?_) (fun c_167 => ?_)
              · exact absurd (of_decide_eq_true c_167) (by decide)
              refine ps_st (S' := (171, [], [.int 0], M)) rfl rfl rfl ?_
              exact ps_ret rfl rfl (⟨congrArg (fun x => some (Value.int (nI x))) (show 0 = fitN mj c x 0 from by
                  have e3 := has_0 x 1400
                  have e4 := has_0 x 1024
                  have e5 := has_0 c 512
                  have e2 := sev_0 x
                  have b1 := le1_one x
                  have ha : absN mj x = 0 := (abs_0 mj x).mpr (by omega)
                  have b2 := le1_imh mj x
                  have hi : imhN mj x = 0 := (imh_0 mj x).mpr (by omega)
                  unfold fitN
                  first | ((repeat first | rw [if_pos (by omega)] | rw [if_neg (by omega)]) <;> first | rfl | omega) | ((repeat' split) <;> first | rfl | (exfalso; omega) | omega)), rfl⟩)
            · have c_159 : ¬ ((nI (aN x 2)) = 0) := of_decide_eq_false c_159
              have n_159 : ¬ (aN x 2 = 0) := fun h9 => c_159 ((eq_nI (p := aN x 2) (n := 0) (Nat.lt_of_le_of_lt (an_le _ _) (by decide)) (by decide)).mpr h9)
              refine ps_st (S' := (163, [(1, .int (nI x)), (4, .int 1)], [.int 1, .int 0], M)) rfl rfl rfl ?_
              refine ps_st (S' := (167, [(4, .int 1)], [.int 1, .int 0], M)) rfl rfl rfl ?_
              refine ps_if2 (S1 := (172, [(4, .int 1)], [], M)) (S2 := (170, [], [], M)) rfl rfl rfl (fun c_167 => ?_) (fun c_167 => ?_)
              rotate_left
              · exact absurd (by decide) (of_decide_eq_false c_167)
              refine ps_st (S' := (174, [(4, .int 1)], [.int 1], M)) rfl rfl rfl ?_
              refine ps_if (S1 := (181, [(4, .int 1)], [], M)) (S2 := (177, [(4, .int 1)], [], M)) rfl rfl rfl (fun c_174 => ?_) (fun c_174 => ?_)
              rotate_left
              · exact absurd (by decide) (of_decide_eq_false c_174)
              refine ps_st (S' := (182, [], [.int 0], M)) rfl rfl rfl ?_
              exact ps_ret rfl rfl (⟨congrArg (fun x => some (Value.int (nI x))) (show 0 = fitN mj c x 0 from by
                  have e3 := has_0 x 1400
                  have e4 := has_0 x 1024
                  have e5 := has_0 c 512
                  have e2 := sev_0 x
                  have b1 := le1_one x
                  have ha : absN mj x = 0 := (abs_0 mj x).mpr (by omega)
                  have b2 := le1_imh mj x
                  have hi : ¬ imhN mj x = 0 := fun h => absurd ((imh_0 mj x).mp h) (by omega)
                  unfold fitN
                  first | ((repeat first | rw [if_pos (by omega)] | rw [if_neg (by omega)]) <;> first | rfl | omega) | ((repeat' split) <;> first | rfl | (exfalso; omega) | omega)), rfl⟩)
          · have c_148 : ¬ ((nI (aN x 1)) = 0) := of_decide_eq_false c_148
            have n_148 : ¬ (aN x 1 = 0) := fun h9 => c_148 ((eq_nI (p := aN x 1) (n := 0) (Nat.lt_of_le_of_lt (an_le _ _) (by decide)) (by decide)).mpr h9)
            refine ps_st (S' := (152, [(4, .int 1), (0, .ref m0), (1, .int (nI x)), (3, .int 1)], [.int 1], M)) rfl rfl rfl ?_
            refine ps_st (S' := (156, [(1, .int (nI x)), (4, .int 1)], [.int 1], M)) rfl rfl rfl ?_
            refine ps_st (S' := (157, [(1, .int (nI x)), (4, .int 1)], [.int (nI x), .int 1], M)) rfl rfl rfl ?_
            refine ps_st (S' := (158, [(1, .int (nI x)), (4, .int 1)], [.int 2, .int (nI x), .int 1], M)) rfl rfl rfl ?_
            refine ps_st (S' := (159, [(1, .int (nI x)), (4, .int 1)], [.int ((nI x) &&& 2), .int 1], M)) rfl rfl rfl ?_
            rw [nI_an (p := x) (k := 2) (x := 2) rfl]
            show pl _ _ _ (_, [(1, .int (nI x)), (4, .int 1)], [.int (nI (aN x 2)), .int 1], M) _
            refine ps_if (S1 := (166, [(1, .int (nI x)), (4, .int 1)], [.int 1], M)) (S2 := (162, [(1, .int (nI x)), (4, .int 1)], [.int 1], M)) rfl rfl rfl (fun c_159 => ?_) (fun c_159 => ?_)
            · have c_159 : (nI (aN x 2)) = 0 := of_decide_eq_true c_159
              have n_159 : aN x 2 = 0 := (eq_nI (p := aN x 2) (n := 0) (Nat.lt_of_le_of_lt (an_le _ _) (by decide)) (by decide)).mp c_159
              refine ps_st (S' := (167, [(4, .int 1)], [.int 0, .int 1], M)) rfl rfl rfl ?_
              refine ps_if2 (S1 := (172, [(4, .int 1)], [], M)) (S2 := (170, [], [], M)) rfl rfl rfl (fun c_167 => ?_) (fun c_167 => ?_)
              rotate_left
              · exact absurd (by decide) (of_decide_eq_false c_167)
              refine ps_st (S' := (174, [(4, .int 1)], [.int 1], M)) rfl rfl rfl ?_
              refine ps_if (S1 := (181, [(4, .int 1)], [], M)) (S2 := (177, [(4, .int 1)], [], M)) rfl rfl rfl (fun c_174 => ?_) (fun c_174 => ?_)
              rotate_left
              · exact absurd (by decide) (of_decide_eq_false c_174)
              refine ps_st (S' := (182, [], [.int 0], M)) rfl rfl rfl ?_
              exact ps_ret rfl rfl (⟨congrArg (fun x => some (Value.int (nI x))) (show 0 = fitN mj c x 0 from by
                  have e3 := has_0 x 1400
                  have e4 := has_0 x 1024
                  have e5 := has_0 c 512
                  have e2 := sev_0 x
                  have b1 := le1_one x
                  have ha : absN mj x = 0 := (abs_0 mj x).mpr (by omega)
                  have b2 := le1_imh mj x
                  have hi : ¬ imhN mj x = 0 := fun h => absurd ((imh_0 mj x).mp h) (by omega)
                  unfold fitN
                  first | ((repeat first | rw [if_pos (by omega)] | rw [if_neg (by omega)]) <;> first | rfl | omega) | ((repeat' split) <;> first | rfl | (exfalso; omega) | omega)), rfl⟩)
            · have c_159 : ¬ ((nI (aN x 2)) = 0) := of_decide_eq_false c_159
              have n_159 : ¬ (aN x 2 = 0) := fun h9 => c_159 ((eq_nI (p := aN x 2) (n := 0) (Nat.lt_of_le_of_lt (an_le _ _) (by decide)) (by decide)).mpr h9)
              refine ps_st (S' := (163, [(1, .int (nI x)), (4, .int 1)], [.int 1, .int 1], M)) rfl rfl rfl ?_
              refine ps_st (S' := (167, [(4, .int 1)], [.int 1, .int 1], M)) rfl rfl rfl ?_
              refine ps_if2 (S1 := (172, [(4, .int 1)], [], M)) (S2 := (170, [], [], M)) rfl rfl rfl (fun c_167 => ?_) (fun c_167 => ?_)
              · exact absurd (of_decide_eq_true c_167) (by decide)
              refine ps_st (S' := (171, [], [.int 0], M)) rfl rfl rfl ?_
              exact ps_ret rfl rfl (⟨congrArg (fun x => some (Value.int (nI x))) (show 0 = fitN mj c x 0 from by
                  have e3 := has_0 x 1400
                  have e4 := has_0 x 1024
                  have e5 := has_0 c 512
                  have e2 := sev_0 x
                  have b1 := le1_one x
                  have ha : absN mj x = 0 := (abs_0 mj x).mpr (by omega)
                  have b2 := le1_imh mj x
                  have hi : imhN mj x = 0 := (imh_0 mj x).mpr (by omega)
                  unfold fitN
                  first | ((repeat first | rw [if_pos (by omega)] | rw [if_neg (by omega)]) <;> first | rfl | omega) | ((repeat' split) <;> first | rfl | (exfalso; omega) | omega)), rfl⟩)
        · have c_118 : ¬ (52 ≤ (nI mj)) := of_decide_eq_false c_118
          have n_118 : ¬ (52 ≤ mj) := fun h9 => c_118 ((le_nI (p := 52) (n := mj) (by decide) (by omega)).mpr h9)
          refine ps_st (S' := (122, [(4, .int 1), (0, .ref m0), (1, .int (nI x)), (3, .int 1)], [.int (nI x)], M)) rfl rfl rfl ?_
          refine ps_st (S' := (123, [(4, .int 1), (0, .ref m0), (1, .int (nI x)), (3, .int 1)], [.int 1, .int (nI x)], M)) rfl rfl rfl ?_
          refine ps_st (S' := (124, [(4, .int 1), (0, .ref m0), (1, .int (nI x)), (3, .int 1)], [.int ((nI x) &&& 1)], M)) rfl rfl rfl ?_
          rw [nI_an (p := x) (k := 1) (x := 1) rfl]
          show pl _ _ _ (_, [(4, .int 1), (0, .ref m0), (1, .int (nI x)), (3, .int 1)], [.int (nI (aN x 1))], M) _
          refine ps_if (S1 := (170, [], [], M)) (S2 := (127, [(4, .int 1), (0, .ref m0), (1, .int (nI x)), (3, .int 1)], [], M)) rfl rfl rfl (fun c_124 => ?_) (fun c_124 => ?_)
          · have c_124 : (nI (aN x 1)) = 0 := of_decide_eq_true c_124
            have n_124 : aN x 1 = 0 := (eq_nI (p := aN x 1) (n := 0) (Nat.lt_of_le_of_lt (an_le _ _) (by decide)) (by decide)).mp c_124
            refine ps_st (S' := (171, [], [.int 0], M)) rfl rfl rfl ?_
            exact ps_ret rfl rfl (⟨congrArg (fun x => some (Value.int (nI x))) (show 0 = fitN mj c x 0 from by
                have e3 := has_0 x 1400
                have e4 := has_0 x 1024
                have e5 := has_0 c 512
                have e2 := sev_0 x
                have b1 := le1_one x
                have ha : absN mj x = 0 := (abs_0 mj x).mpr (by omega)
                have b2 := le1_imh mj x
                have hi : imhN mj x = 0 := (imh_0 mj x).mpr (by omega)
                unfold fitN
                first | ((repeat first | rw [if_pos (by omega)] | rw [if_neg (by omega)]) <;> first | rfl | omega) | ((repeat' split) <;> first | rfl | (exfalso; omega) | omega)), rfl⟩)
          · have c_124 : ¬ ((nI (aN x 1)) = 0) := of_decide_eq_false c_124
            have n_124 : ¬ (aN x 1 = 0) := fun h9 => c_124 ((eq_nI (p := aN x 1) (n := 0) (Nat.lt_of_le_of_lt (an_le _ _) (by decide)) (by decide)).mpr h9)
            refine ps_st (S' := (128, [(4, .int 1), (0, .ref m0), (1, .int (nI x)), (3, .int 1)], [.int (nI x)], M)) rfl rfl rfl ?_
            refine ps_st (S' := (131, [(4, .int 1), (0, .ref m0), (1, .int (nI x)), (3, .int 1)], [.int 1024, .int (nI x)], M)) rfl rfl rfl ?_
            refine ps_st (S' := (132, [(4, .int 1), (0, .ref m0), (1, .int (nI x)), (3, .int 1)], [.int ((nI x) &&& 1024)], M)) rfl rfl rfl ?_
            rw [nI_an (p := x) (k := 1024) (x := 1024) rfl]
            show pl _ _ _ (_, [(4, .int 1), (0, .ref m0), (1, .int (nI x)), (3, .int 1)], [.int (nI (aN x 1024))], M) _
            refine ps_if (S1 := (170, [], [], M)) (S2 := (135, [(4, .int 1), (0, .ref m0), (1, .int (nI x)), (3, .int 1)], [], M)) rfl rfl rfl (fun c_132 => ?_) (fun c_132 => ?_)
            · exact absurd (of_decide_eq_true c_132) (show ¬ ((nI (aN x 1024)) = 0) from fun h9 => absurd ((eq_nI (p := aN x 1024) (n := 0) (Nat.lt_of_le_of_lt (an_le _ _) (by decide)) (by decide)).mp h9) (by omega))
            refine ps_st (S' := (136, [(4, .int 1), (0, .ref m0), (1, .int (nI x)), (3, .int 1)], [.int (nI x)], M)) rfl rfl rfl ?_
            refine ps_st (S' := (138, [(4, .int 1), (0, .ref m0), (1, .int (nI x)), (3, .int 1)], [.int 8, .int (nI x)], M)) rfl rfl rfl ?_
            refine ps_st (S' := (139, [(4, .int 1), (0, .ref m0), (1, .int (nI x)), (3, .int 1)], [.int ((nI x) &&& 8)], M)) rfl rfl rfl ?_
            rw [nI_an (p := x) (k := 8) (x := 8) rfl]
            show pl _ _ _ (_, [(4, .int 1), (0, .ref m0), (1, .int (nI x)), (3, .int 1)], [.int (nI (aN x 8))], M) _
            refine ps_if (S1 := (172, [(4, .int 1)], [], M)) (S2 := (142, [(4, .int 1), (0, .ref m0), (1, .int (nI x)), (3, .int 1)], [], M)) rfl rfl rfl (fun c_139 => ?_) (fun c_139 => ?_)
            · have c_139 : (nI (aN x 8)) = 0 := of_decide_eq_true c_139
              have n_139 : aN x 8 = 0 := (eq_nI (p := aN x 8) (n := 0) (Nat.lt_of_le_of_lt (an_le _ _) (by decide)) (by decide)).mp c_139
              refine ps_st (S' := (174, [(4, .int 1)], [.int 1], M)) rfl rfl rfl ?_
              refine ps_if (S1 := (181, [(4, .int 1)], [], M)) (S2 := (177, [(4, .int 1)], [], M)) rfl rfl rfl (fun c_174 => ?_) (fun c_174 => ?_)
              rotate_left
              · exact absurd (by decide) (of_decide_eq_false c_174)
              refine ps_st (S' := (182, [], [.int 0], M)) rfl rfl rfl ?_
              exact ps_ret rfl rfl (⟨congrArg (fun x => some (Value.int (nI x))) (show 0 = fitN mj c x 0 from by
                  have e3 := has_0 x 1400
                  have e4 := has_0 x 1024
                  have e5 := has_0 c 512
                  have e2 := sev_0 x
                  have b1 := le1_one x
                  have ha : absN mj x = 0 := (abs_0 mj x).mpr (by omega)
                  have b2 := le1_imh mj x
                  have hi : ¬ imhN mj x = 0 := fun h => absurd ((imh_0 mj x).mp h) (by omega)
                  unfold fitN
                  first | ((repeat first | rw [if_pos (by omega)] | rw [if_neg (by omega)]) <;> first | rfl | omega) | ((repeat' split) <;> first | rfl | (exfalso; omega) | omega)), rfl⟩)
            · have c_139 : ¬ ((nI (aN x 8)) = 0) := of_decide_eq_false c_139
              have n_139 : ¬ (aN x 8 = 0) := fun h9 => c_139 ((eq_nI (p := aN x 8) (n := 0) (Nat.lt_of_le_of_lt (an_le _ _) (by decide)) (by decide)).mpr h9)
              refine ps_st (S' := (170, [], [], M)) rfl rfl rfl ?_
              refine ps_st (S' := (171, [], [.int 0], M)) rfl rfl rfl ?_
              exact ps_ret rfl rfl (⟨congrArg (fun x => some (Value.int (nI x))) (show 0 = fitN mj c x 0 from by
                  have e3 := has_0 x 1400
                  have e4 := has_0 x 1024
                  have e5 := has_0 c 512
                  have e2 := sev_0 x
                  have b1 := le1_one x
                  have ha : absN mj x = 0 := (abs_0 mj x).mpr (by omega)
                  have b2 := le1_imh mj x
                  have hi : imhN mj x = 0 := (imh_0 mj x).mpr (by omega)
                  unfold fitN
                  first | ((repeat first | rw [if_pos (by omega)] | rw [if_neg (by omega)]) <;> first | rfl | omega) | ((repeat' split) <;> first | rfl | (exfalso; omega) | omega)), rfl⟩)
      · have c_107 : ¬ ((nI (aN x 308)) = 0) := of_decide_eq_false c_107
        have n_107 : ¬ (aN x 308 = 0) := fun h9 => c_107 ((eq_nI (p := aN x 308) (n := 0) (Nat.lt_of_le_of_lt (an_le _ _) (by decide)) (by decide)).mpr h9)
        refine ps_st (S' := (111, [(4, .int 1), (0, .ref m0), (1, .int (nI x)), (3, .int 1)], [.int 0], M)) rfl rfl rfl ?_
        exact ps_ret rfl rfl (⟨congrArg (fun x => some (Value.int (nI x))) (show 0 = fitN mj c x 0 from by
            have e3 := has_0 x 1400
            have e4 := has_0 x 1024
            have e5 := has_0 c 512
            have e2 := sev_0 x
            have b1 := le1_one x
            have ha : absN mj x = 0 := (abs_0 mj x).mpr (by omega)
            have b2 := le1_imh mj x
            have hi : imhN mj x = 0 := (imh_0 mj x).mpr (by omega)
            unfold fitN
            first | ((repeat first | rw [if_pos (by omega)] | rw [if_neg (by omega)]) <;> first | rfl | omega) | ((repeat' split) <;> first | rfl | (exfalso; omega) | omega)), rfl⟩)
    · have c_41 : ¬ (¬ (nI (aN x 314)) = 0) := of_decide_eq_false c_41
      have n_41 : aN x 314 = 0 := (eq_nI (p := aN x 314) (n := 0) (Nat.lt_of_le_of_lt (an_le _ _) (by decide)) (by decide)).mp (Decidable.not_not.mp c_41)
      refine ps_st (S' := (45, [(0, .ref m0), (1, .int (nI x)), (2, .int 0), (3, .int 1)], [.ref m0], M)) rfl rfl rfl ?_
      refine pr_int (j := 53) (S' := (48, [(0, .ref m0), (1, .int (nI x)), (2, .int 0), (3, .int 1)], [.int (nI mj)], M)) rfl hR rfl hi53 rfl ?_
      refine ps_st (S' := (50, [(0, .ref m0), (1, .int (nI x)), (2, .int 0), (3, .int 1)], [.int 46, .int (nI mj)], M)) rfl rfl rfl ?_
      refine ps_if2 (S1 := (74, [(0, .ref m0), (1, .int (nI x)), (3, .int 1)], [], M)) (S2 := (53, [(0, .ref m0), (1, .int (nI x)), (2, .int 0), (3, .int 1)], [], M)) rfl rfl rfl (fun c_50 => ?_) (fun c_50 => ?_)
      · have c_50 : (nI mj) < 46 := of_decide_eq_true c_50
        have n_50 : mj < 46 := (lt_nI (p := mj) (n := 46) (by omega) (by decide)).mp c_50
        refine ps_st (S' := (75, [(0, .ref m0), (1, .int (nI x)), (3, .int 1)], [.int 0], M)) rfl rfl rfl ?_
        refine ps_st (S' := (77, [(4, .int 0), (0, .ref m0), (1, .int (nI x)), (3, .int 1)], [], M)) rfl rfl rfl ?_
        refine ps_st (S' := (78, [(4, .int 0), (0, .ref m0), (1, .int (nI x)), (3, .int 1)], [.int 1], M)) rfl rfl rfl ?_
        refine ps_if (S1 := (102, [(4, .int 0), (0, .ref m0), (1, .int (nI x)), (3, .int 1)], [], M)) (S2 := (81, [(4, .int 0), (0, .ref m0), (1, .int (nI x)), (3, .int 1)], [], M)) rfl rfl rfl (fun c_78 => ?_) (fun c_78 => ?_)
        rotate_left
        · exact absurd (by decide) (of_decide_eq_false c_78)
        refine ps_st (S' := (103, [(4, .int 0), (0, .ref m0), (1, .int (nI x)), (3, .int 1)], [.int (nI x)], M)) rfl rfl rfl ?_
        refine ps_st (S' := (106, [(4, .int 0), (0, .ref m0), (1, .int (nI x)), (3, .int 1)], [.int 308, .int (nI x)], M)) rfl rfl rfl ?_
        refine ps_st (S' := (107, [(4, .int 0), (0, .ref m0), (1, .int (nI x)), (3, .int 1)], [.int ((nI x) &&& 308)], M)) rfl rfl rfl ?_
        rw [nI_an (p := x) (k := 308) (x := 308) rfl]
        show pl _ _ _ (_, [(4, .int 0), (0, .ref m0), (1, .int (nI x)), (3, .int 1)], [.int (nI (aN x 308))], M) _
        refine ps_if (S1 := (112, [(4, .int 0), (0, .ref m0), (1, .int (nI x)), (3, .int 1)], [], M)) (S2 := (110, [(4, .int 0), (0, .ref m0), (1, .int (nI x)), (3, .int 1)], [], M)) rfl rfl rfl (fun c_107 => ?_) (fun c_107 => ?_)
        · have c_107 : (nI (aN x 308)) = 0 := of_decide_eq_true c_107
          have n_107 : aN x 308 = 0 := (eq_nI (p := aN x 308) (n := 0) (Nat.lt_of_le_of_lt (an_le _ _) (by decide)) (by decide)).mp c_107
          refine ps_st (S' := (113, [(4, .int 0), (0, .ref m0), (1, .int (nI x)), (3, .int 1)], [.ref m0], M)) rfl rfl rfl ?_
          refine pr_int (j := 53) (S' := (116, [(4, .int 0), (0, .ref m0), (1, .int (nI x)), (3, .int 1)], [.int (nI mj)], M)) rfl hR rfl hi53 rfl ?_
          refine ps_st (S' := (118, [(4, .int 0), (0, .ref m0), (1, .int (nI x)), (3, .int 1)], [.int 52, .int (nI mj)], M)) rfl rfl rfl ?_
          refine ps_if2 (S1 := (145, [(4, .int 0), (0, .ref m0), (1, .int (nI x)), (3, .int 1)], [], M)) (S2 := (121, [(4, .int 0), (0, .ref m0), (1, .int (nI x)), (3, .int 1)], [], M)) rfl rfl rfl (fun c_118 => ?_) (fun c_118 => ?_)
          · exact absurd (of_decide_eq_true c_118) (show ¬ (52 ≤ (nI mj)) from fun h9 => absurd ((le_nI (p := 52) (n := mj) (by decide) (by omega)).mp h9) (by omega))
          refine ps_st (S' := (122, [(4, .int 0), (0, .ref m0), (1, .int (nI x)), (3, .int 1)], [.int (nI x)], M)) rfl rfl rfl ?_
          refine ps_st (S' := (123, [(4, .int 0), (0, .ref m0), (1, .int (nI x)), (3, .int 1)], [.int 1, .int (nI x)], M)) rfl rfl rfl ?_
          refine ps_st (S' := (124, [(4, .int 0), (0, .ref m0), (1, .int (nI x)), (3, .int 1)], [.int ((nI x) &&& 1)], M)) rfl rfl rfl ?_
          rw [nI_an (p := x) (k := 1) (x := 1) rfl]
          show pl _ _ _ (_, [(4, .int 0), (0, .ref m0), (1, .int (nI x)), (3, .int 1)], [.int (nI (aN x 1))], M) _
          refine ps_if (S1 := (170, [], [], M)) (S2 := (127, [(4, .int 0), (0, .ref m0), (1, .int (nI x)), (3, .int 1)], [], M)) rfl rfl rfl (fun c_124 => ?_) (fun c_124 => ?_)
          · have c_124 : (nI (aN x 1)) = 0 := of_decide_eq_true c_124
            have n_124 : aN x 1 = 0 := (eq_nI (p := aN x 1) (n := 0) (Nat.lt_of_le_of_lt (an_le _ _) (by decide)) (by decide)).mp c_124
            refine ps_st (S' := (171, [], [.int 0], M)) rfl rfl rfl ?_
            exact ps_ret rfl rfl (⟨congrArg (fun x => some (Value.int (nI x))) (show 0 = fitN mj c x 0 from by
                have e3 := has_0 x 1400
                have e4 := has_0 x 1024
                have e5 := has_0 c 512
                have e2 := sev_0 x
                have b1 := le1_one x
                have ha : ¬ absN mj x = 0 := fun h => absurd ((abs_0 mj x).mp h) (by omega)
                have b2 := le1_imh mj x
                have hi : imhN mj x = 0 := (imh_0 mj x).mpr (by omega)
                unfold fitN
                first | ((repeat first | rw [if_pos (by omega)] | rw [if_neg (by omega)]) <;> first | rfl | omega) | ((repeat' split) <;> first | rfl | (exfalso; omega) | omega)), rfl⟩)
          · have c_124 : ¬ ((nI (aN x 1)) = 0) := of_decide_eq_false c_124
            have n_124 : ¬ (aN x 1 = 0) := fun h9 => c_124 ((eq_nI (p := aN x 1) (n := 0) (Nat.lt_of_le_of_lt (an_le _ _) (by decide)) (by decide)).mpr h9)
            refine ps_st (S' := (128, [(4, .int 0), (0, .ref m0), (1, .int (nI x)), (3, .int 1)], [.int (nI x)], M)) rfl rfl rfl ?_
            refine ps_st (S' := (131, [(4, .int 0), (0, .ref m0), (1, .int (nI x)), (3, .int 1)], [.int 1024, .int (nI x)], M)) rfl rfl rfl ?_
            refine ps_st (S' := (132, [(4, .int 0), (0, .ref m0), (1, .int (nI x)), (3, .int 1)], [.int ((nI x) &&& 1024)], M)) rfl rfl rfl ?_
            rw [nI_an (p := x) (k := 1024) (x := 1024) rfl]
            show pl _ _ _ (_, [(4, .int 0), (0, .ref m0), (1, .int (nI x)), (3, .int 1)], [.int (nI (aN x 1024))], M) _
            refine ps_if (S1 := (170, [], [], M)) (S2 := (135, [(4, .int 0), (0, .ref m0), (1, .int (nI x)), (3, .int 1)], [], M)) rfl rfl rfl (fun c_132 => ?_) (fun c_132 => ?_)
            · exact absurd (of_decide_eq_true c_132) (show ¬ ((nI (aN x 1024)) = 0) from fun h9 => absurd ((eq_nI (p := aN x 1024) (n := 0) (Nat.lt_of_le_of_lt (an_le _ _) (by decide)) (by decide)).mp h9) (by omega))
            refine ps_st (S' := (136, [(4, .int 0), (0, .ref m0), (1, .int (nI x)), (3, .int 1)], [.int (nI x)], M)) rfl rfl rfl ?_
            refine ps_st (S' := (138, [(4, .int 0), (0, .ref m0), (1, .int (nI x)), (3, .int 1)], [.int 8, .int (nI x)], M)) rfl rfl rfl ?_
            refine ps_st (S' := (139, [(4, .int 0), (0, .ref m0), (1, .int (nI x)), (3, .int 1)], [.int ((nI x) &&& 8)], M)) rfl rfl rfl ?_
            rw [nI_an (p := x) (k := 8) (x := 8) rfl]
            show pl _ _ _ (_, [(4, .int 0), (0, .ref m0), (1, .int (nI x)), (3, .int 1)], [.int (nI (aN x 8))], M) _
            refine ps_if (S1 := (172, [(4, .int 0)], [], M)) (S2 := (142, [(4, .int 0), (0, .ref m0), (1, .int (nI x)), (3, .int 1)], [], M)) rfl rfl rfl (fun c_139 => ?_) (fun c_139 => ?_)
            · have c_139 : (nI (aN x 8)) = 0 := of_decide_eq_true c_139
              have n_139 : aN x 8 = 0 := (eq_nI (p := aN x 8) (n := 0) (Nat.lt_of_le_of_lt (an_le _ _) (by decide)) (by decide)).mp c_139
              refine ps_st (S' := (174, [(4, .int 0)], [.int 0], M)) rfl rfl rfl ?_
              refine ps_if (S1 := (181, [(4, .int 0)], [], M)) (S2 := (177, [(4, .int 0)], [], M)) rfl rfl rfl (fun c_174 => ?_) (fun c_174 => ?_)
              · exact absurd (of_decide_eq_true c_174) (by decide)
              refine ps_st (S' := (178, [(4, .int 0)], [.int 1], M)) rfl rfl rfl ?_
              refine ps_st (S' := (182, [], [.int 1], M)) rfl rfl rfl ?_
              exact ps_ret rfl rfl (⟨congrArg (fun x => some (Value.int (nI x))) (show 1 = fitN mj c x 0 from by
                  have e3 := has_0 x 1400
                  have e4 := has_0 x 1024
                  have e5 := has_0 c 512
                  have e2 := sev_0 x
                  have b1 := le1_one x
                  have ha : ¬ absN mj x = 0 := fun h => absurd ((abs_0 mj x).mp h) (by omega)
                  have b2 := le1_imh mj x
                  have hi : ¬ imhN mj x = 0 := fun h => absurd ((imh_0 mj x).mp h) (by omega)
                  unfold fitN
                  first | ((repeat first | rw [if_pos (by omega)] | rw [if_neg (by omega)]) <;> first | rfl | omega) | ((repeat' split) <;> first | rfl | (exfalso; omega) | omega)), rfl⟩)
            · have c_139 : ¬ ((nI (aN x 8)) = 0) := of_decide_eq_false c_139
              have n_139 : ¬ (aN x 8 = 0) := fun h9 => c_139 ((eq_nI (p := aN x 8) (n := 0) (Nat.lt_of_le_of_lt (an_le _ _) (by decide)) (by decide)).mpr h9)
              refine ps_st (S' := (170, [], [], M)) rfl rfl rfl ?_
              refine ps_st (S' := (171, [], [.int 0], M)) rfl rfl rfl ?_
              exact ps_ret rfl rfl (⟨congrArg (fun x => some (Value.int (nI x))) (show 0 = fitN mj c x 0 from by
                  have e3 := has_0 x 1400
                  have e4 := has_0 x 1024
                  have e5 := has_0 c 512
                  have e2 := sev_0 x
                  have b1 := le1_one x
                  have ha : ¬ absN mj x = 0 := fun h => absurd ((abs_0 mj x).mp h) (by omega)
                  have b2 := le1_imh mj x
                  have hi : imhN mj x = 0 := (imh_0 mj x).mpr (by omega)
                  unfold fitN
                  first | ((repeat first | rw [if_pos (by omega)] | rw [if_neg (by omega)]) <;> first | rfl | omega) | ((repeat' split) <;> first | rfl | (exfalso; omega) | omega)), rfl⟩)
        · have c_107 : ¬ ((nI (aN x 308)) = 0) := of_decide_eq_false c_107
          have n_107 : ¬ (aN x 308 = 0) := fun h9 => c_107 ((eq_nI (p := aN x 308) (n := 0) (Nat.lt_of_le_of_lt (an_le _ _) (by decide)) (by decide)).mpr h9)
          refine ps_st (S' := (111, [(4, .int 0), (0, .ref m0), (1, .int (nI x)), (3, .int 1)], [.int 0], M)) rfl rfl rfl ?_
          exact ps_ret rfl rfl (⟨congrArg (fun x => some (Value.int (nI x))) (show 0 = fitN mj c x 0 from by
              have e3 := has_0 x 1400
              have e4 := has_0 x 1024
              have e5 := has_0 c 512
              have e2 := sev_0 x
              have b1 := le1_one x
              have ha : ¬ absN mj x = 0 := fun h => absurd ((abs_0 mj x).mp h) (by omega)
              have b2 := le1_imh mj x
              have hi : imhN mj x = 0 := (imh_0 mj x).mpr (by omega)
              unfold fitN
              first | ((repeat first | rw [if_pos (by omega)] | rw [if_neg (by omega)]) <;> first | rfl | omega) | ((repeat' split) <;> first | rfl | (exfalso; omega) | omega)), rfl⟩)
      · have c_50 : ¬ ((nI mj) < 46) := of_decide_eq_false c_50
        have n_50 : ¬ (mj < 46) := fun h9 => c_50 ((lt_nI (p := mj) (n := 46) (by omega) (by decide)).mpr h9)
        refine ps_st (S' := (54, [(0, .ref m0), (1, .int (nI x)), (2, .int 0), (3, .int 1)], [.ref m0], M)) rfl rfl rfl ?_
        refine pr_int (j := 53) (S' := (57, [(0, .ref m0), (1, .int (nI x)), (2, .int 0), (3, .int 1)], [.int (nI mj)], M)) rfl hR rfl hi53 rfl ?_
        refine ps_st (S' := (59, [(0, .ref m0), (1, .int (nI x)), (2, .int 0), (3, .int 1)], [.int 60, .int (nI mj)], M)) rfl rfl rfl ?_
        refine ps_if2 (S1 := (74, [(0, .ref m0), (1, .int (nI x)), (3, .int 1)], [], M)) (S2 := (62, [(0, .ref m0), (1, .int (nI x)), (2, .int 0), (3, .int 1)], [], M)) rfl rfl rfl (fun c_59 => ?_) (fun c_59 => ?_)
        · have c_59 : 60 < (nI mj) := of_decide_eq_true c_59
          have n_59 : 60 < mj := (lt_nI (p := 60) (n := mj) (by decide) (by omega)).mp c_59
          refine ps_st (S' := (75, [(0, .ref m0), (1, .int (nI x)), (3, .int 1)], [.int 0], M)) rfl rfl rfl ?_
          refine ps_st (S' := (77, [(4, .int 0), (0, .ref m0), (1, .int (nI x)), (3, .int 1)], [], M)) rfl rfl rfl ?_
          refine ps_st (S' := (78, [(4, .int 0), (0, .ref m0), (1, .int (nI x)), (3, .int 1)], [.int 1], M)) rfl rfl rfl ?_
          refine ps_if (S1 := (102, [(4, .int 0), (0, .ref m0), (1, .int (nI x)), (3, .int 1)], [], M)) (S2 := (81, [(4, .int 0), (0, .ref m0), (1, .int (nI x)), (3, .int 1)], [], M)) rfl rfl rfl (fun c_78 => ?_) (fun c_78 => ?_)
          rotate_left
          · exact absurd (by decide) (of_decide_eq_false c_78)
          refine ps_st (S' := (103, [(4, .int 0), (0, .ref m0), (1, .int (nI x)), (3, .int 1)], [.int (nI x)], M)) rfl rfl rfl ?_
          refine ps_st (S' := (106, [(4, .int 0), (0, .ref m0), (1, .int (nI x)), (3, .int 1)], [.int 308, .int (nI x)], M)) rfl rfl rfl ?_
          refine ps_st (S' := (107, [(4, .int 0), (0, .ref m0), (1, .int (nI x)), (3, .int 1)], [.int ((nI x) &&& 308)], M)) rfl rfl rfl ?_
          rw [nI_an (p := x) (k := 308) (x := 308) rfl]
          show pl _ _ _ (_, [(4, .int 0), (0, .ref m0), (1, .int (nI x)), (3, .int 1)], [.int (nI (aN x 308))], M) _
          refine ps_if (S1 := (112, [(4, .int 0), (0, .ref m0), (1, .int (nI x)), (3, .int 1)], [], M)) (S2 := (110, [(4, .int 0), (0, .ref m0), (1, .int (nI x)), (3, .int 1)], [], M)) rfl rfl rfl (fun c_107 => ?_) (fun c_107 => ?_)
          · have c_107 : (nI (aN x 308)) = 0 := of_decide_eq_true c_107
            have n_107 : aN x 308 = 0 := (eq_nI (p := aN x 308) (n := 0) (Nat.lt_of_le_of_lt (an_le _ _) (by decide)) (by decide)).mp c_107
            refine ps_st (S' := (113, [(4, .int 0), (0, .ref m0), (1, .int (nI x)), (3, .int 1)], [.ref m0], M)) rfl rfl rfl ?_
            refine pr_int (j := 53) (S' := (116, [(4, .int 0), (0, .ref m0), (1, .int (nI x)), (3, .int 1)], [.int (nI mj)], M)) rfl hR rfl hi53 rfl ?_
            refine ps_st (S' := (118, [(4, .int 0), (0, .ref m0), (1, .int (nI x)), (3, .int 1)], [.int 52, .int (nI mj)], M)) rfl rfl rfl ?_
            refine ps_if2 (S1 := (145, [(4, .int 0), (0, .ref m0), (1, .int (nI x)), (3, .int 1)], [], M)) (S2 := (121, [(4, .int 0), (0, .ref m0), (1, .int (nI x)), (3, .int 1)], [], M)) rfl rfl rfl (fun c_118 => ?_) (fun c_118 => ?_)
            rotate_left
            · exact absurd ((le_nI (p := 52) (n := mj) (by decide) (by omega)).mpr (by omega)) (of_decide_eq_false c_118)
            refine ps_st (S' := (146, [(4, .int 0), (0, .ref m0), (1, .int (nI x)), (3, .int 1)], [.int (nI x)], M)) rfl rfl rfl ?_
            refine ps_st (S' := (147, [(4, .int 0), (0, .ref m0), (1, .int (nI x)), (3, .int 1)], [.int 1, .int (nI x)], M)) rfl rfl rfl ?_
            refine ps_st (S' := (148, [(4, .int 0), (0, .ref m0), (1, .int (nI x)), (3, .int 1)], [.int ((nI x) &&& 1)], M)) rfl rfl rfl ?_
            rw [nI_an (p := x) (k := 1) (x := 1) rfl]
            show pl _ _ _ (_, [(4, .int 0), (0, .ref m0), (1, .int (nI x)), (3, .int 1)], [.int (nI (aN x 1))], M) _
            refine ps_if (S1 := (155, [(4, .int 0), (0, .ref m0), (1, .int (nI x)), (3, .int 1)], [], M)) (S2 := (151, [(4, .int 0), (0, .ref m0), (1, .int (nI x)), (3, .int 1)], [], M)) rfl rfl rfl (fun c_148 => ?_) (fun c_148 => ?_)
            · have c_148 : (nI (aN x 1)) = 0 := of_decide_eq_true c_148
              have n_148 : aN x 1 = 0 := (eq_nI (p := aN x 1) (n := 0) (Nat.lt_of_le_of_lt (an_le _ _) (by decide)) (by decide)).mp c_148
              refine ps_st (S' := (156, [(1, .int (nI x)), (4, .int 0)], [.int 0], M)) rfl rfl rfl ?_
              refine ps_st (S' := (157, [(1, .int (nI x)), (4, .int 0)], [.int (nI x), .int 0], M)) rfl rfl rfl ?_
              refine ps_st (S' := (158, [(1, .int (nI x)), (4, .int 0)], [.int 2, .int (nI x), .int 0], M)) rfl rfl rfl ?_
              refine ps_st (S' := (159, [(1, .int (nI x)), (4, .int 0)], [.int ((nI x) &&& 2), .int 0], M)) rfl rfl rfl ?_
              rw [nI_an (p := x) (k := 2) (x := 2) rfl]
              show pl _ _ _ (_, [(1, .int (nI x)), (4, .int 0)], [.int (nI (aN x 2)), .int 0], M) _
              refine ps_if (S1 := (166, [(1, .int (nI x)), (4, .int 0)], [.int 0], M)) (S2 := (162, [(1, .int (nI x)), (4, .int 0)], [.int 0], M)) rfl rfl rfl (fun c_159 => ?_) (fun c_159 => ?_)
              · have c_159 : (nI (aN x 2)) = 0 := of_decide_eq_true c_159
                have n_159 : aN x 2 = 0 := (eq_nI (p := aN x 2) (n := 0) (Nat.lt_of_le_of_lt (an_le _ _) (by decide)) (by decide)).mp c_159
                refine ps_st (S' := (167, [(4, .int 0)], [.int 0, .int 0], M)) rfl rfl rfl ?_
                refine ps_if2 (S1 := (172, [(4, .int 0)], [], M)) (S2 := (170, [], [], M)) rfl rfl rfl (fun c_167 => ?_) (fun c_167 => ?_)
                · exact absurd (of_decide_eq_true c_167) (by decide)
                refine ps_st (S' := (171, [], [.int 0], M)) rfl rfl rfl ?_
                exact ps_ret rfl rfl (⟨congrArg (fun x => some (Value.int (nI x))) (show 0 = fitN mj c x 0 from by
                    have e3 := has_0 x 1400
                    have e4 := has_0 x 1024
                    have e5 := has_0 c 512
                    have e2 := sev_0 x
                    have b1 := le1_one x
                    have ha : ¬ absN mj x = 0 := fun h => absurd ((abs_0 mj x).mp h) (by omega)
                    have b2 := le1_imh mj x
                    have hi : imhN mj x = 0 := (imh_0 mj x).mpr (by omega)
                    unfold fitN
                    first | ((repeat first | rw [if_pos (by omega)] | rw [if_neg (by omega)]) <;> first | rfl | omega) | ((repeat' split) <;> first | rfl | (exfalso; omega) | omega)), rfl⟩)
              · have c_159 : ¬ ((nI (aN x 2)) = 0) := of_decide_eq_false c_159
                have n_159 : ¬ (aN x 2 = 0) := fun h9 => c_159 ((eq_nI (p := aN x 2) (n := 0) (Nat.lt_of_le_of_lt (an_le _ _) (by decide)) (by decide)).mpr h9)
                refine ps_st (S' := (163, [(1, .int (nI x)), (4, .int 0)], [.int 1, .int 0], M)) rfl rfl rfl ?_
                refine ps_st (S' := (167, [(4, .int 0)], [.int 1, .int 0], M)) rfl rfl rfl ?_
                refine ps_if2 (S1 := (172, [(4, .int 0)], [], M)) (S2 := (170, [], [], M)) rfl rfl rfl (fun c_167 => ?_) (fun c_167 => ?_)
                rotate_left
                · exact absurd (by decide) (of_decide_eq_false c_167)
                refine ps_st (S' := (174, [(4, .int 0)], [.int 0], M)) rfl rfl rfl ?_
                refine ps_if (S1 := (181, [(4, .int 0)], [], M)) (S2 := (177, [(4, .int 0)], [], M)) rfl rfl rfl (fun c_174 => ?_) (fun c_174 => ?_)
                · exact absurd (of_decide_eq_true c_174) (by decide)
                refine ps_st (S' := (178, [(4, .int 0)], [.int 1], M)) rfl rfl rfl ?_
                refine ps_st (S' := (182, [], [.int 1], M)) rfl rfl rfl ?_
                exact ps_ret rfl rfl (⟨congrArg (fun x => some (Value.int (nI x))) (show 1 = fitN mj c x 0 from by
                    have e3 := has_0 x 1400
                    have e4 := has_0 x 1024
                    have e5 := has_0 c 512
                    have e2 := sev_0 x
                    have b1 := le1_one x
                    have ha : ¬ absN mj x = 0 := fun h => absurd ((abs_0 mj x).mp h) (by omega)
                    have b2 := le1_imh mj x
                    have hi : ¬ imhN mj x = 0 := fun h => absurd ((imh_0 mj x).mp h) (by omega)
                    unfold fitN
                    first | ((repeat first | rw [if_pos (by omega)] | rw [if_neg (by omega)]) <;> first | rfl | omega) | ((repeat' split) <;> first | rfl | (exfalso; omega) | omega)), rfl⟩)
            · have c_148 : ¬ ((nI (aN x 1)) = 0) := of_decide_eq_false c_148
              have n_148 : ¬ (aN x 1 = 0) := fun h9 => c_148 ((eq_nI (p := aN x 1) (n := 0) (Nat.lt_of_le_of_lt (an_le _ _) (by decide)) (by decide)).mpr h9)
              refine ps_st (S' := (152, [(4, .int 0), (0, .ref m0), (1, .int (nI x)), (3, .int 1)], [.int 1], M)) rfl rfl rfl ?_
              refine ps_st (S' := (156, [(1, .int (nI x)), (4, .int 0)], [.int 1], M)) rfl rfl rfl ?_
              refine ps_st (S' := (157, [(1, .int (nI x)), (4, .int 0)], [.int (nI x), .int 1], M)) rfl rfl rfl ?_
              refine ps_st (S' := (158, [(1, .int (nI x)), (4, .int 0)], [.int 2, .int (nI x), .int 1], M)) rfl rfl rfl ?_
              refine ps_st (S' := (159, [(1, .int (nI x)), (4, .int 0)], [.int ((nI x) &&& 2), .int 1], M)) rfl rfl rfl ?_
              rw [nI_an (p := x) (k := 2) (x := 2) rfl]
              show pl _ _ _ (_, [(1, .int (nI x)), (4, .int 0)], [.int (nI (aN x 2)), .int 1], M) _
              refine ps_if (S1 := (166, [(1, .int (nI x)), (4, .int 0)], [.int 1], M)) (S2 := (162, [(1, .int (nI x)), (4, .int 0)], [.int 1], M)) rfl rfl rfl (fun c_159 => ?_) (fun c_159 => ?_)
              · have c_159 : (nI (aN x 2)) = 0 := of_decide_eq_true c_159
                have n_159 : aN x 2 = 0 := (eq_nI (p := aN x 2) (n := 0) (Nat.lt_of_le_of_lt (an_le _ _) (by decide)) (by decide)).mp c_159
                refine ps_st (S' := (167, [(4, .int 0)], [.int 0, .int 1], M)) rfl rfl rfl ?_
                refine ps_if2 (S1 := (172, [(4, .int 0)], [], M)) (S2 := (170, [], [], M)) rfl rfl rfl (fun c_167 => ?_) (fun c_167 => ?_)
                rotate_left
                · exact absurd (by decide) (of_decide_eq_false c_167)
                refine ps_st (S' := (174, [(4, .int 0)], [.int 0], M)) rfl rfl rfl ?_
                refine ps_if (S1 := (181, [(4, .int 0)], [], M)) (S2 := (177, [(4, .int 0)], [], M)) rfl rfl rfl (fun c_174 => ?_) (fun c_174 => ?_)
                · exact absurd (of_decide_eq_true c_174) (by decide)
                refine ps_st (S' := (178, [(4, .int 0)], [.int 1], M)) rfl rfl rfl ?_
                refine ps_st (S' := (182, [], [.int 1], M)) rfl rfl rfl ?_
                exact ps_ret rfl rfl (⟨congrArg (fun x => some (Value.int (nI x))) (show 1 = fitN mj c x 0 from by
                    have e3 := has_0 x 1400
                    have e4 := has_0 x 1024
                    have e5 := has_0 c 512
                    have e2 := sev_0 x
                    have b1 := le1_one x
                    have ha : ¬ absN mj x = 0 := fun h => absurd ((abs_0 mj x).mp h) (by omega)
                    have b2 := le1_imh mj x
                    have hi : ¬ imhN mj x = 0 := fun h => absurd ((imh_0 mj x).mp h) (by omega)
                    unfold fitN
                    first | ((repeat first | rw [if_pos (by omega)] | rw [if_neg (by omega)]) <;> first | rfl | omega) | ((repeat' split) <;> first | rfl | (exfalso; omega) | omega)), rfl⟩)
              · have c_159 : ¬ ((nI (aN x 2)) = 0) := of_decide_eq_false c_159
                have n_159 : ¬ (aN x 2 = 0) := fun h9 => c_159 ((eq_nI (p := aN x 2) (n := 0) (Nat.lt_of_le_of_lt (an_le _ _) (by decide)) (by decide)).mpr h9)
                refine ps_st (S' := (163, [(1, .int (nI x)), (4, .int 0)], [.int 1, .int 1], M)) rfl rfl rfl ?_
                refine ps_st (S' := (167, [(4, .int 0)], [.int 1, .int 1], M)) rfl rfl rfl ?_
                refine ps_if2 (S1 := (172, [(4, .int 0)], [], M)) (S2 := (170, [], [], M)) rfl rfl rfl (fun c_167 => ?_) (fun c_167 => ?_)
                · exact absurd (of_decide_eq_true c_167) (by decide)
                refine ps_st (S' := (171, [], [.int 0], M)) rfl rfl rfl ?_
                exact ps_ret rfl rfl (⟨congrArg (fun x => some (Value.int (nI x))) (show 0 = fitN mj c x 0 from by
                    have e3 := has_0 x 1400
                    have e4 := has_0 x 1024
                    have e5 := has_0 c 512
                    have e2 := sev_0 x
                    have b1 := le1_one x
                    have ha : ¬ absN mj x = 0 := fun h => absurd ((abs_0 mj x).mp h) (by omega)
                    have b2 := le1_imh mj x
                    have hi : imhN mj x = 0 := (imh_0 mj x).mpr (by omega)
                    unfold fitN
                    first | ((repeat first | rw [if_pos (by omega)] | rw [if_neg (by omega)]) <;> first | rfl | omega) | ((repeat' split) <;> first | rfl | (exfalso; omega) | omega)), rfl⟩)
          · have c_107 : ¬ ((nI (aN x 308)) = 0) := of_decide_eq_false c_107
            have n_107 : ¬ (aN x 308 = 0) := fun h9 => c_107 ((eq_nI (p := aN x 308) (n := 0) (Nat.lt_of_le_of_lt (an_le _ _) (by decide)) (by decide)).mpr h9)
            refine ps_st (S' := (111, [(4, .int 0), (0, .ref m0), (1, .int (nI x)), (3, .int 1)], [.int 0], M)) rfl rfl rfl ?_
            exact ps_ret rfl rfl (⟨congrArg (fun x => some (Value.int (nI x))) (show 0 = fitN mj c x 0 from by
                have e3 := has_0 x 1400
                have e4 := has_0 x 1024
                have e5 := has_0 c 512
                have e2 := sev_0 x
                have b1 := le1_one x
                have ha : ¬ absN mj x = 0 := fun h => absurd ((abs_0 mj x).mp h) (by omega)
                have b2 := le1_imh mj x
                have hi : imhN mj x = 0 := (imh_0 mj x).mpr (by omega)
                unfold fitN
                first | ((repeat first | rw [if_pos (by omega)] | rw [if_neg (by omega)]) <;> first | rfl | omega) | ((repeat' split) <;> first | rfl | (exfalso; omega) | omega)), rfl⟩)
        · have c_59 : ¬ (60 < (nI mj)) := of_decide_eq_false c_59
          have n_59 : ¬ (60 < mj) := fun h9 => c_59 ((lt_nI (p := 60) (n := mj) (by decide) (by omega)).mpr h9)
          refine ps_st (S' := (63, [(0, .ref m0), (1, .int (nI x)), (2, .int 0), (3, .int 1)], [.int (nI x)], M)) rfl rfl rfl ?_
          refine ps_st (S' := (66, [(0, .ref m0), (1, .int (nI x)), (2, .int 0), (3, .int 1)], [.int 2048, .int (nI x)], M)) rfl rfl rfl ?_
          refine ps_st (S' := (67, [(0, .ref m0), (1, .int (nI x)), (2, .int 0), (3, .int 1)], [.int ((nI x) &&& 2048)], M)) rfl rfl rfl ?_
          rw [nI_an (p := x) (k := 2048) (x := 2048) rfl]
          show pl _ _ _ (_, [(0, .ref m0), (1, .int (nI x)), (2, .int 0), (3, .int 1)], [.int (nI (aN x 2048))], M) _
          refine ps_if (S1 := (74, [(0, .ref m0), (1, .int (nI x)), (3, .int 1)], [], M)) (S2 := (70, [(0, .ref m0), (1, .int (nI x)), (3, .int 1)], [], M)) rfl rfl rfl (fun c_67 => ?_) (fun c_67 => ?_)
          · have c_67 : (nI (aN x 2048)) = 0 := of_decide_eq_true c_67
            have n_67 : aN x 2048 = 0 := (eq_nI (p := aN x 2048) (n := 0) (Nat.lt_of_le_of_lt (an_le _ _) (by decide)) (by decide)).mp c_67
            refine ps_st (S' := (75, [(0, .ref m0), (1, .int (nI x)), (3, .int 1)], [.int 0], M)) rfl rfl rfl ?_
            refine ps_st (S' := (77, [(4, .int 0), (0, .ref m0), (1, .int (nI x)), (3, .int 1)], [], M)) rfl rfl rfl ?_
            refine ps_st (S' := (78, [(4, .int 0), (0, .ref m0), (1, .int (nI x)), (3, .int 1)], [.int 1], M)) rfl rfl rfl ?_
            refine ps_if (S1 := (102, [(4, .int 0), (0, .ref m0), (1, .int (nI x)), (3, .int 1)], [], M)) (S2 := (81, [(4, .int 0), (0, .ref m0), (1, .int (nI x)), (3, .int 1)], [], M)) rfl rfl rfl (fun c_78 => ?_) (fun c_78 => ?_)
            rotate_left
            · exact absurd (by decide) (of_decide_eq_false c_78)
            refine ps_st (S' := (103, [(4, .int 0), (0, .ref m0), (1, .int (nI x)), (3, .int 1)], [.int (nI x)], M)) rfl rfl rfl ?_
            refine ps_st (S' := (106, [(4, .int 0), (0, .ref m0), (1, .int (nI x)), (3, .int 1)], [.int 308, .int (nI x)], M)) rfl rfl rfl ?_
            refine ps_st (S' := (107, [(4, .int 0), (0, .ref m0), (1, .int (nI x)), (3, .int 1)], [.int ((nI x) &&& 308)], M)) rfl rfl rfl ?_
            rw [nI_an (p := x) (k := 308) (x := 308) rfl]
            show pl _ _ _ (_, [(4, .int 0), (0, .ref m0), (1, .int (nI x)), (3, .int 1)], [.int (nI (aN x 308))], M) _
            refine ps_if (S1 := (112, [(4, .int 0), (0, .ref m0), (1, .int (nI x)), (3, .int 1)], [], M)) (S2 := (110, [(4, .int 0), (0, .ref m0), (1, .int (nI x)), (3, .int 1)], [], M)) rfl rfl rfl (fun c_107 => ?_) (fun c_107 => ?_)
            · have c_107 : (nI (aN x 308)) = 0 := of_decide_eq_true c_107
              have n_107 : aN x 308 = 0 := (eq_nI (p := aN x 308) (n := 0) (Nat.lt_of_le_of_lt (an_le _ _) (by decide)) (by decide)).mp c_107
              refine ps_st (S' := (113, [(4, .int 0), (0, .ref m0), (1, .int (nI x)), (3, .int 1)], [.ref m0], M)) rfl rfl rfl ?_
              refine pr_int (j := 53) (S' := (116, [(4, .int 0), (0, .ref m0), (1, .int (nI x)), (3, .int 1)], [.int (nI mj)], M)) rfl hR rfl hi53 rfl ?_
              refine ps_st (S' := (118, [(4, .int 0), (0, .ref m0), (1, .int (nI x)), (3, .int 1)], [.int 52, .int (nI mj)], M)) rfl rfl rfl ?_
              refine ps_if2 (S1 := (145, [(4, .int 0), (0, .ref m0), (1, .int (nI x)), (3, .int 1)], [], M)) (S2 := (121, [(4, .int 0), (0, .ref m0), (1, .int (nI x)), (3, .int 1)], [], M)) rfl rfl rfl (fun c_118 => ?_) (fun c_118 => ?_)
              · have c_118 : 52 ≤ (nI mj) := of_decide_eq_true c_118
                have n_118 : 52 ≤ mj := (le_nI (p := 52) (n := mj) (by decide) (by omega)).mp c_118
                refine ps_st (S' := (146, [(4, .int 0), (0, .ref m0), (1, .int (nI x)), (3, .int 1)], [.int (nI x)], M)) rfl rfl rfl ?_
                refine ps_st (S' := (147, [(4, .int 0), (0, .ref m0), (1, .int (nI x)), (3, .int 1)], [.int 1, .int (nI x)], M)) rfl rfl rfl ?_
                refine ps_st (S' := (148, [(4, .int 0), (0, .ref m0), (1, .int (nI x)), (3, .int 1)], [.int ((nI x) &&& 1)], M)) rfl rfl rfl ?_
                rw [nI_an (p := x) (k := 1) (x := 1) rfl]
                show pl _ _ _ (_, [(4, .int 0), (0, .ref m0), (1, .int (nI x)), (3, .int 1)], [.int (nI (aN x 1))], M) _
                refine ps_if (S1 := (155, [(4, .int 0), (0, .ref m0), (1, .int (nI x)), (3, .int 1)], [], M)) (S2 := (151, [(4, .int 0), (0, .ref m0), (1, .int (nI x)), (3, .int 1)], [], M)) rfl rfl rfl (fun c_148 => ?_) (fun c_148 => ?_)
                · have c_148 : (nI (aN x 1)) = 0 := of_decide_eq_true c_148
                  have n_148 : aN x 1 = 0 := (eq_nI (p := aN x 1) (n := 0) (Nat.lt_of_le_of_lt (an_le _ _) (by decide)) (by decide)).mp c_148
                  refine ps_st (S' := (156, [(1, .int (nI x)), (4, .int 0)], [.int 0], M)) rfl rfl rfl ?_
                  refine ps_st (S' := (157, [(1, .int (nI x)), (4, .int 0)], [.int (nI x), .int 0], M)) rfl rfl rfl ?_
                  refine ps_st (S' := (158, [(1, .int (nI x)), (4, .int 0)], [.int 2, .int (nI x), .int 0], M)) rfl rfl rfl ?_
                  refine ps_st (S' := (159, [(1, .int (nI x)), (4, .int 0)], [.int ((nI x) &&& 2), .int 0], M)) rfl rfl rfl ?_
                  rw [nI_an (p := x) (k := 2) (x := 2) rfl]
                  show pl _ _ _ (_, [(1, .int (nI x)), (4, .int 0)], [.int (nI (aN x 2)), .int 0], M) _
                  refine ps_if (S1 := (166, [(1, .int (nI x)), (4, .int 0)], [.int 0], M)) (S2 := (162, [(1, .int (nI x)), (4, .int 0)], [.int 0], M)) rfl rfl rfl (fun c_159 => ?_) (fun c_159 => ?_)
                  · have c_159 : (nI (aN x 2)) = 0 := of_decide_eq_true c_159
                    have n_159 : aN x 2 = 0 := (eq_nI (p := aN x 2) (n := 0) (Nat.lt_of_le_of_lt (an_le _ _) (by decide)) (by decide)).mp c_159
                    refine ps_st (S' := (167, [(4, .int 0)], [.int 0, .int 0], M)) rfl rfl rfl ?_
                    refine ps_if2 (S1 := (172, [(4, .int 0)], [], M)) (S2 := (170, [], [], M)) rfl rfl rfl (fun c_167 => ?_) (fun c_167 => ?_)
                    · exact absurd (of_decide_eq_true c_167) (by decide)
                    refine ps_st (S' := (171, [], [.int 0], M)) rfl rfl rfl ?_
                    exact ps_ret rfl rfl (⟨congrArg (fun x => some (Value.int (nI x))) (show 0 = fitN mj c x 0 from by
                        have e3 := has_0 x 1400
                        have e4 := has_0 x 1024
                        have e5 := has_0 c 512
                        have e2 := sev_0 x
                        have b1 := le1_one x
                        have ha : ¬ absN mj x = 0 := fun h => absurd ((abs_0 mj x).mp h) (by omega)
                        have b2 := le1_imh mj x
                        have hi : imhN mj x = 0 := (imh_0 mj x).mpr (by omega)
                        unfold fitN
                        first | ((repeat first | rw [if_pos (by omega)] | rw [if_neg (by omega)]) <;> first | rfl | omega) | ((repeat' split) <;> first | rfl | (exfalso; omega) | omega)), rfl⟩)
                  · have c_159 : ¬ ((nI (aN x 2)) = 0) := of_decide_eq_false c_159
                    have n_159 : ¬ (aN x 2 = 0) := fun h9 => c_159 ((eq_nI (p := aN x 2) (n := 0) (Nat.lt_of_le_of_lt (an_le _ _) (by decide)) (by decide)).mpr h9)
                    refine ps_st (S' := (163, [(1, .int (nI x)), (4, .int 0)], [.int 1, .int 0], M)) rfl rfl rfl ?_
                    refine ps_st (S' := (167, [(4, .int 0)], [.int 1, .int 0], M)) rfl rfl rfl ?_
                    refine ps_if2 (S1 := (172, [(4, .int 0)], [], M)) (S2 := (170, [], [], M)) rfl rfl rfl (fun c_167 => ?_) (fun c_167 => ?_)
                    rotate_left
                    · exact absurd (by decide) (of_decide_eq_false c_167)
                    refine ps_st (S' := (174, [(4, .int 0)], [.int 0], M)) rfl rfl rfl ?_
                    refine ps_if (S1 := (181, [(4, .int 0)], [], M)) (S2 := (177, [(4, .int 0)], [], M)) rfl rfl rfl (fun c_174 => ?_) (fun c_174 => ?_)
                    · exact absurd (of_decide_eq_true c_174) (by decide)
                    refine ps_st (S' := (178, [(4, .int 0)], [.int 1], M)) rfl rfl rfl ?_
                    refine ps_st (S' := (182, [], [.int 1], M)) rfl rfl rfl ?_
                    exact ps_ret rfl rfl (⟨congrArg (fun x => some (Value.int (nI x))) (show 1 = fitN mj c x 0 from by
                        have e3 := has_0 x 1400
                        have e4 := has_0 x 1024
                        have e5 := has_0 c 512
                        have e2 := sev_0 x
                        have b1 := le1_one x
                        have ha : ¬ absN mj x = 0 := fun h => absurd ((abs_0 mj x).mp h) (by omega)
                        have b2 := le1_imh mj x
                        have hi : ¬ imhN mj x = 0 := fun h => absurd ((imh_0 mj x).mp h) (by omega)
                        unfold fitN
                        first | ((repeat first | rw [if_pos (by omega)] | rw [if_neg (by omega)]) <;> first | rfl | omega) | ((repeat' split) <;> first | rfl | (exfalso; omega) | omega)), rfl⟩)
                · have c_148 : ¬ ((nI (aN x 1)) = 0) := of_decide_eq_false c_148
                  have n_148 : ¬ (aN x 1 = 0) := fun h9 => c_148 ((eq_nI (p := aN x 1) (n := 0) (Nat.lt_of_le_of_lt (an_le _ _) (by decide)) (by decide)).mpr h9)
                  refine ps_st (S' := (152, [(4, .int 0), (0, .ref m0), (1, .int (nI x)), (3, .int 1)], [.int 1], M)) rfl rfl rfl ?_
                  refine ps_st (S' := (156, [(1, .int (nI x)), (4, .int 0)], [.int 1], M)) rfl rfl rfl ?_
                  refine ps_st (S' := (157, [(1, .int (nI x)), (4, .int 0)], [.int (nI x), .int 1], M)) rfl rfl rfl ?_
                  refine ps_st (S' := (158, [(1, .int (nI x)), (4, .int 0)], [.int 2, .int (nI x), .int 1], M)) rfl rfl rfl ?_
                  refine ps_st (S' := (159, [(1, .int (nI x)), (4, .int 0)], [.int ((nI x) &&& 2), .int 1], M)) rfl rfl rfl ?_
                  rw [nI_an (p := x) (k := 2) (x := 2) rfl]
                  show pl _ _ _ (_, [(1, .int (nI x)), (4, .int 0)], [.int (nI (aN x 2)), .int 1], M) _
                  refine ps_if (S1 := (166, [(1, .int (nI x)), (4, .int 0)], [.int 1], M)) (S2 := (162, [(1, .int (nI x)), (4, .int 0)], [.int 1], M)) rfl rfl rfl (fun c_159 => ?_) (fun c_159 => ?_)
                  · have c_159 : (nI (aN x 2)) = 0 := of_decide_eq_true c_159
                    have n_159 : aN x 2 = 0 := (eq_nI (p := aN x 2) (n := 0) (Nat.lt_of_le_of_lt (an_le _ _) (by decide)) (by decide)).mp c_159
                    refine ps_st (S' := (167, [(4, .int 0)], [.int 0, .int 1], M)) rfl rfl rfl ?_
                    refine ps_if2 (S1 := (172, [(4, .int 0)], [], M)) (S2 := (170, [], [], M)) rfl rfl rfl (fun c_167 => ?_) (fun c_167 => ?_)
                    rotate_left
                    · exact absurd (by decide) (of_decide_eq_false c_167)
                    refine ps_st (S' := (174, [(4, .int 0)], [.int 0], M)) rfl rfl rfl ?_
                    refine ps_if (S1 := (181, [(4, .int 0)], [], M)) (S2 := (177, [(4, .int 0)], [], M)) rfl rfl rfl (fun c_174 => ?_) (fun c_174 => ?_)
                    · exact absurd (of_decide_eq_true c_174) (by decide)
                    refine ps_st (S' := (178, [(4, .int 0)], [.int 1], M)) rfl rfl rfl ?_
                    refine ps_st (S' := (182, [], [.int 1], M)) rfl rfl rfl ?_
                    exact ps_ret rfl rfl (⟨congrArg (fun x => some (Value.int (nI x))) (show 1 = fitN mj c x 0 from by
                        have e3 := has_0 x 1400
                        have e4 := has_0 x 1024
                        have e5 := has_0 c 512
                        have e2 := sev_0 x
                        have b1 := le1_one x
                        have ha : ¬ absN mj x = 0 := fun h => absurd ((abs_0 mj x).mp h) (by omega)
                        have b2 := le1_imh mj x
                        have hi : ¬ imhN mj x = 0 := fun h => absurd ((imh_0 mj x).mp h) (by omega)
                        unfold fitN
                        first | ((repeat first | rw [if_pos (by omega)] | rw [if_neg (by omega)]) <;> first | rfl | omega) | ((repeat' split) <;> first | rfl | (exfalso; omega) | omega)), rfl⟩)
                  · have c_159 : ¬ ((nI (aN x 2)) = 0) := of_decide_eq_false c_159
                    have n_159 : ¬ (aN x 2 = 0) := fun h9 => c_159 ((eq_nI (p := aN x 2) (n := 0) (Nat.lt_of_le_of_lt (an_le _ _) (by decide)) (by decide)).mpr h9)
                    refine ps_st (S' := (163, [(1, .int (nI x)), (4, .int 0)], [.int 1, .int 1], M)) rfl rfl rfl ?_
                    refine ps_st (S' := (167, [(4, .int 0)], [.int 1, .int 1], M)) rfl rfl rfl ?_
                    refine ps_if2 (S1 := (172, [(4, .int 0)], [], M)) (S2 := (170, [], [], M)) rfl rfl rfl (fun c_167 => ?_) (fun c_167 => ?_)
                    · exact absurd (of_decide_eq_true c_167) (by decide)
                    refine ps_st (S' := (171, [], [.int 0], M)) rfl rfl rfl ?_
                    exact ps_ret rfl rfl (⟨congrArg (fun x => some (Value.int (nI x))) (show 0 = fitN mj c x 0 from by
                        have e3 := has_0 x 1400
                        have e4 := has_0 x 1024
                        have e5 := has_0 c 512
                        have e2 := sev_0 x
                        have b1 := le1_one x
                        have ha : ¬ absN mj x = 0 := fun h => absurd ((abs_0 mj x).mp h) (by omega)
                        have b2 := le1_imh mj x
                        have hi : imhN mj x = 0 := (imh_0 mj x).mpr (by omega)
                        unfold fitN
                        first | ((repeat first | rw [if_pos (by omega)] | rw [if_neg (by omega)]) <;> first | rfl | omega) | ((repeat' split) <;> first | rfl | (exfalso; omega) | omega)), rfl⟩)
              · have c_118 : ¬ (52 ≤ (nI mj)) := of_decide_eq_false c_118
                have n_118 : ¬ (52 ≤ mj) := fun h9 => c_118 ((le_nI (p := 52) (n := mj) (by decide) (by omega)).mpr h9)
                refine ps_st (S' := (122, [(4, .int 0), (0, .ref m0), (1, .int (nI x)), (3, .int 1)], [.int (nI x)], M)) rfl rfl rfl ?_
                refine ps_st (S' := (123, [(4, .int 0), (0, .ref m0), (1, .int (nI x)), (3, .int 1)], [.int 1, .int (nI x)], M)) rfl rfl rfl ?_
                refine ps_st (S' := (124, [(4, .int 0), (0, .ref m0), (1, .int (nI x)), (3, .int 1)], [.int ((nI x) &&& 1)], M)) rfl rfl rfl ?_
                rw [nI_an (p := x) (k := 1) (x := 1) rfl]
                show pl _ _ _ (_, [(4, .int 0), (0, .ref m0), (1, .int (nI x)), (3, .int 1)], [.int (nI (aN x 1))], M) _
                refine ps_if (S1 := (170, [], [], M)) (S2 := (127, [(4, .int 0), (0, .ref m0), (1, .int (nI x)), (3, .int 1)], [], M)) rfl rfl rfl (fun c_124 => ?_) (fun c_124 => ?_)
                · have c_124 : (nI (aN x 1)) = 0 := of_decide_eq_true c_124
                  have n_124 : aN x 1 = 0 := (eq_nI (p := aN x 1) (n := 0) (Nat.lt_of_le_of_lt (an_le _ _) (by decide)) (by decide)).mp c_124
                  refine ps_st (S' := (171, [], [.int 0], M)) rfl rfl rfl ?_
                  exact ps_ret rfl rfl (⟨congrArg (fun x => some (Value.int (nI x))) (show 0 = fitN mj c x 0 from by
                      have e3 := has_0 x 1400
                      have e4 := has_0 x 1024
                      have e5 := has_0 c 512
                      have e2 := sev_0 x
                      have b1 := le1_one x
                      have ha : ¬ absN mj x = 0 := fun h => absurd ((abs_0 mj x).mp h) (by omega)
                      have b2 := le1_imh mj x
                      have hi : imhN mj x = 0 := (imh_0 mj x).mpr (by omega)
                      unfold fitN
                      first | ((repeat first | rw [if_pos (by omega)] | rw [if_neg (by omega)]) <;> first | rfl | omega) | ((repeat' split) <;> first | rfl | (exfalso; omega) | omega)), rfl⟩)
                · have c_124 : ¬ ((nI (aN x 1)) = 0) := of_decide_eq_false c_124
                  have n_124 : ¬ (aN x 1 = 0) := fun h9 => c_124 ((eq_nI (p := aN x 1) (n := 0) (Nat.lt_of_le_of_lt (an_le _ _) (by decide)) (by decide)).mpr h9)
                  refine ps_st (S' := (128, [(4, .int 0), (0, .ref m0), (1, .int (nI x)), (3, .int 1)], [.int (nI x)], M)) rfl rfl rfl ?_
                  refine ps_st (S' := (131, [(4, .int 0), (0, .ref m0), (1, .int (nI x)), (3, .int 1)], [.int 1024, .int (nI x)], M)) rfl rfl rfl ?_
                  refine ps_st (S' := (132, [(4, .int 0), (0, .ref m0), (1, .int (nI x)), (3, .int 1)], [.int ((nI x) &&& 1024)], M)) rfl rfl rfl ?_
                  rw [nI_an (p := x) (k := 1024) (x := 1024) rfl]
                  show pl _ _ _ (_, [(4, .int 0), (0, .ref m0), (1, .int (nI x)), (3, .int 1)], [.int (nI (aN x 1024))], M) _
                  refine ps_if (S1 := (170, [], [], M)) (S2 := (135, [(4, .int 0), (0, .ref m0), (1, .int (nI x)), (3, .int 1)], [], M)) rfl rfl rfl (fun c_132 => ?_) (fun c_132 => ?_)
                  · exact absurd (of_decide_eq_true c_132) (show ¬ ((nI (aN x 1024)) = 0) from fun h9 => absurd ((eq_nI (p := aN x 1024) (n := 0) (Nat.lt_of_le_of_lt (an_le _ _) (by decide)) (by decide)).mp h9) (by omega))
                  refine ps_st (S' := (136, [(4, .int 0), (0, .ref m0), (1, .int (nI x)), (3, .int 1)], [.int (nI x)], M)) rfl rfl rfl ?_
                  refine ps_st (S' := (138, [(4, .int 0), (0, .ref m0), (1, .int (nI x)), (3, .int 1)], [.int 8, .int (nI x)], M)) rfl rfl rfl ?_
                  refine ps_st (S' := (139, [(4, .int 0), (0, .ref m0), (1, .int (nI x)), (3, .int 1)], [.int ((nI x) &&& 8)], M)) rfl rfl rfl ?_
                  rw [nI_an (p := x) (k := 8) (x := 8) rfl]
                  show pl _ _ _ (_, [(4, .int 0), (0, .ref m0), (1, .int (nI x)), (3, .int 1)], [.int (nI (aN x 8))], M) _
                  refine ps_if (S1 := (172, [(4, .int 0)], [], M)) (S2 := (142, [(4, .int 0), (0, .ref m0), (1, .int (nI x)), (3, .int 1)], [], M)) rfl rfl rfl (fun c_139 => ?_) (fun c_139 => ?_)
                  · have c_139 : (nI (aN x 8)) = 0 := of_decide_eq_true c_139
                    have n_139 : aN x 8 = 0 := (eq_nI (p := aN x 8) (n := 0) (Nat.lt_of_le_of_lt (an_le _ _) (by decide)) (by decide)).mp c_139
                    refine ps_st (S' := (174, [(4, .int 0)], [.int 0], M)) rfl rfl rfl ?_
                    refine ps_if (S1 := (181, [(4, .int 0)], [], M)) (S2 := (177, [(4, .int 0)], [], M)) rfl rfl rfl (fun c_174 => ?_) (fun c_174 => ?_)
                    · exact absurd (of_decide_eq_true c_174) (by decide)
                    refine ps_st (S' := (178, [(4, .int 0)], [.int 1], M)) rfl rfl rfl ?_
                    refine ps_st (S' := (182, [], [.int 1], M)) rfl rfl rfl ?_
                    exact ps_ret rfl rfl (⟨congrArg (fun x => some (Value.int (nI x))) (show 1 = fitN mj c x 0 from by
                        have e3 := has_0 x 1400
                        have e4 := has_0 x 1024
                        have e5 := has_0 c 512
                        have e2 := sev_0 x
                        have b1 := le1_one x
                        have ha : ¬ absN mj x = 0 := fun h => absurd ((abs_0 mj x).mp h) (by omega)
                        have b2 := le1_imh mj x
                        have hi : ¬ imhN mj x = 0 := fun h => absurd ((imh_0 mj x).mp h) (by omega)
                        unfold fitN
                        first | ((repeat first | rw [if_pos (by omega)] | rw [if_neg (by omega)]) <;> first | rfl | omega) | ((repeat' split) <;> first | rfl | (exfalso; omega) | omega)), rfl⟩)
                  · have c_139 : ¬ ((nI (aN x 8)) = 0) := of_decide_eq_false c_139
                    have n_139 : ¬ (aN x 8 = 0) := fun h9 => c_139 ((eq_nI (p := aN x 8) (n := 0) (Nat.lt_of_le_of_lt (an_le _ _) (by decide)) (by decide)).mpr h9)
                    refine ps_st (S' := (170, [], [], M)) rfl rfl rfl ?_
                    refine ps_st (S' := (171, [], [.int 0], M)) rfl rfl rfl ?_
                    exact ps_ret rfl rfl (⟨congrArg (fun x => some (Value.int (nI x))) (show 0 = fitN mj c x 0 from by
                        have e3 := has_0 x 1400
                        have e4 := has_0 x 1024
                        have e5 := has_0 c 512
                        have e2 := sev_0 x
                        have b1 := le1_one x
                        have ha : ¬ absN mj x = 0 := fun h => absurd ((abs_0 mj x).mp h) (by omega)
                        have b2 := le1_imh mj x
                        have hi : imhN mj x = 0 := (imh_0 mj x).mpr (by omega)
                        unfold fitN
                        first | ((repeat first | rw [if_pos (by omega)] | rw [if_neg (by omega)]) <;> first | rfl | omega) | ((repeat' split) <;> first | rfl | (exfalso; omega) | omega)), rfl⟩)
            · have c_107 : ¬ ((nI (aN x 308)) = 0) := of_decide_eq_false c_107
              have n_107 : ¬ (aN x 308 = 0) := fun h9 => c_107 ((eq_nI (p := aN x 308) (n := 0) (Nat.lt_of_le_of_lt (an_le _ _) (by decide)) (by decide)).mpr h9)
              refine ps_st (S' := (111, [(4, .int 0), (0, .ref m0), (1, .int (nI x)), (3, .int 1)], [.int 0], M)) rfl rfl rfl ?_
              exact ps_ret rfl rfl (⟨congrArg (fun x => some (Value.int (nI x))) (show 0 = fitN mj c x 0 from by
                  have e3 := has_0 x 1400
                  have e4 := has_0 x 1024
                  have e5 := has_0 c 512
                  have e2 := sev_0 x
                  have b1 := le1_one x
                  have ha : ¬ absN mj x = 0 := fun h => absurd ((abs_0 mj x).mp h) (by omega)
                  have b2 := le1_imh mj x
                  have hi : imhN mj x = 0 := (imh_0 mj x).mpr (by omega)
                  unfold fitN
                  first | ((repeat first | rw [if_pos (by omega)] | rw [if_neg (by omega)]) <;> first | rfl | omega) | ((repeat' split) <;> first | rfl | (exfalso; omega) | omega)), rfl⟩)
          · have c_67 : ¬ ((nI (aN x 2048)) = 0) := of_decide_eq_false c_67
            have n_67 : ¬ (aN x 2048 = 0) := fun h9 => c_67 ((eq_nI (p := aN x 2048) (n := 0) (Nat.lt_of_le_of_lt (an_le _ _) (by decide)) (by decide)).mpr h9)
            refine ps_st (S' := (71, [(0, .ref m0), (1, .int (nI x)), (3, .int 1)], [.int 1], M)) rfl rfl rfl ?_
            refine ps_st (S' := (75, [(0, .ref m0), (1, .int (nI x)), (3, .int 1)], [.int 1], M)) rfl rfl rfl ?_
            refine ps_st (S' := (77, [(4, .int 1), (0, .ref m0), (1, .int (nI x)), (3, .int 1)], [], M)) rfl rfl rfl ?_
            refine ps_st (S' := (78, [(4, .int 1), (0, .ref m0), (1, .int (nI x)), (3, .int 1)], [.int 1], M)) rfl rfl rfl ?_
            refine ps_if (S1 := (102, [(4, .int 1), (0, .ref m0), (1, .int (nI x)), (3, .int 1)], [], M)) (S2 := (81, [(4, .int 1), (0, .ref m0), (1, .int (nI x)), (3, .int 1)], [], M)) rfl rfl rfl (fun c_78 => ?_) (fun c_78 => ?_)
            rotate_left
            · exact absurd (by decide) (of_decide_eq_false c_78)
            refine ps_st (S' := (103, [(4, .int 1), (0, .ref m0), (1, .int (nI x)), (3, .int 1)], [.int (nI x)], M)) rfl rfl rfl ?_
            refine ps_st (S' := (106, [(4, .int 1), (0, .ref m0), (1, .int (nI x)), (3, .int 1)], [.int 308, .int (nI x)], M)) rfl rfl rfl ?_
            refine ps_st (S' := (107, [(4, .int 1), (0, .ref m0), (1, .int (nI x)), (3, .int 1)], [.int ((nI x) &&& 308)], M)) rfl rfl rfl ?_
            rw [nI_an (p := x) (k := 308) (x := 308) rfl]
            show pl _ _ _ (_, [(4, .int 1), (0, .ref m0), (1, .int (nI x)), (3, .int 1)], [.int (nI (aN x 308))], M) _
            refine ps_if (S1 := (112, [(4, .int 1), (0, .ref m0), (1, .int (nI x)), (3, .int 1)], [], M)) (S2 := (110, [(4, .int 1), (0, .ref m0), (1, .int (nI x)), (3, .int 1)], [], M)) rfl rfl rfl (fun c_107 => ?_) (fun c_107 => ?_)
            · have c_107 : (nI (aN x 308)) = 0 := of_decide_eq_true c_107
              have n_107 : aN x 308 = 0 := (eq_nI (p := aN x 308) (n := 0) (Nat.lt_of_le_of_lt (an_le _ _) (by decide)) (by decide)).mp c_107
              refine ps_st (S' := (113, [(4, .int 1), (0, .ref m0), (1, .int (nI x)), (3, .int 1)], [.ref m0], M)) rfl rfl rfl ?_
              refine pr_int (j := 53) (S' := (116, [(4, .int 1), (0, .ref m0), (1, .int (nI x)), (3, .int 1)], [.int (nI mj)], M)) rfl hR rfl hi53 rfl ?_
              refine ps_st (S' := (118, [(4, .int 1), (0, .ref m0), (1, .int (nI x)), (3, .int 1)], [.int 52, .int (nI mj)], M)) rfl rfl rfl ?_
              refine ps_if2 (S1 := (145, [(4, .int 1), (0, .ref m0), (1, .int (nI x)), (3, .int 1)], [], M)) (S2 := (121, [(4, .int 1), (0, .ref m0), (1, .int (nI x)), (3, .int 1)], [], M)) rfl rfl rfl (fun c_118 => ?_) (fun c_118 => ?_)
              · have c_118 : 52 ≤ (nI mj) := of_decide_eq_true c_118
                have n_118 : 52 ≤ mj := (le_nI (p := 52) (n := mj) (by decide) (by omega)).mp c_118
                refine ps_st (S' := (146, [(4, .int 1), (0, .ref m0), (1, .int (nI x)), (3, .int 1)], [.int (nI x)], M)) rfl rfl rfl ?_
                refine ps_st (S' := (147, [(4, .int 1), (0, .ref m0), (1, .int (nI x)), (3, .int 1)], [.int 1, .int (nI x)], M)) rfl rfl rfl ?_
                refine ps_st (S' := (148, [(4, .int 1), (0, .ref m0), (1, .int (nI x)), (3, .int 1)], [.int ((nI x) &&& 1)], M)) rfl rfl rfl ?_
                rw [nI_an (p := x) (k := 1) (x := 1) rfl]
                show pl _ _ _ (_, [(4, .int 1), (0, .ref m0), (1, .int (nI x)), (3, .int 1)], [.int (nI (aN x 1))], M) _
                refine ps_if (S1 := (155, [(4, .int 1), (0, .ref m0), (1, .int (nI x)), (3, .int 1)], [], M)) (S2 := (151, [(4, .int 1), (0, .ref m0), (1, .int (nI x)), (3, .int 1)], [], M)) rfl rfl rfl (fun c_148 => ?_) (fun c_148 => ?_)
                · have c_148 : (nI (aN x 1)) = 0 := of_decide_eq_true c_148
                  have n_148 : aN x 1 = 0 := (eq_nI (p := aN x 1) (n := 0) (Nat.lt_of_le_of_lt (an_le _ _) (by decide)) (by decide)).mp c_148
                  refine ps_st (S' := (156, [(1, .int (nI x)), (4, .int 1)], [.int 0], M)) rfl rfl rfl ?_
                  refine ps_st (S' := (157, [(1, .int (nI x)), (4, .int 1)], [.int (nI x), .int 0], M)) rfl rfl rfl ?_
                  refine ps_st (S' := (158, [(1, .int (nI x)), (4, .int 1)], [.int 2, .int (nI x), .int 0], M)) rfl rfl rfl ?_
                  refine ps_st (S' := (159, [(1, .int (nI x)), (4, .int 1)], [.int ((nI x) &&& 2), .int 0], M)) rfl rfl rfl ?_
                  rw [nI_an (p := x) (k := 2) (x := 2) rfl]
                  show pl _ _ _ (_, [(1, .int (nI x)), (4, .int 1)], [.int (nI (aN x 2)), .int 0], M) _
                  refine ps_if (S1 := (166, [(1, .int (nI x)), (4, .int 1)], [.int 0], M)) (S2 := (162, [(1, .int (nI x)), (4, .int 1)], [.int 0], M)) rfl rfl rfl (fun c_159 => ?_) (fun c_159 => ?_)
                  · have c_159 : (nI (aN x 2)) = 0 := of_decide_eq_true c_159
                    have n_159 : aN x 2 = 0 := (eq_nI (p := aN x 2) (n := 0) (Nat.lt_of_le_of_lt (an_le _ _) (by decide)) (by decide)).mp c_159
                    refine ps_st (S' := (167, [(4, .int 1)], [.int 0, .int 0], M)) rfl rfl rfl ?_
                    refine ps_if2 (S1 := (172, [(4, .int 1)], [], M)) (S2 := (170, [], [], M)) rfl rfl rfl (fun c_167 => ?_) (fun c_167 => ?_)
                    · exact absurd (of_decide_eq_true c_167) (by decide)
                    refine ps_st (S' := (171, [], [.int 0], M)) rfl rfl rfl ?_
                    exact ps_ret rfl rfl (⟨congrArg (fun x => some (Value.int (nI x))) (show 0 = fitN mj c x 0 from by
                        have e3 := has_0 x 1400
                        have e4 := has_0 x 1024
                        have e5 := has_0 c 512
                        have e2 := sev_0 x
                        have b1 := le1_one x
                        have ha : absN mj x = 0 := (abs_0 mj x).mpr (by omega)
                        have b2 := le1_imh mj x
                        have hi : imhN mj x = 0 := (imh_0 mj x).mpr (by omega)
                        unfold fitN
                        first | ((repeat first | rw [if_pos (by omega)] | rw [if_neg (by omega)]) <;> first | rfl | omega) | ((repeat' split) <;> first | rfl | (exfalso; omega) | omega)), rfl⟩)
                  · have c_159 : ¬ ((nI (aN x 2)) = 0) := of_decide_eq_false c_159
                    have n_159 : ¬ (aN x 2 = 0) := fun h9 => c_159 ((eq_nI (p := aN x 2) (n := 0) (Nat.lt_of_le_of_lt (an_le _ _) (by decide)) (by decide)).mpr h9)
                    refine ps_st (S' := (163, [(1, .int (nI x)), (4, .int 1)], [.int 1, .int 0], M)) rfl rfl rfl ?_
                    refine ps_st (S' := (167, [(4, .int 1)], [.int 1, .int 0], M)) rfl rfl rfl ?_
                    refine ps_if2 (S1 := (172, [(4, .int 1)], [], M)) (S2 := (170, [], [], M)) rfl rfl rfl (fun c_167 => ?_) (fun c_167 => ?_)
                    rotate_left
                    · exact absurd (by decide) (of_decide_eq_false c_167)
                    refine ps_st (S' := (174, [(4, .int 1)], [.int 1], M)) rfl rfl rfl ?_
                    refine ps_if (S1 := (181, [(4, .int 1)], [], M)) (S2 := (177, [(4, .int 1)], [], M)) rfl rfl rfl (fun c_174 => ?_) (fun c_174 => ?_)
                    rotate_left
                    · exact absurd (by decide) (of_decide_eq_false c_174)
                    refine ps_st (S' := (182, [], [.int 0], M)) rfl rfl rfl ?_
                    exact ps_ret rfl rfl (⟨congrArg (fun x => some (Value.int (nI x))) (show 0 = fitN mj c x 0 from by
                        have e3 := has_0 x 1400
                        have e4 := has_0 x 1024
                        have e5 := has_0 c 512
                        have e2 := sev_0 x
                        have b1 := le1_one x
                        have ha : absN mj x = 0 := (abs_0 mj x).mpr (by omega)
                        have b2 := le1_imh mj x
                        have hi : ¬ imhN mj x = 0 := fun h => absurd ((imh_0 mj x).mp h) (by omega)
                        unfold fitN
                        first | ((repeat first | rw [if_pos (by omega)] | rw [if_neg (by omega)]) <;> first | rfl | omega) | ((repeat' split) <;> first | rfl | (exfalso; omega) | omega)), rfl⟩)
                · have c_148 : ¬ ((nI (aN x 1)) = 0) := of_decide_eq_false c_148
                  have n_148 : ¬ (aN x 1 = 0) := fun h9 => c_148 ((eq_nI (p := aN x 1) (n := 0) (Nat.lt_of_le_of_lt (an_le _ _) (by decide)) (by decide)).mpr h9)
                  refine ps_st (S' := (152, [(4, .int 1), (0, .ref m0), (1, .int (nI x)), (3, .int 1)], [.int 1], M)) rfl rfl rfl ?_
                  refine ps_st (S' := (156, [(1, .int (nI x)), (4, .int 1)], [.int 1], M)) rfl rfl rfl ?_
                  refine ps_st (S' := (157, [(1, .int (nI x)), (4, .int 1)], [.int (nI x), .int 1], M)) rfl rfl rfl ?_
                  refine ps_st (S' := (158, [(1, .int (nI x)), (4, .int 1)], [.int 2, .int (nI x), .int 1], M)) rfl rfl rfl ?_
                  refine ps_st (S' := (159, [(1, .int (nI x)), (4, .int 1)], [.int ((nI x) &&& 2), .int 1], M)) rfl rfl rfl ?_
                  rw [nI_an (p := x) (k := 2) (x := 2) rfl]
                  show pl _ _ _ (_, [(1, .int (nI x)), (4, .int 1)], [.int (nI (aN x 2)), .int 1], M) _
                  refine ps_if (S1 := (166, [(1, .int (nI x)), (4, .int 1)], [.int 1], M)) (S2 := (162, [(1, .int (nI x)), (4, .int 1)], [.int 1], M)) rfl rfl rfl (fun c_159 => ?_) (fun c_159 => ?_)
                  · have c_159 : (nI (aN x 2)) = 0 := of_decide_eq_true c_159
                    have n_159 : aN x 2 = 0 := (eq_nI (p := aN x 2) (n := 0) (Nat.lt_of_le_of_lt (an_le _ _) (by decide)) (by decide)).mp c_159
                    refine ps_st (S' := (167, [(4, .int 1)], [.int 0, .int 1], M)) rfl rfl rfl ?_
                    refine ps_if2 (S1 := (172, [(4, .int 1)], [], M)) (S2 := (170, [], [], M)) rfl rfl rfl (fun c_167 => ?_) (fun c_167 => ?_)
                    rotate_left
                    · exact absurd (by decide) (of_decide_eq_false c_167)
                    refine ps_st (S' := (174, [(4, .int 1)], [.int 1], M)) rfl rfl rfl ?_
                    refine ps_if (S1 := (181, [(4, .int 1)], [], M)) (S2 := (177, [(4, .int 1)], [], M)) rfl rfl rfl (fun c_174 => ?_) (fun c_174 => ?_)
                    rotate_left
                    · exact absurd (by decide) (of_decide_eq_false c_174)
                    refine ps_st (S' := (182, [], [.int 0], M)) rfl rfl rfl ?_
                    exact ps_ret rfl rfl (⟨congrArg (fun x => some (Value.int (nI x))) (show 0 = fitN mj c x 0 from by
                        have e3 := has_0 x 1400
                        have e4 := has_0 x 1024
                        have e5 := has_0 c 512
                        have e2 := sev_0 x
                        have b1 := le1_one x
                        have ha : absN mj x = 0 := (abs_0 mj x).mpr (by omega)
                        have b2 := le1_imh mj x
                        have hi : ¬ imhN mj x = 0 := fun h => absurd ((imh_0 mj x).mp h) (by omega)
                        unfold fitN
                        first | ((repeat first | rw [if_pos (by omega)] | rw [if_neg (by omega)]) <;> first | rfl | omega) | ((repeat' split) <;> first | rfl | (exfalso; omega) | omega)), rfl⟩)
                  · have c_159 : ¬ ((nI (aN x 2)) = 0) := of_decide_eq_false c_159
                    have n_159 : ¬ (aN x 2 = 0) := fun h9 => c_159 ((eq_nI (p := aN x 2) (n := 0) (Nat.lt_of_le_of_lt (an_le _ _) (by decide)) (by decide)).mpr h9)
                    refine ps_st (S' := (163, [(1, .int (nI x)), (4, .int 1)], [.int 1, .int 1], M)) rfl rfl rfl ?_
                    refine ps_st (S' := (167, [(4, .int 1)], [.int 1, .int 1], M)) rfl rfl rfl ?_
                    refine ps_if2 (S1 := (172, [(4, .int 1)], [], M)) (S2 := (170, [], [], M)) rfl rfl rfl (fun c_167 => ?_) (fun c_167 => ?_)
                    · exact absurd (of_decide_eq_true c_167) (by decide)
                    refine ps_st (S' := (171, [], [.int 0], M)) rfl rfl rfl ?_
                    exact ps_ret rfl rfl (⟨congrArg (fun x => some (Value.int (nI x))) (show 0 = fitN mj c x 0 from by
                        have e3 := has_0 x 1400
                        have e4 := has_0 x 1024
                        have e5 := has_0 c 512
                        have e2 := sev_0 x
                        have b1 := le1_one x
                        have ha : absN mj x = 0 := (abs_0 mj x).mpr (by omega)
                        have b2 := le1_imh mj x
                        have hi : imhN mj x = 0 := (imh_0 mj x).mpr (by omega)
                        unfold fitN
                        first | ((repeat first | rw [if_pos (by omega)] | rw [if_neg (by omega)]) <;> first | rfl | omega) | ((repeat' split) <;> first | rfl | (exfalso; omega) | omega)), rfl⟩)
              · have c_118 : ¬ (52 ≤ (nI mj)) := of_decide_eq_false c_118
                have n_118 : ¬ (52 ≤ mj) := fun h9 => c_118 ((le_nI (p := 52) (n := mj) (by decide) (by omega)).mpr h9)
                refine ps_st (S' := (122, [(4, .int 1), (0, .ref m0), (1, .int (nI x)), (3, .int 1)], [.int (nI x)], M)) rfl rfl rfl ?_
                refine ps_st (S' := (123, [(4, .int 1), (0, .ref m0), (1, .int (nI x)), (3, .int 1)], [.int 1, .int (nI x)], M)) rfl rfl rfl ?_
                refine ps_st (S' := (124, [(4, .int 1), (0, .ref m0), (1, .int (nI x)), (3, .int 1)], [.int ((nI x) &&& 1)], M)) rfl rfl rfl ?_
                rw [nI_an (p := x) (k := 1) (x := 1) rfl]
                show pl _ _ _ (_, [(4, .int 1), (0, .ref m0), (1, .int (nI x)), (3, .int 1)], [.int (nI (aN x 1))], M) _
                refine ps_if (S1 := (170, [], [], M)) (S2 := (127, [(4, .int 1), (0, .ref m0), (1, .int (nI x)), (3, .int 1)], [], M)) rfl rfl rfl (fun c_124 => ?_) (fun c_124 => ?_)
                · have c_124 : (nI (aN x 1)) = 0 := of_decide_eq_true c_124
                  have n_124 : aN x 1 = 0 := (eq_nI (p := aN x 1) (n := 0) (Nat.lt_of_le_of_lt (an_le _ _) (by decide)) (by decide)).mp c_124
                  refine ps_st (S' := (171, [], [.int 0], M)) rfl rfl rfl ?_
                  exact ps_ret rfl rfl (⟨congrArg (fun x => some (Value.int (nI x))) (show 0 = fitN mj c x 0 from by
                      have e3 := has_0 x 1400
                      have e4 := has_0 x 1024
                      have e5 := has_0 c 512
                      have e2 := sev_0 x
                      have b1 := le1_one x
                      have ha : absN mj x = 0 := (abs_0 mj x).mpr (by omega)
                      have b2 := le1_imh mj x
                      have hi : imhN mj x = 0 := (imh_0 mj x).mpr (by omega)
                      unfold fitN
                      first | ((repeat first | rw [if_pos (by omega)] | rw [if_neg (by omega)]) <;> first | rfl | omega) | ((repeat' split) <;> first | rfl | (exfalso; omega) | omega)), rfl⟩)
                · have c_124 : ¬ ((nI (aN x 1)) = 0) := of_decide_eq_false c_124
                  have n_124 : ¬ (aN x 1 = 0) := fun h9 => c_124 ((eq_nI (p := aN x 1) (n := 0) (Nat.lt_of_le_of_lt (an_le _ _) (by decide)) (by decide)).mpr h9)
                  refine ps_st (S' := (128, [(4, .int 1), (0, .ref m0), (1, .int (nI x)), (3, .int 1)], [.int (nI x)], M)) rfl rfl rfl ?_
                  refine ps_st (S' := (131, [(4, .int 1), (0, .ref m0), (1, .int (nI x)), (3, .int 1)], [.int 1024, .int (nI x)], M)) rfl rfl rfl ?_
                  refine ps_st (S' := (132, [(4, .int 1), (0, .ref m0), (1, .int (nI x)), (3, .int 1)], [.int ((nI x) &&& 1024)], M)) rfl rfl rfl ?_
                  rw [nI_an (p := x) (k := 1024) (x := 1024) rfl]
                  show pl _ _ _ (_, [(4, .int 1), (0, .ref m0), (1, .int (nI x)), (3, .int 1)], [.int (nI (aN x 1024))], M) _
                  refine ps_if (S1 := (170, [], [], M)) (S2 := (135, [(4, .int 1), (0, .ref m0), (1, .int (nI x)), (3, .int 1)], [], M)) rfl rfl rfl (fun c_132 => ?_) (fun c_132 => ?_)
                  · exact absurd (of_decide_eq_true c_132) (show ¬ ((nI (aN x 1024)) = 0) from fun h9 => absurd ((eq_nI (p := aN x 1024) (n := 0) (Nat.lt_of_le_of_lt (an_le _ _) (by decide)) (by decide)).mp h9) (by omega))
                  refine ps_st (S' := (136, [(4, .int 1), (0, .ref m0), (1, .int (nI x)), (3, .int 1)], [.int (nI x)], M)) rfl rfl rfl ?_
                  refine ps_st (S' := (138, [(4, .int 1), (0, .ref m0), (1, .int (nI x)), (3, .int 1)], [.int 8, .int (nI x)], M)) rfl rfl rfl ?_
                  refine ps_st (S' := (139, [(4, .int 1), (0, .ref m0), (1, .int (nI x)), (3, .int 1)], [.int ((nI x) &&& 8)], M)) rfl rfl rfl ?_
                  rw [nI_an (p := x) (k := 8) (x := 8) rfl]
                  show pl _ _ _ (_, [(4, .int 1), (0, .ref m0), (1, .int (nI x)), (3, .int 1)], [.int (nI (aN x 8))], M) _
                  refine ps_if (S1 := (172, [(4, .int 1)], [], M)) (S2 := (142, [(4, .int 1), (0, .ref m0), (1, .int (nI x)), (3, .int 1)], [], M)) rfl rfl rfl (fun c_139 => ?_) (fun c_139 => ?_)
                  · have c_139 : (nI (aN x 8)) = 0 := of_decide_eq_true c_139
                    have n_139 : aN x 8 = 0 := (eq_nI (p := aN x 8) (n := 0) (Nat.lt_of_le_of_lt (an_le _ _) (by decide)) (by decide)).mp c_139
                    refine ps_st (S' := (174, [(4, .int 1)], [.int 1], M)) rfl rfl rfl ?_
                    refine ps_if (S1 := (181, [(4, .int 1)], [], M)) (S2 := (177, [(4, .int 1)], [], M)) rfl rfl rfl (fun c_174 => ?_) (fun c_174 => ?_)
                    rotate_left
                    · exact absurd (by decide) (of_decide_eq_false c_174)
                    refine ps_st (S' := (182, [], [.int 0], M)) rfl rfl rfl ?_
                    exact ps_ret rfl rfl (⟨congrArg (fun x => some (Value.int (nI x))) (show 0 = fitN mj c x 0 from by
                        have e3 := has_0 x 1400
                        have e4 := has_0 x 1024
                        have e5 := has_0 c 512
                        have e2 := sev_0 x
                        have b1 := le1_one x
                        have ha : absN mj x = 0 := (abs_0 mj x).mpr (by omega)
                        have b2 := le1_imh mj x
                        have hi : ¬ imhN mj x = 0 := fun h => absurd ((imh_0 mj x).mp h) (by omega)
                        unfold fitN
                        first | ((repeat first | rw [if_pos (by omega)] | rw [if_neg (by omega)]) <;> first | rfl | omega) | ((repeat' split) <;> first | rfl | (exfalso; omega) | omega)), rfl⟩)
                  · have c_139 : ¬ ((nI (aN x 8)) = 0) := of_decide_eq_false c_139
                    have n_139 : ¬ (aN x 8 = 0) := fun h9 => c_139 ((eq_nI (p := aN x 8) (n := 0) (Nat.lt_of_le_of_lt (an_le _ _) (by decide)) (by decide)).mpr h9)
                    refine ps_st (S' := (170, [], [], M)) rfl rfl rfl ?_
                    refine ps_st (S' := (171, [], [.int 0], M)) rfl rfl rfl ?_
                    exact ps_ret rfl rfl (⟨congrArg (fun x => some (Value.int (nI x))) (show 0 = fitN mj c x 0 from by
                        have e3 := has_0 x 1400
                        have e4 := has_0 x 1024
                        have e5 := has_0 c 512
                        have e2 := sev_0 x
                        have b1 := le1_one x
                        have ha : absN mj x = 0 := (abs_0 mj x).mpr (by omega)
                        have b2 := le1_imh mj x
                        have hi : imhN mj x = 0 := (imh_0 mj x).mpr (by omega)
                        unfold fitN
                        first | ((repeat first | rw [if_pos (by omega)] | rw [if_neg (by omega)]) <;> first | rfl | omega) | ((repeat' split) <;> first | rfl | (exfalso; omega) | omega)), rfl⟩)
            · have c_107 : ¬ ((nI (aN x 308)) = 0) := of_decide_eq_false c_107
              have n_107 : ¬ (aN x 308 = 0) := fun h9 => c_107 ((eq_nI (p := aN x 308) (n := 0) (Nat.lt_of_le_of_lt (an_le _ _) (by decide)) (by decide)).mpr h9)
              refine ps_st (S' := (111, [(4, .int 1), (0, .ref m0), (1, .int (nI x)), (3, .int 1)], [.int 0], M)) rfl rfl rfl ?_
              exact ps_ret rfl rfl (⟨congrArg (fun x => some (Value.int (nI x))) (show 0 = fitN mj c x 0 from by
                  have e3 := has_0 x 1400
                  have e4 := has_0 x 1024
                  have e5 := has_0 c 512
                  have e2 := sev_0 x
                  have b1 := le1_one x
                  have ha : absN mj x = 0 := (abs_0 mj x).mpr (by omega)
                  have b2 := le1_imh mj x
                  have hi : imhN mj x = 0 := (imh_0 mj x).mpr (by omega)
                  unfold fitN
                  first | ((repeat first | rw [if_pos (by omega)] | rw [if_neg (by omega)]) <;> first | rfl | omega) | ((repeat' split) <;> first | rfl | (exfalso; omega) | omega)), rfl⟩)
set_option maxHeartbeats 8000000 in
theorem rd_fit10 {g : xe_G} {m0 : Nat} {q : Nat → Nat} {z : Nat × Nat} {I : rI} {R : rR} {M : mi_H} {mj x c : Nat} (hR : RS g m0 q z I R M) (hi53 : I 53 = some (nI mj))  (hmj : mj < 65536) (hx : x < 65536) (hc : aN c 512 = 0) : pt (mT g) 209 [.ref m0, .int (nI x), .int 1, .int 0] M (fun v M' => (v = some (.int (nI (fitN mj c x 1))) ∧ M = M')) := by
  refine pt_in (b := mb_209 g) rfl (fun kf => ?_)
  show pl (mT g) kf (mb_209 g).2 (0, [(0, .ref m0), (1, .int (nI x)), (2, .int 1), (3, .int 0)], [], M) _
  refine ps_st (S' := (1, [(0, .ref m0), (1, .int (nI x)), (2, .int 1), (3, .int 0)], [.int 1], M)) rfl rfl rfl ?_
  refine ps_if (S1 := (28, [(0, .ref m0), (1, .int (nI x)), (2, .int 1), (3, .int 0)], [], M)) (S2 := (4, [(0, .ref m0), (1, .int (nI x)), (2, .int 1), (3, .int 0)], [], M)) rfl rfl rfl (fun c_1 => ?_) (fun c_1 => ?_)
  · exact absurd (of_decide_eq_true c_1) (by decide)
  refine ps_st (S' := (5, [(0, .ref m0), (1, .int (nI x)), (2, .int 1), (3, .int 0)], [.int (nI x)], M)) rfl rfl rfl ?_
  refine ps_st (S' := (6, [(0, .ref m0), (1, .int (nI x)), (2, .int 1), (3, .int 0)], [.int 1, .int (nI x)], M)) rfl rfl rfl ?_
  refine ps_st (S' := (7, [(0, .ref m0), (1, .int (nI x)), (2, .int 1), (3, .int 0)], [.int 2, .int 1, .int (nI x)], M)) rfl rfl rfl ?_
  refine ps_st (S' := (8, [(0, .ref m0), (1, .int (nI x)), (2, .int 1), (3, .int 0)], [.int 4, .int 2, .int 1, .int (nI x)], M)) rfl rfl rfl ?_
  refine pl_call (a := [.int (nI x), .int 1, .int 2, .int 4]) (rest := []) rfl rfl rfl (rd_several (x := x)) (fun v1 M2 q3 => ?_)
  obtain ⟨rfl, rfl⟩ := q3
  show pl _ _ _ (11, [(0, .ref m0), (1, .int (nI x)), (2, .int 1), (3, .int 0)], [.int (nI (sevN x))], M) _
  refine ps_if (S1 := (26, [], [], M)) (S2 := (14, [(0, .ref m0), (1, .int (nI x)), (2, .int 1), (3, .int 0)], [], M)) rfl rfl rfl (fun c_11 => ?_) (fun c_11 => ?_)
  · have c_11 : ¬ (nI (sevN x)) = 0 := of_decide_eq_true c_11
    have n_11 : ¬ (sevN x = 0) := fun h9 => c_11 ((eq_nI (p := sevN x) (n := 0) (Nat.lt_trans (le1_sev _) (by decide)) (by decide)).mpr h9)
    refine ps_st (S' := (27, [], [.int 0], M)) rfl rfl rfl ?_
    exact ps_ret rfl rfl (⟨congrArg (fun x => some (Value.int (nI x))) (show 0 = fitN mj c x 1 from by
        have e3 := has_0 x 1400
        have e4 := has_0 x 1024
        have e5 := has_0 c 512
        have e2 := sev_0 x
        have b1 := le1_one x
        unfold fitN
        first | ((repeat first | rw [if_pos (by omega)] | rw [if_neg (by omega)]) <;> first | rfl | omega) | ((repeat' split) <;> first | rfl | (exfalso; omega) | omega)), rfl⟩)
  · have c_11 : ¬ (¬ (nI (sevN x)) = 0) := of_decide_eq_false c_11
    have n_11 : sevN x = 0 := (eq_nI (p := sevN x) (n := 0) (Nat.lt_trans (le1_sev _) (by decide)) (by decide)).mp (Decidable.not_not.mp c_11)
    refine ps_st (S' := (15, [(0, .ref m0), (1, .int (nI x)), (2, .int 1), (3, .int 0)], [.int (nI x)], M)) rfl rfl rfl ?_
    refine ps_st (S' := (18, [(0, .ref m0), (1, .int (nI x)), (2, .int 1), (3, .int 0)], [.int 1400, .int (nI x)], M)) rfl rfl rfl ?_
    refine ps_st (S' := (19, [(0, .ref m0), (1, .int (nI x)), (2, .int 1), (3, .int 0)], [.int ((nI x) &&& 1400)], M)) rfl rfl rfl ?_
    rw [nI_an (p := x) (k := 1400) (x := 1400) rfl]
    show pl _ _ _ (_, [(0, .ref m0), (1, .int (nI x)), (2, .int 1), (3, .int 0)], [.int (nI (aN x 1400))], M) _
    refine ps_if (S1 := (26, [], [], M)) (S2 := (22, [(0, .ref m0), (1, .int (nI x)), (2, .int 1), (3, .int 0)], [], M)) rfl rfl rfl (fun c_19 => ?_) (fun c_19 => ?_)
    · have c_19 : ¬ (nI (aN x 1400)) = 0 := of_decide_eq_true c_19
      have n_19 : ¬ (aN x 1400 = 0) := fun h9 => c_19 ((eq_nI (p := aN x 1400) (n := 0) (Nat.lt_of_le_of_lt (an_le _ _) (by decide)) (by decide)).mpr h9)
      refine ps_st (S' := (27, [], [.int 0], M)) rfl rfl rfl ?_
      exact ps_ret rfl rfl (⟨congrArg (fun x => some (Value.int (nI x))) (show 0 = fitN mj c x 1 from by
          have e3 := has_0 x 1400
          have e4 := has_0 x 1024
          have e5 := has_0 c 512
          have e2 := sev_0 x
          have b1 := le1_one x
          unfold fitN
          first | ((repeat first | rw [if_pos (by omega)] | rw [if_neg (by omega)]) <;> first | rfl | omega) | ((repeat' split) <;> first | rfl | (exfalso; omega) | omega)), rfl⟩)
    · have c_19 : ¬ (¬ (nI (aN x 1400)) = 0) := of_decide_eq_false c_19
      have n_19 : aN x 1400 = 0 := (eq_nI (p := aN x 1400) (n := 0) (Nat.lt_of_le_of_lt (an_le _ _) (by decide)) (by decide)).mp (Decidable.not_not.mp c_19)
      refine ps_st (S' := (23, [(0, .ref m0), (1, .int (nI x)), (2, .int 1), (3, .int 0)], [.int 1], M)) rfl rfl rfl ?_
      refine ps_st (S' := (27, [], [.int 1], M)) rfl rfl rfl ?_
      exact ps_ret rfl rfl (⟨congrArg (fun x => some (Value.int (nI x))) (show 1 = fitN mj c x 1 from by
          have e3 := has_0 x 1400
          have e4 := has_0 x 1024
          have e5 := has_0 c 512
          have e2 := sev_0 x
          have b1 := le1_one x
          unfold fitN
          first | ((repeat first | rw [if_pos (by omega)] | rw [if_neg (by omega)]) <;> first | rfl | omega) | ((repeat' split) <;> first | rfl | (exfalso; omega) | omega)), rfl⟩)
set_option maxHeartbeats 8000000 in
theorem rd_fit11 {g : xe_G} {m0 : Nat} {q : Nat → Nat} {z : Nat × Nat} {I : rI} {R : rR} {M : mi_H} {mj x c : Nat} (hR : RS g m0 q z I R M) (hi53 : I 53 = some (nI mj))  (hmj : mj < 65536) (hx : x < 65536) (hc : ¬ aN c 512 = 0) : pt (mT g) 209 [.ref m0, .int (nI x), .int 1, .int 1] M (fun v M' => (v = some (.int (nI (fitN mj c x 1))) ∧ M = M')) := by
  refine pt_in (b := mb_209 g) rfl (fun kf => ?_)
  show pl (mT g) kf (mb_209 g).2 (0, [(0, .ref m0), (1, .int (nI x)), (2, .int 1), (3, .int 1)], [], M) _
  refine ps_st (S' := (1, [(0, .ref m0), (1, .int (nI x)), (2, .int 1), (3, .int 1)], [.int 1], M)) rfl rfl rfl ?_
  refine ps_if (S1 := (28, [(0, .ref m0), (1, .int (nI x)), (2, .int 1), (3, .int 1)], [], M)) (S2 := (4, [(0, .ref m0), (1, .int (nI x)), (2, .int 1), (3, .int 1)], [], M)) rfl rfl rfl (fun c_1 => ?_) (fun c_1 => ?_)
  · exact absurd (of_decide_eq_true c_1) (by decide)
  refine ps_st (S' := (5, [(0, .ref m0), (1, .int (nI x)), (2, .int 1), (3, .int 1)], [.int (nI x)], M)) rfl rfl rfl ?_
  refine ps_st (S' := (6, [(0, .ref m0), (1, .int (nI x)), (2, .int 1), (3, .int 1)], [.int 1, .int (nI x)], M)) rfl rfl rfl ?_
  refine ps_st (S' := (7, [(0, .ref m0), (1, .int (nI x)), (2, .int 1), (3, .int 1)], [.int 2, .int 1, .int (nI x)], M)) rfl rfl rfl ?_
  refine ps_st (S' := (8, [(0, .ref m0), (1, .int (nI x)), (2, .int 1), (3, .int 1)], [.int 4, .int 2, .int 1, .int (nI x)], M)) rfl rfl rfl ?_
  refine pl_call (a := [.int (nI x), .int 1, .int 2, .int 4]) (rest := []) rfl rfl rfl (rd_several (x := x)) (fun v1 M2 q3 => ?_)
  obtain ⟨rfl, rfl⟩ := q3
  show pl _ _ _ (11, [(0, .ref m0), (1, .int (nI x)), (2, .int 1), (3, .int 1)], [.int (nI (sevN x))], M) _
  refine ps_if (S1 := (26, [], [], M)) (S2 := (14, [(0, .ref m0), (1, .int (nI x)), (2, .int 1), (3, .int 1)], [], M)) rfl rfl rfl (fun c_11 => ?_) (fun c_11 => ?_)
  · have c_11 : ¬ (nI (sevN x)) = 0 := of_decide_eq_true c_11
    have n_11 : ¬ (sevN x = 0) := fun h9 => c_11 ((eq_nI (p := sevN x) (n := 0) (Nat.lt_trans (le1_sev _) (by decide)) (by decide)).mpr h9)
    refine ps_st (S' := (27, [], [.int 0], M)) rfl rfl rfl ?_
    exact ps_ret rfl rfl (⟨congrArg (fun x => some (Value.int (nI x))) (show 0 = fitN mj c x 1 from by
        have e3 := has_0 x 1400
        have e4 := has_0 x 1024
        have e5 := has_0 c 512
        have e2 := sev_0 x
        have b1 := le1_one x
        unfold fitN
        first | ((repeat first | rw [if_pos (by omega)] | rw [if_neg (by omega)]) <;> first | rfl | omega) | ((repeat' split) <;> first | rfl | (exfalso; omega) | omega)), rfl⟩)
  · have c_11 : ¬ (¬ (nI (sevN x)) = 0) := of_decide_eq_false c_11
    have n_11 : sevN x = 0 := (eq_nI (p := sevN x) (n := 0) (Nat.lt_trans (le1_sev _) (by decide)) (by decide)).mp (Decidable.not_not.mp c_11)
    refine ps_st (S' := (15, [(0, .ref m0), (1, .int (nI x)), (2, .int 1), (3, .int 1)], [.int (nI x)], M)) rfl rfl rfl ?_
    refine ps_st (S' := (18, [(0, .ref m0), (1, .int (nI x)), (2, .int 1), (3, .int 1)], [.int 1400, .int (nI x)], M)) rfl rfl rfl ?_
    refine ps_st (S' := (19, [(0, .ref m0), (1, .int (nI x)), (2, .int 1), (3, .int 1)], [.int ((nI x) &&& 1400)], M)) rfl rfl rfl ?_
    rw [nI_an (p := x) (k := 1400) (x := 1400) rfl]
    show pl _ _ _ (_, [(0, .ref m0), (1, .int (nI x)), (2, .int 1), (3, .int 1)], [.int (nI (aN x 1400))], M) _
    refine ps_if (S1 := (26, [], [], M)) (S2 := (22, [(0, .ref m0), (1, .int (nI x)), (2, .int 1), (3, .int 1)], [], M)) rfl rfl rfl (fun c_19 => ?_) (fun c_19 => ?_)
    · have c_19 : ¬ (nI (aN x 1400)) = 0 := of_decide_eq_true c_19
      have n_19 : ¬ (aN x 1400 = 0) := fun h9 => c_19 ((eq_nI (p := aN x 1400) (n := 0) (Nat.lt_of_le_of_lt (an_le _ _) (by decide)) (by decide)).mpr h9)
      refine ps_st (S' := (27, [], [.int 0], M)) rfl rfl rfl ?_
      exact ps_ret rfl rfl (⟨congrArg (fun x => some (Value.int (nI x))) (show 0 = fitN mj c x 1 from by
          have e3 := has_0 x 1400
          have e4 := has_0 x 1024
          have e5 := has_0 c 512
          have e2 := sev_0 x
          have b1 := le1_one x
          unfold fitN
          first | ((repeat first | rw [if_pos (by omega)] | rw [if_neg (by omega)]) <;> first | rfl | omega) | ((repeat' split) <;> first | rfl | (exfalso; omega) | omega)), rfl⟩)
    · have c_19 : ¬ (¬ (nI (aN x 1400)) = 0) := of_decide_eq_false c_19
      have n_19 : aN x 1400 = 0 := (eq_nI (p := aN x 1400) (n := 0) (Nat.lt_of_le_of_lt (an_le _ _) (by decide)) (by decide)).mp (Decidable.not_not.mp c_19)
      refine ps_st (S' := (23, [(0, .ref m0), (1, .int (nI x)), (2, .int 1), (3, .int 1)], [.int 1], M)) rfl rfl rfl ?_
      refine ps_st (S' := (27, [], [.int 1], M)) rfl rfl rfl ?_
      exact ps_ret rfl rfl (⟨congrArg (fun x => some (Value.int (nI x))) (show 1 = fitN mj c x 1 from by
          have e3 := has_0 x 1400
          have e4 := has_0 x 1024
          have e5 := has_0 c 512
          have e2 := sev_0 x
          have b1 := le1_one x
          unfold fitN
          first | ((repeat first | rw [if_pos (by omega)] | rw [if_neg (by omega)]) <;> first | rfl | omega) | ((repeat' split) <;> first | rfl | (exfalso; omega) | omega)), rfl⟩)
set_option maxHeartbeats 8000000 in
theorem rd_checkClass {g : xe_G} {m0 : Nat} {q : Nat → Nat} {z : Nat × Nat} {I : rI} {R : rR} {M : mi_H} {n : Nat} {f : Nat → Int32} {tx : List (List Nat)} {cN : Nat} {A : Nat → Nat} {N mj : Nat} {E : List (Nat × Nat)} {hA s3 : Nat} (hR : RS g m0 q z I R M) (hi54 : I 54 = some (nI hA)) (hi11 : I 11 = some (nI s3)) (hi51 : I 51 = some 0) (hi52 : I 52 = some (nI N)) (hi53 : I 53 = some (nI mj)) (hF : FK n f I R) (hY : SYT tx cN A I R) (hP : RPV f n E tx N I R) (hEP : EP f n E) (hN : N < 65536) (hmj : mj < 65536) (hs3 : s3 < tx.length ∧ tx.getD s3 [] = ltx 27) (hCP : CP f n E) (hin : hA + 8 + 2 * by2 f (hA + 6) ≤ n) : pt (mT g) 188 [.ref m0] M (fun v M' => (∃  (I' : rI) (R' : rR), (ccS f n E hA = none) ∧ v = some (.int 1) ∧ RS g m0 q z I' R' M' ∧ eqI [47, 48, 58, 59, 60, 61] I I' ∧ eqR [] R R' ∧ I' 58 = some (nI (by2 f hA))) ∨ (∃ (e : Nat × Nat) (I' : rI) (R' : rR), (ccS f n E hA = some e) ∧ v = some (.int 0) ∧ RS g m0 q z I' R' M' ∧ eqI [47, 48, 58, 59, 60, 61] I I' ∧ eqR [] R R' ∧ I' 47 = some (nI e.1) ∧ I' 48 = some (nI e.2))) := by
  refine pt_in (b := mb_188 g) rfl (fun kf => ?_)
  show pl (mT g) kf (mb_188 g).2 (0, [(0, .ref m0)], [], M) _
  have hEI : eqI [47, 48, 58, 59, 60, 61] I I := eqI.rf
  have hER : eqR [] R R := eqR.rf
  have hn := hF.1
  have htl := hY.1.2.2.1
  have LL : ∀ (kf : Nat), (∀ (i : Nat) (M1 : mi_H) (I1 : rI) (R1 : rR), (RS g m0 q z I1 R1 M1) → (eqI [47, 48, 58, 59, 60, 61] I I1) → (eqR [] R R1) → (I1 54 = some (nI hA)) → (I1 11 = some (nI s3)) → (I1 51 = some 0) → (I1 52 = some (nI N)) → (I1 53 = some (nI mj)) → (I1 58 = some (nI (by2 f hA))) → (FK n f I1 R1) → (SYT tx cN A I1 R1) → (RPV f n E tx N I1 R1) → (hdS f n E hA = none) → (i ≤ by2 f (hA + 6)) → (ifS f n E (hA + 8) (by2 f (hA + 6) - i) i = ifS f n E (hA + 8) (by2 f (hA + 6)) 0) → (∀ j, j < i → ¬ plnN f n E (by2 f (hA + 8 + 2 * j)) = 0) →  pl (mT g) kf (mb_188 g).2 (242, [(0, .ref m0), (4, .int (nI (by2 f (hA + 6)))), (5, .int (nI i))], [], M1) (fun v M' => (∃  (I' : rI) (R' : rR), (ccS f n E hA = none) ∧ v = some (.int 1) ∧ RS g m0 q z I' R' M' ∧ eqI [47, 48, 58, 59, 60, 61] I I' ∧ eqR [] R R' ∧ I' 58 = some (nI (by2 f hA))) ∨ (∃ (e : Nat × Nat) (I' : rI) (R' : rR), (ccS f n E hA = some e) ∧ v = some (.int 0) ∧ RS g m0 q z I' R' M' ∧ eqI [47, 48, 58, 59, 60, 61] I I' ∧ eqR [] R R' ∧ I' 47 = some (nI e.1) ∧ I' 48 = some (nI e.2)))) ∧ (∀ (i j : Nat) (M1 : mi_H) (I1 : rI) (R1 : rR), (RS g m0 q z I1 R1 M1) → (eqI [47, 48, 58, 59, 60, 61] I I1) → (eqR [] R R1) → (I1 54 = some (nI hA)) → (I1 11 = some (nI s3)) → (I1 51 = some 0) → (I1 52 = some (nI N)) → (I1 53 = some (nI mj)) → (I1 58 = some (nI (by2 f hA))) → (FK n f I1 R1) → (SYT tx cN A I1 R1) → (RPV f n E tx N I1 R1) → (hdS f n E hA = none) → (i < by2 f (hA + 6)) → (j ≤ i) → (ifS f n E (hA + 8) (by2 f (hA + 6) - i) i = ifS f n E (hA + 8) (by2 f (hA + 6)) 0) → (¬ plnN f n E (by2 f (hA + 8 + 2 * i)) = 0) → (∀ j, j < i → ¬ plnN f n E (by2 f (hA + 8 + 2 * j)) = 0) → (dupN f n E (hA + 8) (by2 f (hA + 8 + 2 * i)) (i - j) j = dupN f n E (hA + 8) (by2 f (hA + 8 + 2 * i)) i 0) →  pl (mT g) kf (mb_188 g).2 (288, [(0, .ref m0), (4, .int (nI (by2 f (hA + 6)))), (5, .int (nI i)), (6, .int (nI (hA + 8 + 2 * i))), (7, .int (nI j))], [], M1) (fun v M' => (∃  (I' : rI) (R' : rR), (ccS f n E hA = none) ∧ v = some (.int 1) ∧ RS g m0 q z I' R' M' ∧ eqI [47, 48, 58, 59, 60, 61] I I' ∧ eqR [] R R' ∧ I' 58 = some (nI (by2 f hA))) ∨ (∃ (e : Nat × Nat) (I' : rI) (R' : rR), (ccS f n E hA = some e) ∧ v = some (.int 0) ∧ RS g m0 q z I' R' M' ∧ eqI [47, 48, 58, 59, 60, 61] I I' ∧ eqR [] R R' ∧ I' 47 = some (nI e.1) ∧ I' 48 = some (nI e.2)))) := by
    intro kf
    induction kf with
    | zero => exact ⟨by intros; exact pl_0, by intros; exact pl_0⟩
    | succ kf ih =>
      refine ⟨?_, ?_⟩
      · skip
        intro i M1 I1 R1 hR1 hEI1 hER1 hl54 hl11 hl51 hl52 hl53 hl58 hF1 hY1 hP1 hh hi hs hq
        have hn := hF1.1
        have hu9 := by2_lt f (hA + 6)
        have htl := hY1.1.2.2.1
        refine ps_st1 (S' := (244, [(0, .ref m0), (4, .int (nI (by2 f (hA + 6)))), (5, .int (nI i))], [.int (nI i)], M1)) rfl rfl rfl ?_
        refine ps_st (S' := (246, [(0, .ref m0), (4, .int (nI (by2 f (hA + 6)))), (5, .int (nI i))], [.int (nI (by2 f (hA + 6))), .int (nI i)], M1)) rfl rfl rfl ?_
        refine ps_if2 (S1 := (349, [(0, .ref m0), (4, .int (nI (by2 f (hA + 6)))), (5, .int (nI i))], [], M1)) (S2 := (249, [(0, .ref m0), (4, .int (nI (by2 f (hA + 6)))), (5, .int (nI i))], [], M1)) rfl rfl rfl (fun c_246 => ?_) (fun c_246 => ?_)
        · have c_246 : (nI (by2 f (hA + 6))) ≤ (nI i) := of_decide_eq_true c_246
          have n_246 : by2 f (hA + 6) ≤ i := (le_nI (p := by2 f (hA + 6)) (n := i) (Nat.lt_trans (by2_lt _ _) (by decide)) (by omega)).mp c_246
          refine ps_st (S' := (350, [(0, .ref m0), (4, .int (nI (by2 f (hA + 6)))), (5, .int (nI i))], [.ref m0], M1)) rfl rfl rfl ?_
          refine ps_st (S' := (352, [(0, .ref m0), (4, .int (nI (by2 f (hA + 6)))), (5, .int (nI i))], [.int (nI (by2 f (hA + 6))), .ref m0], M1)) rfl rfl rfl ?_
          refine pr_put (j := 61) rfl hR1 rfl (fun M1 I2 hR3 hi4 hI5 => ?_)
          have hi6 := (hI5 54 (by decide)).trans hl54
          have hi7 := (hI5 11 (by decide)).trans hl11
          have hi8 := (hI5 51 (by decide)).trans hl51
          have hi9 := (hI5 52 (by decide)).trans hl52
          have hi10 := (hI5 53 (by decide)).trans hl53
          have hi11 := (hI5 58 (by decide)).trans hl58
          have hF_12 := hF1.mono (pIx hI5 (by decide)) (fun _ _ => rfl)
          have hY_13 := hY1.mono (pIx hI5 (by decide)) (fun _ _ => rfl)
          have hP_14 := hP1.mono (pIx hI5 (by decide)) (fun _ _ => rfl)
          have hEI15 := hEI1.put hI5 (by decide)
          show pl _ _ _ (355, [(0, .ref m0), (4, .int (nI (by2 f (hA + 6)))), (5, .int (nI i))], [], M1) _
          refine ps_st (S' := (356, [(0, .ref m0), (4, .int (nI (by2 f (hA + 6)))), (5, .int (nI i))], [.int 1], M1)) rfl rfl rfl ?_
          exact ps_ret rfl rfl (Or.inl ⟨I2, R1, by
              unfold ccS
              rw [hh]
              dsimp only
              rw [← hs, show by2 f (hA + 6) - i = 0 by omega]
              rfl, rfl, hR3, hEI15, hER1, hi11⟩)
        · have c_246 : ¬ ((nI (by2 f (hA + 6))) ≤ (nI i)) := of_decide_eq_false c_246
          have n_246 : ¬ (by2 f (hA + 6) ≤ i) := fun h9 => c_246 ((le_nI (p := by2 f (hA + 6)) (n := i) (Nat.lt_trans (by2_lt _ _) (by decide)) (by omega)).mpr h9)
          refine ps_st (S' := (250, [(0, .ref m0), (4, .int (nI (by2 f (hA + 6)))), (5, .int (nI i))], [.ref m0], M1)) rfl rfl rfl ?_
          refine pr_int (j := 54) (S' := (253, [(0, .ref m0), (4, .int (nI (by2 f (hA + 6)))), (5, .int (nI i))], [.int (nI hA)], M1)) rfl hR1 rfl hl54 rfl ?_
          refine ps_st (S' := (255, [(0, .ref m0), (4, .int (nI (by2 f (hA + 6)))), (5, .int (nI i))], [.int 8, .int (nI hA)], M1)) rfl rfl rfl ?_
          refine ps_st (S' := (256, [(0, .ref m0), (4, .int (nI (by2 f (hA + 6)))), (5, .int (nI i))], [.int ((nI hA) + 8)], M1)) rfl rfl rfl ?_
          rw [nI_add1 (p := hA) (k := 8) (x := 8) rfl (by omega)]
          show pl _ _ _ (_, [(0, .ref m0), (4, .int (nI (by2 f (hA + 6)))), (5, .int (nI i))], [.int (nI (hA + 8))], M1) _
          refine ps_st (S' := (257, [(0, .ref m0), (4, .int (nI (by2 f (hA + 6)))), (5, .int (nI i))], [.int 2, .int (nI (hA + 8))], M1)) rfl rfl rfl ?_
          refine ps_st (S' := (259, [(0, .ref m0), (4, .int (nI (by2 f (hA + 6)))), (5, .int (nI i))], [.int (nI i), .int 2, .int (nI (hA + 8))], M1)) rfl rfl rfl ?_
          refine ps_st (S' := (260, [(0, .ref m0), (4, .int (nI (by2 f (hA + 6)))), (5, .int (nI i))], [.int (2 * (nI i)), .int (nI (hA + 8))], M1)) rfl rfl rfl ?_
          rw [nI_mul1 (p := 2) (k := i) (x := 2) (y := (nI i)) rfl rfl (by omega)]
          show pl _ _ _ (_, [(0, .ref m0), (4, .int (nI (by2 f (hA + 6)))), (5, .int (nI i))], [.int (nI (2 * i)), .int (nI (hA + 8))], M1) _
          refine ps_st (S' := (261, [(0, .ref m0), (4, .int (nI (by2 f (hA + 6)))), (5, .int (nI i))], [.int ((nI (hA + 8)) + (nI (2 * i)))], M1)) rfl rfl rfl ?_
          rw [nI_add1 (p := hA + 8) (k := 2 * i) (x := (nI (2 * i))) rfl (by omega)]
          show pl _ _ _ (_, [(0, .ref m0), (4, .int (nI (by2 f (hA + 6)))), (5, .int (nI i))], [.int (nI (hA + 8 + 2 * i))], M1) _
          refine ps_st (S' := (263, [(6, .int (nI (hA + 8 + 2 * i))), (0, .ref m0), (4, .int (nI (by2 f (hA + 6)))), (5, .int (nI i))], [], M1)) rfl rfl rfl ?_
          refine ps_st (S' := (264, [(6, .int (nI (hA + 8 + 2 * i))), (0, .ref m0), (4, .int (nI (by2 f (hA + 6)))), (5, .int (nI i))], [.ref m0], M1)) rfl rfl rfl ?_
          refine ps_st (S' := (265, [(6, .int (nI (hA + 8 + 2 * i))), (0, .ref m0), (4, .int (nI (by2 f (hA + 6)))), (5, .int (nI i))], [.ref m0, .ref m0], M1)) rfl rfl rfl ?_
          refine ps_st (S' := (267, [(6, .int (nI (hA + 8 + 2 * i))), (0, .ref m0), (4, .int (nI (by2 f (hA + 6)))), (5, .int (nI i))], [.int (nI (hA + 8 + 2 * i)), .ref m0, .ref m0], M1)) rfl rfl rfl ?_
          refine pl_call (a := [.ref m0, .int (nI (hA + 8 + 2 * i))]) (rest := [.ref m0]) rfl rfl rfl (rd_u2 (n := n) (f := f) (p := (hA + 8 + 2 * i)) hR1 hF1 (by omega)) (fun v16 M17 q18 => ?_)
          obtain ⟨rfl, rfl⟩ := q18
          show pl _ _ _ (270, [(6, .int (nI (hA + 8 + 2 * i))), (0, .ref m0), (4, .int (nI (by2 f (hA + 6)))), (5, .int (nI i))], [.int (nI (by2 f (hA + 8 + 2 * i))), .ref m0], M1) _
          have hu_267 := by2_lt f (hA + 8 + 2 * i)
          refine pl_call (a := [.ref m0, .int (nI (by2 f (hA + 8 + 2 * i)))]) (rest := []) rfl rfl rfl (rd_plainClass (n := n) (f := f) (tx := tx) (cN := cN) (A := A) (N := N) (mj := mj) (E := E) (k := (by2 f (hA + 8 + 2 * i))) hR1 hl51 hl52 hl53 hF1 hY1 hP1 (hEP) (hN) (hmj) (by2_lt _ _) (hCP)) (fun v19 M20 q21 => ?_)
          obtain ⟨rfl, rfl⟩ := q21
          show pl _ _ _ (273, [(6, .int (nI (hA + 8 + 2 * i))), (0, .ref m0), (4, .int (nI (by2 f (hA + 6)))), (5, .int (nI i))], [.int (nI (plnN f n E (by2 f (hA + 8 + 2 * i))))], M1) _
          refine ps_if (S1 := (285, [(6, .int (nI (hA + 8 + 2 * i))), (0, .ref m0), (4, .int (nI (by2 f (hA + 6)))), (5, .int (nI i))], [], M1)) (S2 := (276, [(6, .int (nI (hA + 8 + 2 * i))), (0, .ref m0), (4, .int (nI (by2 f (hA + 6)))), (5, .int (nI i))], [], M1)) rfl rfl rfl (fun c_273 => ?_) (fun c_273 => ?_)
          · have c_273 : ¬ (nI (plnN f n E (by2 f (hA + 8 + 2 * i)))) = 0 := of_decide_eq_true c_273
            have n_273 : ¬ (plnN f n E (by2 f (hA + 8 + 2 * i)) = 0) := fun h9 => c_273 ((eq_nI (p := plnN f n E (by2 f (hA + 8 + 2 * i))) (n := 0) (Nat.lt_trans (le1_pln _ _ _ _) (by decide)) (by decide)).mpr h9)
            refine ps_st (S' := (286, [(6, .int (nI (hA + 8 + 2 * i))), (0, .ref m0), (4, .int (nI (by2 f (hA + 6)))), (5, .int (nI i))], [.int 0], M1)) rfl rfl rfl ?_
            refine ps_st (S' := (288, [(0, .ref m0), (4, .int (nI (by2 f (hA + 6)))), (5, .int (nI i)), (6, .int (nI (hA + 8 + 2 * i))), (7, .int 0)], [], M1)) rfl rfl rfl ?_
            exact ih.2 (i) (0) M1 I1 R1 hR1 hEI1 hER1 hl54 hl11 hl51 hl52 hl53 hl58 hF1 hY1 hP1 (hh) (by omega) (by omega) (hs) (by omega) (hq) (rfl)
          · have c_273 : ¬ (¬ (nI (plnN f n E (by2 f (hA + 8 + 2 * i)))) = 0) := of_decide_eq_false c_273
            have n_273 : plnN f n E (by2 f (hA + 8 + 2 * i)) = 0 := (eq_nI (p := plnN f n E (by2 f (hA + 8 + 2 * i))) (n := 0) (Nat.lt_trans (le1_pln _ _ _ _) (by decide)) (by decide)).mp (Decidable.not_not.mp c_273)
            refine ps_st (S' := (277, [(6, .int (nI (hA + 8 + 2 * i))), (0, .ref m0), (4, .int (nI (by2 f (hA + 6)))), (5, .int (nI i))], [.ref m0], M1)) rfl rfl rfl ?_
            refine ps_st (S' := (279, [(6, .int (nI (hA + 8 + 2 * i))), (0, .ref m0), (4, .int (nI (by2 f (hA + 6)))), (5, .int (nI i))], [.int 18, .ref m0], M1)) rfl rfl rfl ?_
            refine ps_st (S' := (281, [(6, .int (nI (hA + 8 + 2 * i))), (0, .ref m0), (4, .int (nI (by2 f (hA + 6)))), (5, .int (nI i))], [.int (nI (hA + 8 + 2 * i)), .int 18, .ref m0], M1)) rfl rfl rfl ?_
            refine pl_call (a := [.ref m0, .int 18, .int (nI (hA + 8 + 2 * i))]) (rest := []) rfl rfl rfl (rd_wrong (x1 := 18) (x2 := (nI (hA + 8 + 2 * i))) hR1) (fun v22 M23 q24 => ?_)
            obtain ⟨I25, R26, rfl, hR27, hI28, hX29, hi30, hi31⟩ := q24
            have hi32 := (hI28 54 (by decide)).trans hl54
            have hi33 := (hI28 11 (by decide)).trans hl11
            have hi34 := (hI28 51 (by decide)).trans hl51
            have hi35 := (hI28 52 (by decide)).trans hl52
            have hi36 := (hI28 53 (by decide)).trans hl53
            have hi37 := (hI28 58 (by decide)).trans hl58
            have hF_38 := hF1.mono (cIx hI28 (by decide)) (cRx hX29 (by decide))
            have hY_39 := hY1.mono (cIx hI28 (by decide)) (cRx hX29 (by decide))
            have hP_40 := hP1.mono (cIx hI28 (by decide)) (cRx hX29 (by decide))
            have hEI41 := hEI1.tr hI28 (by decide)
            have hER42 := hER1.tr hX29 (by decide)
            show pl _ _ _ (284, [(6, .int (nI (hA + 8 + 2 * i))), (0, .ref m0), (4, .int (nI (by2 f (hA + 6)))), (5, .int (nI i))], [.int 0], M23) _
            exact ps_ret rfl rfl (Or.inr ⟨(18, hA + 8 + 2 * i), I25, R26, by
                unfold ccS
                rw [hh]
                dsimp only
                rw [← hs, ifS_st (i := i) (by omega), if_pos (by omega)], rfl, hR27, hEI41, hER42, hi30, hi31⟩)
      · skip
        intro i j M1 I1 R1 hR1 hEI1 hER1 hl54 hl11 hl51 hl52 hl53 hl58 hF1 hY1 hP1 hh hi hj hs hp hq hd
        have hn := hF1.1
        have hu9 := by2_lt f (hA + 6)
        have htl := hY1.1.2.2.1
        refine ps_st1 (S' := (290, [(0, .ref m0), (4, .int (nI (by2 f (hA + 6)))), (5, .int (nI i)), (6, .int (nI (hA + 8 + 2 * i))), (7, .int (nI j))], [.int (nI j)], M1)) rfl rfl rfl ?_
        refine ps_st (S' := (292, [(0, .ref m0), (4, .int (nI (by2 f (hA + 6)))), (5, .int (nI i)), (6, .int (nI (hA + 8 + 2 * i))), (7, .int (nI j))], [.int (nI i), .int (nI j)], M1)) rfl rfl rfl ?_
        refine ps_if2 (S1 := (343, [(0, .ref m0), (4, .int (nI (by2 f (hA + 6)))), (5, .int (nI i)), (6, .int (nI (hA + 8 + 2 * i))), (7, .int (nI j))], [], M1)) (S2 := (295, [(0, .ref m0), (4, .int (nI (by2 f (hA + 6)))), (5, .int (nI i)), (6, .int (nI (hA + 8 + 2 * i))), (7, .int (nI j))], [], M1)) rfl rfl rfl (fun c_292 => ?_) (fun c_292 => ?_)
        · have c_292 : (nI i) ≤ (nI j) := of_decide_eq_true c_292
          have n_292 : i ≤ j := (le_nI (p := i) (n := j) (by omega) (by omega)).mp c_292
          refine ps_st (S' := (346, [(5, .int ((nI i) + 1)), (0, .ref m0), (4, .int (nI (by2 f (hA + 6)))), (6, .int (nI (hA + 8 + 2 * i))), (7, .int (nI j))], [], M1)) rfl rfl rfl ?_
          rw [nI_add1 (p := i) (k := 1) (x := 1) rfl (by omega)]
          show pl _ _ _ (_, [(5, .int (nI (i + 1))), (0, .ref m0), (4, .int (nI (by2 f (hA + 6)))), (6, .int (nI (hA + 8 + 2 * i))), (7, .int (nI j))], [], M1) _
          refine ps_st (S' := (242, [(0, .ref m0), (4, .int (nI (by2 f (hA + 6)))), (5, .int (nI (i + 1)))], [], M1)) rfl rfl rfl ?_
          exact ih.1 (i + 1) M1 I1 R1 hR1 hEI1 hER1 hl54 hl11 hl51 hl52 hl53 hl58 hF1 hY1 hP1 (hh) (by omega) (by
              rw [← hs, ifS_st (i := i) (by omega), if_neg (by omega), if_neg (by rw [← hd, show i - j = 0 by omega]; exact fun h => h rfl)]) (by
              intro j9 h9
              by_cases e9 : j9 = i
              · rw [e9]; exact hp
              · exact hq j9 (by omega))
        · have c_292 : ¬ ((nI i) ≤ (nI j)) := of_decide_eq_false c_292
          have n_292 : ¬ (i ≤ j) := fun h9 => c_292 ((le_nI (p := i) (n := j) (by omega) (by omega)).mpr h9)
          have hplj := pln_in (hq j (by omega))
          have hcpj := hCP _ hplj.1
          have hpli := pln_in hp
          have hcpi := hCP _ hpli.1
          refine ps_st (S' := (296, [(0, .ref m0), (4, .int (nI (by2 f (hA + 6)))), (5, .int (nI i)), (6, .int (nI (hA + 8 + 2 * i))), (7, .int (nI j))], [.ref m0], M1)) rfl rfl rfl ?_
          refine ps_st (S' := (297, [(0, .ref m0), (4, .int (nI (by2 f (hA + 6)))), (5, .int (nI i)), (6, .int (nI (hA + 8 + 2 * i))), (7, .int (nI j))], [.ref m0, .ref m0], M1)) rfl rfl rfl ?_
          refine ps_st (S' := (298, [(0, .ref m0), (4, .int (nI (by2 f (hA + 6)))), (5, .int (nI i)), (6, .int (nI (hA + 8 + 2 * i))), (7, .int (nI j))], [.ref m0, .ref m0, .ref m0], M1)) rfl rfl rfl ?_
          refine pr_int (j := 54) (S' := (301, [(0, .ref m0), (4, .int (nI (by2 f (hA + 6)))), (5, .int (nI i)), (6, .int (nI (hA + 8 + 2 * i))), (7, .int (nI j))], [.int (nI hA), .ref m0, .ref m0], M1)) rfl hR1 rfl hl54 rfl ?_
          refine ps_st (S' := (303, [(0, .ref m0), (4, .int (nI (by2 f (hA + 6)))), (5, .int (nI i)), (6, .int (nI (hA + 8 + 2 * i))), (7, .int (nI j))], [.int 8, .int (nI hA), .ref m0, .ref m0], M1)) rfl rfl rfl ?_
          refine ps_st (S' := (304, [(0, .ref m0), (4, .int (nI (by2 f (hA + 6)))), (5, .int (nI i)), (6, .int (nI (hA + 8 + 2 * i))), (7, .int (nI j))], [.int ((nI hA) + 8), .ref m0, .ref m0], M1)) rfl rfl rfl ?_
          rw [nI_add1 (p := hA) (k := 8) (x := 8) rfl (by omega)]
          show pl _ _ _ (_, [(0, .ref m0), (4, .int (nI (by2 f (hA + 6)))), (5, .int (nI i)), (6, .int (nI (hA + 8 + 2 * i))), (7, .int (nI j))], [.int (nI (hA + 8)), .ref m0, .ref m0], M1) _
          refine ps_st (S' := (305, [(0, .ref m0), (4, .int (nI (by2 f (hA + 6)))), (5, .int (nI i)), (6, .int (nI (hA + 8 + 2 * i))), (7, .int (nI j))], [.int 2, .int (nI (hA + 8)), .ref m0, .ref m0], M1)) rfl rfl rfl ?_
          refine ps_st (S' := (307, [(0, .ref m0), (4, .int (nI (by2 f (hA + 6)))), (5, .int (nI i)), (6, .int (nI (hA + 8 + 2 * i))), (7, .int (nI j))], [.int (nI j), .int 2, .int (nI (hA + 8)), .ref m0, .ref m0], M1)) rfl rfl rfl ?_
          refine ps_st (S' := (308, [(0, .ref m0), (4, .int (nI (by2 f (hA + 6)))), (5, .int (nI i)), (6, .int (nI (hA + 8 + 2 * i))), (7, .int (nI j))], [.int (2 * (nI j)), .int (nI (hA + 8)), .ref m0, .ref m0], M1)) rfl rfl rfl ?_
          rw [nI_mul1 (p := 2) (k := j) (x := 2) (y := (nI j)) rfl rfl (by omega)]
          show pl _ _ _ (_, [(0, .ref m0), (4, .int (nI (by2 f (hA + 6)))), (5, .int (nI i)), (6, .int (nI (hA + 8 + 2 * i))), (7, .int (nI j))], [.int (nI (2 * j)), .int (nI (hA + 8)), .ref m0, .ref m0], M1) _
          refine ps_st (S' := (309, [(0, .ref m0), (4, .int (nI (by2 f (hA + 6)))), (5, .int (nI i)), (6, .int (nI (hA + 8 + 2 * i))), (7, .int (nI j))], [.int ((nI (hA + 8)) + (nI (2 * j))), .ref m0, .ref m0], M1)) rfl rfl rfl ?_
          rw [nI_add1 (p := hA + 8) (k := 2 * j) (x := (nI (2 * j))) rfl (by omega)]
          show pl _ _ _ (_, [(0, .ref m0), (4, .int (nI (by2 f (hA + 6)))), (5, .int (nI i)), (6, .int (nI (hA + 8 + 2 * i))), (7, .int (nI j))], [.int (nI (hA + 8 + 2 * j)), .ref m0, .ref m0], M1) _
          refine pl_call (a := [.ref m0, .int (nI (hA + 8 + 2 * j))]) (rest := [.ref m0]) rfl rfl rfl (rd_u2 (n := n) (f := f) (p := (hA + 8 + 2 * j)) hR1 hF1 (by omega)) (fun v43 M44 q45 => ?_)
          obtain ⟨rfl, rfl⟩ := q45
          show pl _ _ _ (312, [(0, .ref m0), (4, .int (nI (by2 f (hA + 6)))), (5, .int (nI i)), (6, .int (nI (hA + 8 + 2 * i))), (7, .int (nI j))], [.int (nI (by2 f (hA + 8 + 2 * j))), .ref m0], M1) _
          have hu_309 := by2_lt f (hA + 8 + 2 * j)
          refine pl_call (a := [.ref m0, .int (nI (by2 f (hA + 8 + 2 * j)))]) (rest := []) rfl rfl rfl (rd_className (n := n) (f := f) (tx := tx) (cN := cN) (A := A) (N := N) (mj := mj) (E := E) (k := (by2 f (hA + 8 + 2 * j))) hR1 hl51 hl52 hl53 hF1 hY1 hP1 (hEP) (hN) (hmj) (by omega)) (fun v46 M47 q48 => ?_)
          obtain ⟨s49, q312_s, rfl, rfl⟩ := q48
          show pl _ _ _ (315, [(0, .ref m0), (4, .int (nI (by2 f (hA + 6)))), (5, .int (nI i)), (6, .int (nI (hA + 8 + 2 * i))), (7, .int (nI j))], [.int (nI s49)], M1) _
          have hsl_312 := q312_s.1
          have htl_312 := hY1.1.2.2.1
          refine ps_st (S' := (316, [(0, .ref m0), (4, .int (nI (by2 f (hA + 6)))), (5, .int (nI i)), (6, .int (nI (hA + 8 + 2 * i))), (7, .int (nI j))], [.ref m0, .int (nI s49)], M1)) rfl rfl rfl ?_
          refine ps_st (S' := (317, [(0, .ref m0), (4, .int (nI (by2 f (hA + 6)))), (5, .int (nI i)), (6, .int (nI (hA + 8 + 2 * i))), (7, .int (nI j))], [.ref m0, .ref m0, .int (nI s49)], M1)) rfl rfl rfl ?_
          refine ps_st (S' := (319, [(0, .ref m0), (4, .int (nI (by2 f (hA + 6)))), (5, .int (nI i)), (6, .int (nI (hA + 8 + 2 * i))), (7, .int (nI j))], [.int (nI (hA + 8 + 2 * i)), .ref m0, .ref m0, .int (nI s49)], M1)) rfl rfl rfl ?_
          refine pl_call (a := [.ref m0, .int (nI (hA + 8 + 2 * i))]) (rest := [.ref m0, .int (nI s49)]) rfl rfl rfl (rd_u2 (n := n) (f := f) (p := (hA + 8 + 2 * i)) hR1 hF1 (by omega)) (fun v50 M51 q52 => ?_)
          obtain ⟨rfl, rfl⟩ := q52
          show pl _ _ _ (322, [(0, .ref m0), (4, .int (nI (by2 f (hA + 6)))), (5, .int (nI i)), (6, .int (nI (hA + 8 + 2 * i))), (7, .int (nI j))], [.int (nI (by2 f (hA + 8 + 2 * i))), .ref m0, .int (nI s49)], M1) _
          have hu_319 := by2_lt f (hA + 8 + 2 * i)
          refine pl_call (a := [.ref m0, .int (nI (by2 f (hA + 8 + 2 * i)))]) (rest := [.int (nI s49)]) rfl rfl rfl (rd_className (n := n) (f := f) (tx := tx) (cN := cN) (A := A) (N := N) (mj := mj) (E := E) (k := (by2 f (hA + 8 + 2 * i))) hR1 hl51 hl52 hl53 hF1 hY1 hP1 (hEP) (hN) (hmj) (by omega)) (fun v53 M54 q55 => ?_)
          obtain ⟨s56, q322_s, rfl, rfl⟩ := q55
          show pl _ _ _ (325, [(0, .ref m0), (4, .int (nI (by2 f (hA + 6)))), (5, .int (nI i)), (6, .int (nI (hA + 8 + 2 * i))), (7, .int (nI j))], [.int (nI s56), .int (nI s49)], M1) _
          have hsl_322 := q322_s.1
          have htl_322 := hY1.1.2.2.1
          have hsm := sm_sym (k := fi f E (by2 f (hA + 8 + 2 * j))) (m := fi f E (by2 f (hA + 8 + 2 * i))) hY1 q312_s q322_s (by omega) (by omega)
          refine ps_if2 (S1 := (337, [(0, .ref m0), (4, .int (nI (by2 f (hA + 6)))), (5, .int (nI i)), (6, .int (nI (hA + 8 + 2 * i))), (7, .int (nI j))], [], M1)) (S2 := (328, [(0, .ref m0), (4, .int (nI (by2 f (hA + 6)))), (5, .int (nI i)), (6, .int (nI (hA + 8 + 2 * i))), (7, .int (nI j))], [], M1)) rfl rfl rfl (fun c_325 => ?_) (fun c_325 => ?_)
          · have c_325 : ¬ (nI s49) = (nI s56) := of_decide_eq_true c_325
            have n_325 : ¬ (s49 = s56) := fun h9 => c_325 ((eq_nI (p := s49) (n := s56) (by omega) (by omega)).mpr h9)
            refine ps_st (S' := (340, [(7, .int ((nI j) + 1)), (0, .ref m0), (4, .int (nI (by2 f (hA + 6)))), (5, .int (nI i)), (6, .int (nI (hA + 8 + 2 * i)))], [], M1)) rfl rfl rfl ?_
            rw [nI_add1 (p := j) (k := 1) (x := 1) rfl (by omega)]
            show pl _ _ _ (_, [(7, .int (nI (j + 1))), (0, .ref m0), (4, .int (nI (by2 f (hA + 6)))), (5, .int (nI i)), (6, .int (nI (hA + 8 + 2 * i)))], [], M1) _
            refine ps_st (S' := (288, [(0, .ref m0), (4, .int (nI (by2 f (hA + 6)))), (5, .int (nI i)), (6, .int (nI (hA + 8 + 2 * i))), (7, .int (nI (j + 1)))], [], M1)) rfl rfl rfl ?_
            exact ih.2 (i) (j + 1) M1 I1 R1 hR1 hEI1 hER1 hl54 hl11 hl51 hl52 hl53 hl58 hF1 hY1 hP1 (hh) (hi) (by omega) (hs) (hp) (hq) (by
                rw [← hd, dupN_st (j := j) (by omega), if_pos (by omega)])
          · have c_325 : ¬ (¬ (nI s49) = (nI s56)) := of_decide_eq_false c_325
            have n_325 : s49 = s56 := (eq_nI (p := s49) (n := s56) (by omega) (by omega)).mp (Decidable.not_not.mp c_325)
            refine ps_st (S' := (329, [(0, .ref m0), (4, .int (nI (by2 f (hA + 6)))), (5, .int (nI i)), (6, .int (nI (hA + 8 + 2 * i))), (7, .int (nI j))], [.ref m0], M1)) rfl rfl rfl ?_
            refine ps_st (S' := (331, [(0, .ref m0), (4, .int (nI (by2 f (hA + 6)))), (5, .int (nI i)), (6, .int (nI (hA + 8 + 2 * i))), (7, .int (nI j))], [.int 18, .ref m0], M1)) rfl rfl rfl ?_
            refine ps_st (S' := (333, [(0, .ref m0), (4, .int (nI (by2 f (hA + 6)))), (5, .int (nI i)), (6, .int (nI (hA + 8 + 2 * i))), (7, .int (nI j))], [.int (nI (hA + 8 + 2 * i)), .int 18, .ref m0], M1)) rfl rfl rfl ?_
            refine pl_call (a := [.ref m0, .int 18, .int (nI (hA + 8 + 2 * i))]) (rest := []) rfl rfl rfl (rd_wrong (x1 := 18) (x2 := (nI (hA + 8 + 2 * i))) hR1) (fun v57 M58 q59 => ?_)
            obtain ⟨I60, R61, rfl, hR62, hI63, hX64, hi65, hi66⟩ := q59
            have hi67 := (hI63 54 (by decide)).trans hl54
            have hi68 := (hI63 11 (by decide)).trans hl11
            have hi69 := (hI63 51 (by decide)).trans hl51
            have hi70 := (hI63 52 (by decide)).trans hl52
            have hi71 := (hI63 53 (by decide)).trans hl53
            have hi72 := (hI63 58 (by decide)).trans hl58
            have hF_73 := hF1.mono (cIx hI63 (by decide)) (cRx hX64 (by decide))
            have hY_74 := hY1.mono (cIx hI63 (by decide)) (cRx hX64 (by decide))
            have hP_75 := hP1.mono (cIx hI63 (by decide)) (cRx hX64 (by decide))
            have hEI76 := hEI1.tr hI63 (by decide)
            have hER77 := hER1.tr hX64 (by decide)
            show pl _ _ _ (336, [(0, .ref m0), (4, .int (nI (by2 f (hA + 6)))), (5, .int (nI i)), (6, .int (nI (hA + 8 + 2 * i))), (7, .int (nI j))], [.int 0], M58) _
            exact ps_ret rfl rfl (Or.inr ⟨(18, hA + 8 + 2 * i), I60, R61, by
                unfold ccS
                rw [hh]
                dsimp only
                rw [← hs, ifS_st (i := i) (by omega), if_neg (by omega), if_pos (by rw [← hd, dupN_st (j := j) (by omega), if_neg (by omega)]; decide)], rfl, hR62, hEI76, hER77, hi65, hi66⟩)
  refine ps_st (S' := (1, [(0, .ref m0)], [.ref m0], M)) rfl rfl rfl ?_
  refine ps_st (S' := (2, [(0, .ref m0)], [.ref m0, .ref m0], M)) rfl rfl rfl ?_
  refine pr_int (j := 54) (S' := (5, [(0, .ref m0)], [.int (nI hA), .ref m0], M)) rfl hR rfl hi54 rfl ?_
  refine pl_call (a := [.ref m0, .int (nI hA)]) (rest := []) rfl rfl rfl (rd_u2 (n := n) (f := f) (p := hA) hR hF (by omega)) (fun v78 M79 q80 => ?_)
  obtain ⟨rfl, rfl⟩ := q80
  show pl _ _ _ (8, [(0, .ref m0)], [.int (nI (by2 f hA))], M) _
  have hu_5 := by2_lt f hA
  refine ps_st (S' := (9, [(1, .int (nI (by2 f hA))), (0, .ref m0)], [], M)) rfl rfl rfl ?_
  refine ps_st (S' := (10, [(1, .int (nI (by2 f hA))), (0, .ref m0)], [.ref m0], M)) rfl rfl rfl ?_
  refine ps_st (S' := (11, [(1, .int (nI (by2 f hA))), (0, .ref m0)], [.int (nI (by2 f hA)), .ref m0], M)) rfl rfl rfl ?_
  refine pr_put (j := 58) rfl hR rfl (fun M81 I82 hR83 hi84 hI85 => ?_)
  have hi86 := (hI85 54 (by decide)).trans hi54
  have hi87 := (hI85 11 (by decide)).trans hi11
  have hi88 := (hI85 51 (by decide)).trans hi51
  have hi89 := (hI85 52 (by decide)).trans hi52
  have hi90 := (hI85 53 (by decide)).trans hi53
  have hF_91 := hF.mono (pIx hI85 (by decide)) (fun _ _ => rfl)
  have hY_92 := hY.mono (pIx hI85 (by decide)) (fun _ _ => rfl)
  have hP_93 := hP.mono (pIx hI85 (by decide)) (fun _ _ => rfl)
  have hEI94 := hEI.put hI85 (by decide)
  show pl _ _ _ (14, [(1, .int (nI (by2 f hA))), (0, .ref m0)], [], M81) _
  refine ps_st (S' := (15, [(1, .int (nI (by2 f hA))), (0, .ref m0)], [.int (nI (by2 f hA))], M81)) rfl rfl rfl ?_
  refine ps_st (S' := (18, [(1, .int (nI (by2 f hA))), (0, .ref m0)], [.int 512, .int (nI (by2 f hA))], M81)) rfl rfl rfl ?_
  refine ps_st (S' := (19, [(1, .int (nI (by2 f hA))), (0, .ref m0)], [.int ((nI (by2 f hA)) &&& 512)], M81)) rfl rfl rfl ?_
  rw [nI_an (p := by2 f hA) (k := 512) (x := 512) rfl]
  show pl _ _ _ (_, [(1, .int (nI (by2 f hA))), (0, .ref m0)], [.int (nI (aN (by2 f hA) 512))], M81) _
  refine ps_if (S1 := (26, [(1, .int (nI (by2 f hA))), (0, .ref m0)], [], M81)) (S2 := (22, [(1, .int (nI (by2 f hA))), (0, .ref m0)], [], M81)) rfl rfl rfl (fun c_19 => ?_) (fun c_19 => ?_)
  · have c_19 : (nI (aN (by2 f hA) 512)) = 0 := of_decide_eq_true c_19
    have n_19 : aN (by2 f hA) 512 = 0 := (eq_nI (p := aN (by2 f hA) 512) (n := 0) (Nat.lt_of_le_of_lt (an_le _ _) (by decide)) (by decide)).mp c_19
    refine ps_st (S' := (27, [(0, .ref m0), (1, .int (nI (by2 f hA)))], [.int 0], M81)) rfl rfl rfl ?_
    refine ps_st (S' := (28, [(2, .int 0), (0, .ref m0), (1, .int (nI (by2 f hA)))], [], M81)) rfl rfl rfl ?_
    refine ps_st (S' := (29, [(2, .int 0), (0, .ref m0), (1, .int (nI (by2 f hA)))], [.int (nI (by2 f hA))], M81)) rfl rfl rfl ?_
    refine ps_st (S' := (32, [(2, .int 0), (0, .ref m0), (1, .int (nI (by2 f hA)))], [.int 32768, .int (nI (by2 f hA))], M81)) rfl rfl rfl ?_
    refine ps_st (S' := (33, [(2, .int 0), (0, .ref m0), (1, .int (nI (by2 f hA)))], [.int ((nI (by2 f hA)) &&& 32768)], M81)) rfl rfl rfl ?_
    rw [nI_an (p := by2 f hA) (k := 32768) (x := 32768) rfl]
    show pl _ _ _ (_, [(2, .int 0), (0, .ref m0), (1, .int (nI (by2 f hA)))], [.int (nI (aN (by2 f hA) 32768))], M81) _
    refine ps_if (S1 := (82, [(0, .ref m0), (1, .int (nI (by2 f hA))), (2, .int 0)], [], M81)) (S2 := (36, [(2, .int 0), (0, .ref m0), (1, .int (nI (by2 f hA)))], [], M81)) rfl rfl rfl (fun c_33 => ?_) (fun c_33 => ?_)
    · have c_33 : ¬ (nI (aN (by2 f hA) 32768)) = 0 := of_decide_eq_true c_33
      have n_33 : ¬ (aN (by2 f hA) 32768 = 0) := fun h9 => c_33 ((eq_nI (p := aN (by2 f hA) 32768) (n := 0) (Nat.lt_of_le_of_lt (an_le _ _) (by decide)) (by decide)).mpr h9)
      refine ps_st (S' := (83, [(0, .ref m0), (1, .int (nI (by2 f hA))), (2, .int 0)], [.int 0], M81)) rfl rfl rfl ?_
      refine ps_if (S1 := (110, [(0, .ref m0)], [], M81)) (S2 := (86, [(0, .ref m0), (1, .int (nI (by2 f hA))), (2, .int 0)], [], M81)) rfl rfl rfl (fun c_83 => ?_) (fun c_83 => ?_)
      rotate_left
      · exact absurd (by decide) (of_decide_eq_false c_83)
      refine ps_st (S' := (111, [(0, .ref m0)], [.ref m0], M81)) rfl rfl rfl ?_
      refine ps_st (S' := (113, [(0, .ref m0)], [.int 15, .ref m0], M81)) rfl rfl rfl ?_
      refine ps_st (S' := (114, [(0, .ref m0)], [.ref m0, .int 15, .ref m0], M81)) rfl rfl rfl ?_
      refine pr_int (j := 54) (S' := (117, [(0, .ref m0)], [.int (nI hA), .int 15, .ref m0], M81)) rfl hR83 rfl hi86 rfl ?_
      refine pl_call (a := [.ref m0, .int 15, .int (nI hA)]) (rest := []) rfl rfl rfl (rd_wrong (x1 := 15) (x2 := (nI hA)) hR83) (fun v95 M96 q97 => ?_)
      obtain ⟨I98, R99, rfl, hR100, hI101, hX102, hi103, hi104⟩ := q97
      have hi105 := (hI101 54 (by decide)).trans hi86
      have hi106 := (hI101 11 (by decide)).trans hi87
      have hi107 := (hI101 51 (by decide)).trans hi88
      have hi108 := (hI101 52 (by decide)).trans hi89
      have hi109 := (hI101 53 (by decide)).trans hi90
      have hi110 := (hI101 58 (by decide)).trans hi84
      have hF_111 := hF_91.mono (cIx hI101 (by decide)) (cRx hX102 (by decide))
      have hY_112 := hY_92.mono (cIx hI101 (by decide)) (cRx hX102 (by decide))
      have hP_113 := hP_93.mono (cIx hI101 (by decide)) (cRx hX102 (by decide))
      have hEI114 := hEI94.tr hI101 (by decide)
      have hER115 := hER.tr hX102 (by decide)
      show pl _ _ _ (120, [(0, .ref m0)], [.int 0], M96) _
      exact ps_ret rfl rfl (Or.inr ⟨(15, hA), I98, R99, by
          have ec := cfl_0 (by2 f hA)
          have eh := has_0 (by2 f hA) 512
          unfold ccS
          rw [show hdS f n E hA = some (15, hA) by unfold hdS; first | ((repeat first | rw [if_pos (by omega)] | rw [if_neg (by omega)]) <;> first | rfl | omega) | ((repeat' split) <;> first | rfl | (exfalso; omega) | omega)], rfl, hR100, hEI114, hER115, hi103, hi104⟩)
    · have c_33 : ¬ (¬ (nI (aN (by2 f hA) 32768)) = 0) := of_decide_eq_false c_33
      have n_33 : aN (by2 f hA) 32768 = 0 := (eq_nI (p := aN (by2 f hA) 32768) (n := 0) (Nat.lt_of_le_of_lt (an_le _ _) (by decide)) (by decide)).mp (Decidable.not_not.mp c_33)
      refine ps_st (S' := (37, [(2, .int 0), (0, .ref m0), (1, .int (nI (by2 f hA)))], [.int 0], M81)) rfl rfl rfl ?_
      refine ps_if (S1 := (59, [(2, .int 0), (0, .ref m0), (1, .int (nI (by2 f hA)))], [], M81)) (S2 := (40, [(2, .int 0), (0, .ref m0), (1, .int (nI (by2 f hA)))], [], M81)) rfl rfl rfl (fun c_37 => ?_) (fun c_37 => ?_)
      rotate_left
      · exact absurd (by decide) (of_decide_eq_false c_37)
      refine ps_st (S' := (60, [(2, .int 0), (0, .ref m0), (1, .int (nI (by2 f hA)))], [.int (nI (by2 f hA))], M81)) rfl rfl rfl ?_
      refine ps_st (S' := (63, [(2, .int 0), (0, .ref m0), (1, .int (nI (by2 f hA)))], [.int 8192, .int (nI (by2 f hA))], M81)) rfl rfl rfl ?_
      refine ps_st (S' := (64, [(2, .int 0), (0, .ref m0), (1, .int (nI (by2 f hA)))], [.int ((nI (by2 f hA)) &&& 8192)], M81)) rfl rfl rfl ?_
      rw [nI_an (p := by2 f hA) (k := 8192) (x := 8192) rfl]
      show pl _ _ _ (_, [(2, .int 0), (0, .ref m0), (1, .int (nI (by2 f hA)))], [.int (nI (aN (by2 f hA) 8192))], M81) _
      refine ps_if (S1 := (82, [(0, .ref m0), (1, .int (nI (by2 f hA))), (2, .int 0)], [], M81)) (S2 := (67, [(2, .int 0), (0, .ref m0), (1, .int (nI (by2 f hA)))], [], M81)) rfl rfl rfl (fun c_64 => ?_) (fun c_64 => ?_)
      · have c_64 : ¬ (nI (aN (by2 f hA) 8192)) = 0 := of_decide_eq_true c_64
        have n_64 : ¬ (aN (by2 f hA) 8192 = 0) := fun h9 => c_64 ((eq_nI (p := aN (by2 f hA) 8192) (n := 0) (Nat.lt_of_le_of_lt (an_le _ _) (by decide)) (by decide)).mpr h9)
        refine ps_st (S' := (83, [(0, .ref m0), (1, .int (nI (by2 f hA))), (2, .int 0)], [.int 0], M81)) rfl rfl rfl ?_
        refine ps_if (S1 := (110, [(0, .ref m0)], [], M81)) (S2 := (86, [(0, .ref m0), (1, .int (nI (by2 f hA))), (2, .int 0)], [], M81)) rfl rfl rfl (fun c_83 => ?_) (fun c_83 => ?_)
        rotate_left
        · exact absurd (by decide) (of_decide_eq_false c_83)
        refine ps_st (S' := (111, [(0, .ref m0)], [.ref m0], M81)) rfl rfl rfl ?_
        refine ps_st (S' := (113, [(0, .ref m0)], [.int 15, .ref m0], M81)) rfl rfl rfl ?_
        refine ps_st (S' := (114, [(0, .ref m0)], [.ref m0, .int 15, .ref m0], M81)) rfl rfl rfl ?_
        refine pr_int (j := 54) (S' := (117, [(0, .ref m0)], [.int (nI hA), .int 15, .ref m0], M81)) rfl hR83 rfl hi86 rfl ?_
        refine pl_call (a := [.ref m0, .int 15, .int (nI hA)]) (rest := []) rfl rfl rfl (rd_wrong (x1 := 15) (x2 := (nI hA)) hR83) (fun v116 M117 q118 => ?_)
        obtain ⟨I119, R120, rfl, hR121, hI122, hX123, hi124, hi125⟩ := q118
        have hi126 := (hI122 54 (by decide)).trans hi86
        have hi127 := (hI122 11 (by decide)).trans hi87
        have hi128 := (hI122 51 (by decide)).trans hi88
        have hi129 := (hI122 52 (by decide)).trans hi89
        have hi130 := (hI122 53 (by decide)).trans hi90
        have hi131 := (hI122 58 (by decide)).trans hi84
        have hF_132 := hF_91.mono (cIx hI122 (by decide)) (cRx hX123 (by decide))
        have hY_133 := hY_92.mono (cIx hI122 (by decide)) (cRx hX123 (by decide))
        have hP_134 := hP_93.mono (cIx hI122 (by decide)) (cRx hX123 (by decide))
        have hEI135 := hEI94.tr hI122 (by decide)
        have hER136 := hER.tr hX123 (by decide)
        show pl _ _ _ (120, [(0, .ref m0)], [.int 0], M117) _
        exact ps_ret rfl rfl (Or.inr ⟨(15, hA), I119, R120, by
            have ec := cfl_0 (by2 f hA)
            have eh := has_0 (by2 f hA) 512
            unfold ccS
            rw [show hdS f n E hA = some (15, hA) by unfold hdS; first | ((repeat first | rw [if_pos (by omega)] | rw [if_neg (by omega)]) <;> first | rfl | omega) | ((repeat' split) <;> first | rfl | (exfalso; omega) | omega)], rfl, hR121, hEI135, hER136, hi124, hi125⟩)
      · have c_64 : ¬ (¬ (nI (aN (by2 f hA) 8192)) = 0) := of_decide_eq_false c_64
        have n_64 : aN (by2 f hA) 8192 = 0 := (eq_nI (p := aN (by2 f hA) 8192) (n := 0) (Nat.lt_of_le_of_lt (an_le _ _) (by decide)) (by decide)).mp (Decidable.not_not.mp c_64)
        refine ps_st (S' := (68, [(2, .int 0), (0, .ref m0), (1, .int (nI (by2 f hA)))], [.int (nI (by2 f hA))], M81)) rfl rfl rfl ?_
        refine ps_st (S' := (70, [(2, .int 0), (0, .ref m0), (1, .int (nI (by2 f hA)))], [.int 16, .int (nI (by2 f hA))], M81)) rfl rfl rfl ?_
        refine ps_st (S' := (71, [(2, .int 0), (0, .ref m0), (1, .int (nI (by2 f hA)))], [.int ((nI (by2 f hA)) &&& 16)], M81)) rfl rfl rfl ?_
        rw [nI_an (p := by2 f hA) (k := 16) (x := 16) rfl]
        show pl _ _ _ (_, [(2, .int 0), (0, .ref m0), (1, .int (nI (by2 f hA)))], [.int (nI (aN (by2 f hA) 16))], M81) _
        refine ps_if (S1 := (121, [(0, .ref m0), (2, .int 0)], [], M81)) (S2 := (74, [(2, .int 0), (0, .ref m0), (1, .int (nI (by2 f hA)))], [], M81)) rfl rfl rfl (fun c_71 => ?_) (fun c_71 => ?_)
        · have c_71 : (nI (aN (by2 f hA) 16)) = 0 := of_decide_eq_true c_71
          have n_71 : aN (by2 f hA) 16 = 0 := (eq_nI (p := aN (by2 f hA) 16) (n := 0) (Nat.lt_of_le_of_lt (an_le _ _) (by decide)) (by decide)).mp c_71
          refine ps_st (S' := (122, [(0, .ref m0), (2, .int 0)], [.ref m0], M81)) rfl rfl rfl ?_
          refine ps_st (S' := (123, [(0, .ref m0), (2, .int 0)], [.ref m0, .ref m0], M81)) rfl rfl rfl ?_
          refine ps_st (S' := (124, [(0, .ref m0), (2, .int 0)], [.ref m0, .ref m0, .ref m0], M81)) rfl rfl rfl ?_
          refine pr_int (j := 54) (S' := (127, [(0, .ref m0), (2, .int 0)], [.int (nI hA), .ref m0, .ref m0], M81)) rfl hR83 rfl hi86 rfl ?_
          refine ps_st (S' := (128, [(0, .ref m0), (2, .int 0)], [.int 2, .int (nI hA), .ref m0, .ref m0], M81)) rfl rfl rfl ?_
          refine ps_st (S' := (129, [(0, .ref m0), (2, .int 0)], [.int ((nI hA) + 2), .ref m0, .ref m0], M81)) rfl rfl rfl ?_
          rw [nI_add1 (p := hA) (k := 2) (x := 2) rfl (by omega)]
          show pl _ _ _ (_, [(0, .ref m0), (2, .int 0)], [.int (nI (hA + 2)), .ref m0, .ref m0], M81) _
          refine pl_call (a := [.ref m0, .int (nI (hA + 2))]) (rest := [.ref m0]) rfl rfl rfl (rd_u2 (n := n) (f := f) (p := (hA + 2)) hR83 hF_91 (by omega)) (fun v137 M138 q139 => ?_)
          obtain ⟨rfl, rfl⟩ := q139
          show pl _ _ _ (132, [(0, .ref m0), (2, .int 0)], [.int (nI (by2 f (hA + 2))), .ref m0], M81) _
          have hu_129 := by2_lt f (hA + 2)
          refine pl_call (a := [.ref m0, .int (nI (by2 f (hA + 2)))]) (rest := []) rfl rfl rfl (rd_plainClass (n := n) (f := f) (tx := tx) (cN := cN) (A := A) (N := N) (mj := mj) (E := E) (k := (by2 f (hA + 2))) hR83 hi88 hi89 hi90 hF_91 hY_92 hP_93 (hEP) (hN) (hmj) (by2_lt _ _) (hCP)) (fun v140 M141 q142 => ?_)
          obtain ⟨rfl, rfl⟩ := q142
          show pl _ _ _ (135, [(0, .ref m0), (2, .int 0)], [.int (nI (plnN f n E (by2 f (hA + 2))))], M81) _
          refine ps_if (S1 := (151, [(0, .ref m0), (2, .int 0)], [], M81)) (S2 := (138, [(0, .ref m0), (2, .int 0)], [], M81)) rfl rfl rfl (fun c_135 => ?_) (fun c_135 => ?_)
          · have c_135 : ¬ (nI (plnN f n E (by2 f (hA + 2)))) = 0 := of_decide_eq_true c_135
            have n_135 : ¬ (plnN f n E (by2 f (hA + 2)) = 0) := fun h9 => c_135 ((eq_nI (p := plnN f n E (by2 f (hA + 2))) (n := 0) (Nat.lt_trans (le1_pln _ _ _ _) (by decide)) (by decide)).mpr h9)
            have hpl2 := pln_in (f := f) (n := n) (E := E) (k := by2 f (hA + 2)) (by omega)
            have hcp2 := hCP (by2 f (hA + 2)) hpl2.1
            refine ps_st (S' := (152, [(0, .ref m0), (2, .int 0)], [.ref m0], M81)) rfl rfl rfl ?_
            refine ps_st (S' := (153, [(0, .ref m0), (2, .int 0)], [.ref m0, .ref m0], M81)) rfl rfl rfl ?_
            refine ps_st (S' := (154, [(0, .ref m0), (2, .int 0)], [.ref m0, .ref m0, .ref m0], M81)) rfl rfl rfl ?_
            refine ps_st (S' := (155, [(0, .ref m0), (2, .int 0)], [.ref m0, .ref m0, .ref m0, .ref m0], M81)) rfl rfl rfl ?_
            refine pr_int (j := 54) (S' := (158, [(0, .ref m0), (2, .int 0)], [.int (nI hA), .ref m0, .ref m0, .ref m0], M81)) rfl hR83 rfl hi86 rfl ?_
            refine ps_st (S' := (159, [(0, .ref m0), (2, .int 0)], [.int 2, .int (nI hA), .ref m0, .ref m0, .ref m0], M81)) rfl rfl rfl ?_
            refine ps_st (S' := (160, [(0, .ref m0), (2, .int 0)], [.int ((nI hA) + 2), .ref m0, .ref m0, .ref m0], M81)) rfl rfl rfl ?_
            rw [nI_add1 (p := hA) (k := 2) (x := 2) rfl (by omega)]
            show pl _ _ _ (_, [(0, .ref m0), (2, .int 0)], [.int (nI (hA + 2)), .ref m0, .ref m0, .ref m0], M81) _
            refine pl_call (a := [.ref m0, .int (nI (hA + 2))]) (rest := [.ref m0, .ref m0]) rfl rfl rfl (rd_u2 (n := n) (f := f) (p := (hA + 2)) hR83 hF_91 (by omega)) (fun v143 M144 q145 => ?_)
            obtain ⟨rfl, rfl⟩ := q145
            show pl _ _ _ (163, [(0, .ref m0), (2, .int 0)], [.int (nI (by2 f (hA + 2))), .ref m0, .ref m0], M81) _
            have hu_160 := by2_lt f (hA + 2)
            refine pl_call (a := [.ref m0, .int (nI (by2 f (hA + 2)))]) (rest := [.ref m0]) rfl rfl rfl (rd_className (n := n) (f := f) (tx := tx) (cN := cN) (A := A) (N := N) (mj := mj) (E := E) (k := (by2 f (hA + 2))) hR83 hi88 hi89 hi90 hF_91 hY_92 hP_93 (hEP) (hN) (hmj) (by omega)) (fun v146 M147 q148 => ?_)
            obtain ⟨s149, q163_s, rfl, rfl⟩ := q148
            show pl _ _ _ (166, [(0, .ref m0), (2, .int 0)], [.int (nI s149), .ref m0], M81) _
            have hsl_163 := q163_s.1
            have htl_163 := hY_92.1.2.2.1
            refine pr_put (j := 59) rfl hR83 rfl (fun M150 I151 hR152 hi153 hI154 => ?_)
            have hi155 := (hI154 54 (by decide)).trans hi86
            have hi156 := (hI154 11 (by decide)).trans hi87
            have hi157 := (hI154 51 (by decide)).trans hi88
            have hi158 := (hI154 52 (by decide)).trans hi89
            have hi159 := (hI154 53 (by decide)).trans hi90
            have hi160 := (hI154 58 (by decide)).trans hi84
            have hF_161 := hF_91.mono (pIx hI154 (by decide)) (fun _ _ => rfl)
            have hY_162 := hY_92.mono (pIx hI154 (by decide)) (fun _ _ => rfl)
            have hP_163 := hP_93.mono (pIx hI154 (by decide)) (fun _ _ => rfl)
            have hEI164 := hEI94.put hI154 (by decide)
            show pl _ _ _ (169, [(0, .ref m0), (2, .int 0)], [], M150) _
            refine ps_st (S' := (170, [(0, .ref m0), (2, .int 0)], [.ref m0], M150)) rfl rfl rfl ?_
            refine ps_st (S' := (171, [(0, .ref m0), (2, .int 0)], [.ref m0, .ref m0], M150)) rfl rfl rfl ?_
            refine pr_int (j := 54) (S' := (174, [(0, .ref m0), (2, .int 0)], [.int (nI hA), .ref m0], M150)) rfl hR152 rfl hi155 rfl ?_
            refine ps_st (S' := (175, [(0, .ref m0), (2, .int 0)], [.int 4, .int (nI hA), .ref m0], M150)) rfl rfl rfl ?_
            refine ps_st (S' := (176, [(0, .ref m0), (2, .int 0)], [.int ((nI hA) + 4), .ref m0], M150)) rfl rfl rfl ?_
            rw [nI_add1 (p := hA) (k := 4) (x := 4) rfl (by omega)]
            show pl _ _ _ (_, [(0, .ref m0), (2, .int 0)], [.int (nI (hA + 4)), .ref m0], M150) _
            refine pl_call (a := [.ref m0, .int (nI (hA + 4))]) (rest := []) rfl rfl rfl (rd_u2 (n := n) (f := f) (p := (hA + 4)) hR152 hF_161 (by omega)) (fun v165 M166 q167 => ?_)
            obtain ⟨rfl, rfl⟩ := q167
            show pl _ _ _ (179, [(0, .ref m0), (2, .int 0)], [.int (nI (by2 f (hA + 4)))], M150) _
            have hu_176 := by2_lt f (hA + 4)
            refine ps_st (S' := (180, [(3, .int (nI (by2 f (hA + 4)))), (0, .ref m0), (2, .int 0)], [], M150)) rfl rfl rfl ?_
            refine ps_st (S' := (181, [(3, .int (nI (by2 f (hA + 4)))), (0, .ref m0), (2, .int 0)], [.ref m0], M150)) rfl rfl rfl ?_
            refine ps_st (S' := (182, [(3, .int (nI (by2 f (hA + 4)))), (0, .ref m0), (2, .int 0)], [.int (nI (by2 f (hA + 4))), .ref m0], M150)) rfl rfl rfl ?_
            refine pl_call (a := [.ref m0, .int (nI (by2 f (hA + 4)))]) (rest := []) rfl rfl rfl (rd_plainClass (n := n) (f := f) (tx := tx) (cN := cN) (A := A) (N := N) (mj := mj) (E := E) (k := (by2 f (hA + 4))) hR152 hi157 hi158 hi159 hF_161 hY_162 hP_163 (hEP) (hN) (hmj) (by2_lt _ _) (hCP)) (fun v168 M169 q170 => ?_)
            obtain ⟨rfl, rfl⟩ := q170
            show pl _ _ _ (185, [(3, .int (nI (by2 f (hA + 4)))), (0, .ref m0), (2, .int 0)], [.int (nI (plnN f n E (by2 f (hA + 4))))], M150) _
            refine ps_if (S1 := (204, [(0, .ref m0)], [], M150)) (S2 := (188, [(3, .int (nI (by2 f (hA + 4)))), (0, .ref m0), (2, .int 0)], [], M150)) rfl rfl rfl (fun c_185 => ?_) (fun c_185 => ?_)
            · have c_185 : (nI (plnN f n E (by2 f (hA + 4)))) = 0 := of_decide_eq_true c_185
              have n_185 : plnN f n E (by2 f (hA + 4)) = 0 := (eq_nI (p := plnN f n E (by2 f (hA + 4))) (n := 0) (Nat.lt_trans (le1_pln _ _ _ _) (by decide)) (by decide)).mp c_185
              refine ps_st (S' := (205, [(0, .ref m0)], [.ref m0], M150)) rfl rfl rfl ?_
              refine ps_st (S' := (207, [(0, .ref m0)], [.int 17, .ref m0], M150)) rfl rfl rfl ?_
              refine ps_st (S' := (208, [(0, .ref m0)], [.ref m0, .int 17, .ref m0], M150)) rfl rfl rfl ?_
              refine pr_int (j := 54) (S' := (211, [(0, .ref m0)], [.int (nI hA), .int 17, .ref m0], M150)) rfl hR152 rfl hi155 rfl ?_
              refine ps_st (S' := (212, [(0, .ref m0)], [.int 4, .int (nI hA), .int 17, .ref m0], M150)) rfl rfl rfl ?_
              refine ps_st (S' := (213, [(0, .ref m0)], [.int ((nI hA) + 4), .int 17, .ref m0], M150)) rfl rfl rfl ?_
              rw [nI_add1 (p := hA) (k := 4) (x := 4) rfl (by omega)]
              show pl _ _ _ (_, [(0, .ref m0)], [.int (nI (hA + 4)), .int 17, .ref m0], M150) _
              refine pl_call (a := [.ref m0, .int 17, .int (nI (hA + 4))]) (rest := []) rfl rfl rfl (rd_wrong (x1 := 17) (x2 := (nI (hA + 4))) hR152) (fun v171 M172 q173 => ?_)
              obtain ⟨I174, R175, rfl, hR176, hI177, hX178, hi179, hi180⟩ := q173
              have hi181 := (hI177 54 (by decide)).trans hi155
              have hi182 := (hI177 11 (by decide)).trans hi156
              have hi183 := (hI177 51 (by decide)).trans hi157
              have hi184 := (hI177 52 (by decide)).trans hi158
              have hi185 := (hI177 53 (by decide)).trans hi159
              have hi186 := (hI177 58 (by decide)).trans hi160
              have hi187 := (hI177 59 (by decide)).trans hi153
              have hF_188 := hF_161.mono (cIx hI177 (by decide)) (cRx hX178 (by decide))
              have hY_189 := hY_162.mono (cIx hI177 (by decide)) (cRx hX178 (by decide))
              have hP_190 := hP_163.mono (cIx hI177 (by decide)) (cRx hX178 (by decide))
              have hEI191 := hEI164.tr hI177 (by decide)
              have hER192 := hER.tr hX178 (by decide)
              show pl _ _ _ (216, [(0, .ref m0)], [.int 0], M172) _
              exact ps_ret rfl rfl (Or.inr ⟨(17, hA + 4), I174, R175, by
                  have ec := cfl_0 (by2 f hA)
                  have eh := has_0 (by2 f hA) 512
                  unfold ccS
                  rw [show hdS f n E hA = some (17, hA + 4) by unfold hdS; first | ((repeat first | rw [if_pos (by omega)] | rw [if_neg (by omega)]) <;> first | rfl | omega) | ((repeat' split) <;> first | rfl | (exfalso; omega) | omega)], rfl, hR176, hEI191, hER192, hi179, hi180⟩)
            · have c_185 : ¬ ((nI (plnN f n E (by2 f (hA + 4)))) = 0) := of_decide_eq_false c_185
              have n_185 : ¬ (plnN f n E (by2 f (hA + 4)) = 0) := fun h9 => c_185 ((eq_nI (p := plnN f n E (by2 f (hA + 4))) (n := 0) (Nat.lt_trans (le1_pln _ _ _ _) (by decide)) (by decide)).mpr h9)
              have hpl4 := pln_in (f := f) (n := n) (E := E) (k := by2 f (hA + 4)) (by omega)
              have hcp4 := hCP (by2 f (hA + 4)) hpl4.1
              refine ps_st (S' := (189, [(3, .int (nI (by2 f (hA + 4)))), (0, .ref m0), (2, .int 0)], [.int 0], M150)) rfl rfl rfl ?_
              refine ps_if (S1 := (217, [(0, .ref m0), (3, .int (nI (by2 f (hA + 4))))], [], M150)) (S2 := (192, [(3, .int (nI (by2 f (hA + 4)))), (0, .ref m0), (2, .int 0)], [], M150)) rfl rfl rfl (fun c_189 => ?_) (fun c_189 => ?_)
              rotate_left
              · exact absurd (by decide) (of_decide_eq_false c_189)
              refine ps_st (S' := (218, [(0, .ref m0), (3, .int (nI (by2 f (hA + 4))))], [.ref m0], M150)) rfl rfl rfl ?_
              refine ps_st (S' := (219, [(0, .ref m0), (3, .int (nI (by2 f (hA + 4))))], [.ref m0, .ref m0], M150)) rfl rfl rfl ?_
              refine ps_st (S' := (220, [(0, .ref m0), (3, .int (nI (by2 f (hA + 4))))], [.int (nI (by2 f (hA + 4))), .ref m0, .ref m0], M150)) rfl rfl rfl ?_
              refine pl_call (a := [.ref m0, .int (nI (by2 f (hA + 4)))]) (rest := [.ref m0]) rfl rfl rfl (rd_className (n := n) (f := f) (tx := tx) (cN := cN) (A := A) (N := N) (mj := mj) (E := E) (k := (by2 f (hA + 4))) hR152 hi157 hi158 hi159 hF_161 hY_162 hP_163 (hEP) (hN) (hmj) (by omega)) (fun v193 M194 q195 => ?_)
              obtain ⟨s196, q220_s, rfl, rfl⟩ := q195
              show pl _ _ _ (223, [(0, .ref m0), (3, .int (nI (by2 f (hA + 4))))], [.int (nI s196), .ref m0], M150) _
              have hsl_220 := q220_s.1
              have htl_220 := hY_162.1.2.2.1
              refine pr_put (j := 60) rfl hR152 rfl (fun M197 I198 hR199 hi200 hI201 => ?_)
              have hi202 := (hI201 54 (by decide)).trans hi155
              have hi203 := (hI201 11 (by decide)).trans hi156
              have hi204 := (hI201 51 (by decide)).trans hi157
              have hi205 := (hI201 52 (by decide)).trans hi158
              have hi206 := (hI201 53 (by decide)).trans hi159
              have hi207 := (hI201 58 (by decide)).trans hi160
              have hi208 := (hI201 59 (by decide)).trans hi153
              have hF_209 := hF_161.mono (pIx hI201 (by decide)) (fun _ _ => rfl)
              have hY_210 := hY_162.mono (pIx hI201 (by decide)) (fun _ _ => rfl)
              have hP_211 := hP_163.mono (pIx hI201 (by decide)) (fun _ _ => rfl)
              have hEI212 := hEI164.put hI201 (by decide)
              show pl _ _ _ (226, [(0, .ref m0), (3, .int (nI (by2 f (hA + 4))))], [], M197) _
              have hh : hdS f n E hA = none := by
                have ec := cfl_0 (by2 f hA)
                have eh := has_0 (by2 f hA) 512
                unfold hdS
                first | ((repeat first | rw [if_pos (by omega)] | rw [if_neg (by omega)]) <;> first | rfl | omega) | ((repeat' split) <;> first | rfl | (exfalso; omega) | omega)
              refine ps_st (S' := (227, [(0, .ref m0), (3, .int (nI (by2 f (hA + 4))))], [.ref m0], M197)) rfl rfl rfl ?_
              refine ps_st (S' := (228, [(0, .ref m0), (3, .int (nI (by2 f (hA + 4))))], [.ref m0, .ref m0], M197)) rfl rfl rfl ?_
              refine pr_int (j := 54) (S' := (231, [(0, .ref m0), (3, .int (nI (by2 f (hA + 4))))], [.int (nI hA), .ref m0], M197)) rfl hR199 rfl hi202 rfl ?_
              refine ps_st (S' := (233, [(0, .ref m0), (3, .int (nI (by2 f (hA + 4))))], [.int 6, .int (nI hA), .ref m0], M197)) rfl rfl rfl ?_
              refine ps_st (S' := (234, [(0, .ref m0), (3, .int (nI (by2 f (hA + 4))))], [.int ((nI hA) + 6), .ref m0], M197)) rfl rfl rfl ?_
              rw [nI_add1 (p := hA) (k := 6) (x := 6) rfl (by omega)]
              show pl _ _ _ (_, [(0, .ref m0), (3, .int (nI (by2 f (hA + 4))))], [.int (nI (hA + 6)), .ref m0], M197) _
              refine pl_call (a := [.ref m0, .int (nI (hA + 6))]) (rest := []) rfl rfl rfl (rd_u2 (n := n) (f := f) (p := (hA + 6)) hR199 hF_209 (by omega)) (fun v213 M214 q215 => ?_)
              obtain ⟨rfl, rfl⟩ := q215
              show pl _ _ _ (237, [(0, .ref m0), (3, .int (nI (by2 f (hA + 4))))], [.int (nI (by2 f (hA + 6)))], M197) _
              have hu_234 := by2_lt f (hA + 6)
              refine ps_st (S' := (239, [(4, .int (nI (by2 f (hA + 6)))), (0, .ref m0), (3, .int (nI (by2 f (hA + 4))))], [], M197)) rfl rfl rfl ?_
              refine ps_st (S' := (240, [(4, .int (nI (by2 f (hA + 6)))), (0, .ref m0), (3, .int (nI (by2 f (hA + 4))))], [.int 0], M197)) rfl rfl rfl ?_
              refine ps_st (S' := (242, [(0, .ref m0), (4, .int (nI (by2 f (hA + 6)))), (5, .int 0)], [], M197)) rfl rfl rfl ?_
              exact (LL kf).1 (0) M197 I198 R hR199 hEI212 hER hi202 hi203 hi204 hi205 hi206 hi207 hF_209 hY_210 hP_211 (hh) (by omega) (rfl) (fun j hj => by omega)
          · have c_135 : ¬ (¬ (nI (plnN f n E (by2 f (hA + 2)))) = 0) := of_decide_eq_false c_135
            have n_135 : plnN f n E (by2 f (hA + 2)) = 0 := (eq_nI (p := plnN f n E (by2 f (hA + 2))) (n := 0) (Nat.lt_trans (le1_pln _ _ _ _) (by decide)) (by decide)).mp (Decidable.not_not.mp c_135)
            refine ps_st (S' := (139, [(0, .ref m0), (2, .int 0)], [.ref m0], M81)) rfl rfl rfl ?_
            refine ps_st (S' := (141, [(0, .ref m0), (2, .int 0)], [.int 16, .ref m0], M81)) rfl rfl rfl ?_
            refine ps_st (S' := (142, [(0, .ref m0), (2, .int 0)], [.ref m0, .int 16, .ref m0], M81)) rfl rfl rfl ?_
            refine pr_int (j := 54) (S' := (145, [(0, .ref m0), (2, .int 0)], [.int (nI hA), .int 16, .ref m0], M81)) rfl hR83 rfl hi86 rfl ?_
            refine ps_st (S' := (146, [(0, .ref m0), (2, .int 0)], [.int 2, .int (nI hA), .int 16, .ref m0], M81)) rfl rfl rfl ?_
            refine ps_st (S' := (147, [(0, .ref m0), (2, .int 0)], [.int ((nI hA) + 2), .int 16, .ref m0], M81)) rfl rfl rfl ?_
            rw [nI_add1 (p := hA) (k := 2) (x := 2) rfl (by omega)]
            show pl _ _ _ (_, [(0, .ref m0), (2, .int 0)], [.int (nI (hA + 2)), .int 16, .ref m0], M81) _
            refine pl_call (a := [.ref m0, .int 16, .int (nI (hA + 2))]) (rest := []) rfl rfl rfl (rd_wrong (x1 := 16) (x2 := (nI (hA + 2))) hR83) (fun v216 M217 q218 => ?_)
            obtain ⟨I219, R220, rfl, hR221, hI222, hX223, hi224, hi225⟩ := q218
            have hi226 := (hI222 54 (by decide)).trans hi86
            have hi227 := (hI222 11 (by decide)).trans hi87
            have hi228 := (hI222 51 (by decide)).trans hi88
            have hi229 := (hI222 52 (by decide)).trans hi89
            have hi230 := (hI222 53 (by decide)).trans hi90
            have hi231 := (hI222 58 (by decide)).trans hi84
            have hF_232 := hF_91.mono (cIx hI222 (by decide)) (cRx hX223 (by decide))
            have hY_233 := hY_92.mono (cIx hI222 (by decide)) (cRx hX223 (by decide))
            have hP_234 := hP_93.mono (cIx hI222 (by decide)) (cRx hX223 (by decide))
            have hEI235 := hEI94.tr hI222 (by decide)
            have hER236 := hER.tr hX223 (by decide)
            show pl _ _ _ (150, [(0, .ref m0), (2, .int 0)], [.int 0], M217) _
            exact ps_ret rfl rfl (Or.inr ⟨(16, hA + 2), I219, R220, by
                have ec := cfl_0 (by2 f hA)
                have eh := has_0 (by2 f hA) 512
                unfold ccS
                rw [show hdS f n E hA = some (16, hA + 2) by unfold hdS; first | ((repeat first | rw [if_pos (by omega)] | rw [if_neg (by omega)]) <;> first | rfl | omega) | ((repeat' split) <;> first | rfl | (exfalso; omega) | omega)], rfl, hR221, hEI235, hER236, hi224, hi225⟩)
        · have c_71 : ¬ ((nI (aN (by2 f hA) 16)) = 0) := of_decide_eq_false c_71
          have n_71 : ¬ (aN (by2 f hA) 16 = 0) := fun h9 => c_71 ((eq_nI (p := aN (by2 f hA) 16) (n := 0) (Nat.lt_of_le_of_lt (an_le _ _) (by decide)) (by decide)).mpr h9)
          refine ps_st (S' := (75, [(2, .int 0), (0, .ref m0), (1, .int (nI (by2 f hA)))], [.int (nI (by2 f hA))], M81)) rfl rfl rfl ?_
          refine ps_st (S' := (78, [(2, .int 0), (0, .ref m0), (1, .int (nI (by2 f hA)))], [.int 1024, .int (nI (by2 f hA))], M81)) rfl rfl rfl ?_
          refine ps_st (S' := (79, [(2, .int 0), (0, .ref m0), (1, .int (nI (by2 f hA)))], [.int ((nI (by2 f hA)) &&& 1024)], M81)) rfl rfl rfl ?_
          rw [nI_an (p := by2 f hA) (k := 1024) (x := 1024) rfl]
          show pl _ _ _ (_, [(2, .int 0), (0, .ref m0), (1, .int (nI (by2 f hA)))], [.int (nI (aN (by2 f hA) 1024))], M81) _
          refine ps_if (S1 := (121, [(0, .ref m0), (2, .int 0)], [], M81)) (S2 := (82, [(0, .ref m0), (1, .int (nI (by2 f hA))), (2, .int 0)], [], M81)) rfl rfl rfl (fun c_79 => ?_) (fun c_79 => ?_)
          · have c_79 : (nI (aN (by2 f hA) 1024)) = 0 := of_decide_eq_true c_79
            have n_79 : aN (by2 f hA) 1024 = 0 := (eq_nI (p := aN (by2 f hA) 1024) (n := 0) (Nat.lt_of_le_of_lt (an_le _ _) (by decide)) (by decide)).mp c_79
            refine ps_st (S' := (122, [(0, .ref m0), (2, .int 0)], [.ref m0], M81)) rfl rfl rfl ?_
            refine ps_st (S' := (123, [(0, .ref m0), (2, .int 0)], [.ref m0, .ref m0], M81)) rfl rfl rfl ?_
            refine ps_st (S' := (124, [(0, .ref m0), (2, .int 0)], [.ref m0, .ref m0, .ref m0], M81)) rfl rfl rfl ?_
            refine pr_int (j := 54) (S' := (127, [(0, .ref m0), (2, .int 0)], [.int (nI hA), .ref m0, .ref m0], M81)) rfl hR83 rfl hi86 rfl ?_
            refine ps_st (S' := (128, [(0, .ref m0), (2, .int 0)], [.int 2, .int (nI hA), .ref m0, .ref m0], M81)) rfl rfl rfl ?_
            refine ps_st (S' := (129, [(0, .ref m0), (2, .int 0)], [.int ((nI hA) + 2), .ref m0, .ref m0], M81)) rfl rfl rfl ?_
            rw [nI_add1 (p := hA) (k := 2) (x := 2) rfl (by omega)]
            show pl _ _ _ (_, [(0, .ref m0), (2, .int 0)], [.int (nI (hA + 2)), .ref m0, .ref m0], M81) _
            refine pl_call (a := [.ref m0, .int (nI (hA + 2))]) (rest := [.ref m0]) rfl rfl rfl (rd_u2 (n := n) (f := f) (p := (hA + 2)) hR83 hF_91 (by omega)) (fun v237 M238 q239 => ?_)
            obtain ⟨rfl, rfl⟩ := q239
            show pl _ _ _ (132, [(0, .ref m0), (2, .int 0)], [.int (nI (by2 f (hA + 2))), .ref m0], M81) _
            have hu_129 := by2_lt f (hA + 2)
            refine pl_call (a := [.ref m0, .int (nI (by2 f (hA + 2)))]) (rest := []) rfl rfl rfl (rd_plainClass (n := n) (f := f) (tx := tx) (cN := cN) (A := A) (N := N) (mj := mj) (E := E) (k := (by2 f (hA + 2))) hR83 hi88 hi89 hi90 hF_91 hY_92 hP_93 (hEP) (hN) (hmj) (by2_lt _ _) (hCP)) (fun v240 M241 q242 => ?_)
            obtain ⟨rfl, rfl⟩ := q242
            show pl _ _ _ (135, [(0, .ref m0), (2, .int 0)], [.int (nI (plnN f n E (by2 f (hA + 2))))], M81) _
            refine ps_if (S1 := (151, [(0, .ref m0), (2, .int 0)], [], M81)) (S2 := (138, [(0, .ref m0), (2, .int 0)], [], M81)) rfl rfl rfl (fun c_135 => ?_) (fun c_135 => ?_)
            · have c_135 : ¬ (nI (plnN f n E (by2 f (hA + 2)))) = 0 := of_decide_eq_true c_135
              have n_135 : ¬ (plnN f n E (by2 f (hA + 2)) = 0) := fun h9 => c_135 ((eq_nI (p := plnN f n E (by2 f (hA + 2))) (n := 0) (Nat.lt_trans (le1_pln _ _ _ _) (by decide)) (by decide)).mpr h9)
              have hpl2 := pln_in (f := f) (n := n) (E := E) (k := by2 f (hA + 2)) (by omega)
              have hcp2 := hCP (by2 f (hA + 2)) hpl2.1
              refine ps_st (S' := (152, [(0, .ref m0), (2, .int 0)], [.ref m0], M81)) rfl rfl rfl ?_
              refine ps_st (S' := (153, [(0, .ref m0), (2, .int 0)], [.ref m0, .ref m0], M81)) rfl rfl rfl ?_
              refine ps_st (S' := (154, [(0, .ref m0), (2, .int 0)], [.ref m0, .ref m0, .ref m0], M81)) rfl rfl rfl ?_
              refine ps_st (S' := (155, [(0, .ref m0), (2, .int 0)], [.ref m0, .ref m0, .ref m0, .ref m0], M81)) rfl rfl rfl ?_
              refine pr_int (j := 54) (S' := (158, [(0, .ref m0), (2, .int 0)], [.int (nI hA), .ref m0, .ref m0, .ref m0], M81)) rfl hR83 rfl hi86 rfl ?_
              refine ps_st (S' := (159, [(0, .ref m0), (2, .int 0)], [.int 2, .int (nI hA), .ref m0, .ref m0, .ref m0], M81)) rfl rfl rfl ?_
              refine ps_st (S' := (160, [(0, .ref m0), (2, .int 0)], [.int ((nI hA) + 2), .ref m0, .ref m0, .ref m0], M81)) rfl rfl rfl ?_
              rw [nI_add1 (p := hA) (k := 2) (x := 2) rfl (by omega)]
              show pl _ _ _ (_, [(0, .ref m0), (2, .int 0)], [.int (nI (hA + 2)), .ref m0, .ref m0, .ref m0], M81) _
              refine pl_call (a := [.ref m0, .int (nI (hA + 2))]) (rest := [.ref m0, .ref m0]) rfl rfl rfl (rd_u2 (n := n) (f := f) (p := (hA + 2)) hR83 hF_91 (by omega)) (fun v243 M244 q245 => ?_)
              obtain ⟨rfl, rfl⟩ := q245
              show pl _ _ _ (163, [(0, .ref m0), (2, .int 0)], [.int (nI (by2 f (hA + 2))), .ref m0, .ref m0], M81) _
              have hu_160 := by2_lt f (hA + 2)
              refine pl_call (a := [.ref m0, .int (nI (by2 f (hA + 2)))]) (rest := [.ref m0]) rfl rfl rfl (rd_className (n := n) (f := f) (tx := tx) (cN := cN) (A := A) (N := N) (mj := mj) (E := E) (k := (by2 f (hA + 2))) hR83 hi88 hi89 hi90 hF_91 hY_92 hP_93 (hEP) (hN) (hmj) (by omega)) (fun v246 M247 q248 => ?_)
              obtain ⟨s249, q163_s, rfl, rfl⟩ := q248
              show pl _ _ _ (166, [(0, .ref m0), (2, .int 0)], [.int (nI s249), .ref m0], M81) _
              have hsl_163 := q163_s.1
              have htl_163 := hY_92.1.2.2.1
              refine pr_put (j := 59) rfl hR83 rfl (fun M250 I251 hR252 hi253 hI254 => ?_)
              have hi255 := (hI254 54 (by decide)).trans hi86
              have hi256 := (hI254 11 (by decide)).trans hi87
              have hi257 := (hI254 51 (by decide)).trans hi88
              have hi258 := (hI254 52 (by decide)).trans hi89
              have hi259 := (hI254 53 (by decide)).trans hi90
              have hi260 := (hI254 58 (by decide)).trans hi84
              have hF_261 := hF_91.mono (pIx hI254 (by decide)) (fun _ _ => rfl)
              have hY_262 := hY_92.mono (pIx hI254 (by decide)) (fun _ _ => rfl)
              have hP_263 := hP_93.mono (pIx hI254 (by decide)) (fun _ _ => rfl)
              have hEI264 := hEI94.put hI254 (by decide)
              show pl _ _ _ (169, [(0, .ref m0), (2, .int 0)], [], M250) _
              refine ps_st (S' := (170, [(0, .ref m0), (2, .int 0)], [.ref m0], M250)) rfl rfl rfl ?_
              refine ps_st (S' := (171, [(0, .ref m0), (2, .int 0)], [.ref m0, .ref m0], M250)) rfl rfl rfl ?_
              refine pr_int (j := 54) (S' := (174, [(0, .ref m0), (2, .int 0)], [.int (nI hA), .ref m0], M250)) rfl hR252 rfl hi255 rfl ?_
              refine ps_st (S' := (175, [(0, .ref m0), (2, .int 0)], [.int 4, .int (nI hA), .ref m0], M250)) rfl rfl rfl ?_
              refine ps_st (S' := (176, [(0, .ref m0), (2, .int 0)], [.int ((nI hA) + 4), .ref m0], M250)) rfl rfl rfl ?_
              rw [nI_add1 (p := hA) (k := 4) (x := 4) rfl (by omega)]
              show pl _ _ _ (_, [(0, .ref m0), (2, .int 0)], [.int (nI (hA + 4)), .ref m0], M250) _
              refine pl_call (a := [.ref m0, .int (nI (hA + 4))]) (rest := []) rfl rfl rfl (rd_u2 (n := n) (f := f) (p := (hA + 4)) hR252 hF_261 (by omega)) (fun v265 M266 q267 => ?_)
              obtain ⟨rfl, rfl⟩ := q267
              show pl _ _ _ (179, [(0, .ref m0), (2, .int 0)], [.int (nI (by2 f (hA + 4)))], M250) _
              have hu_176 := by2_lt f (hA + 4)
              refine ps_st (S' := (180, [(3, .int (nI (by2 f (hA + 4)))), (0, .ref m0), (2, .int 0)], [], M250)) rfl rfl rfl ?_
              refine ps_st (S' := (181, [(3, .int (nI (by2 f (hA + 4)))), (0, .ref m0), (2, .int 0)], [.ref m0], M250)) rfl rfl rfl ?_
              refine ps_st (S' := (182, [(3, .int (nI (by2 f (hA + 4)))), (0, .ref m0), (2, .int 0)], [.int (nI (by2 f (hA + 4))), .ref m0], M250)) rfl rfl rfl ?_
              refine pl_call (a := [.ref m0, .int (nI (by2 f (hA + 4)))]) (rest := []) rfl rfl rfl (rd_plainClass (n := n) (f := f) (tx := tx) (cN := cN) (A := A) (N := N) (mj := mj) (E := E) (k := (by2 f (hA + 4))) hR252 hi257 hi258 hi259 hF_261 hY_262 hP_263 (hEP) (hN) (hmj) (by2_lt _ _) (hCP)) (fun v268 M269 q270 => ?_)
              obtain ⟨rfl, rfl⟩ := q270
              show pl _ _ _ (185, [(3, .int (nI (by2 f (hA + 4)))), (0, .ref m0), (2, .int 0)], [.int (nI (plnN f n E (by2 f (hA + 4))))], M250) _
              refine ps_if (S1 := (204, [(0, .ref m0)], [], M250)) (S2 := (188, [(3, .int (nI (by2 f (hA + 4)))), (0, .ref m0), (2, .int 0)], [], M250)) rfl rfl rfl (fun c_185 => ?_) (fun c_185 => ?_)
              · have c_185 : (nI (plnN f n E (by2 f (hA + 4)))) = 0 := of_decide_eq_true c_185
                have n_185 : plnN f n E (by2 f (hA + 4)) = 0 := (eq_nI (p := plnN f n E (by2 f (hA + 4))) (n := 0) (Nat.lt_trans (le1_pln _ _ _ _) (by decide)) (by decide)).mp c_185
                refine ps_st (S' := (205, [(0, .ref m0)], [.ref m0], M250)) rfl rfl rfl ?_
                refine ps_st (S' := (207, [(0, .ref m0)], [.int 17, .ref m0], M250)) rfl rfl rfl ?_
                refine ps_st (S' := (208, [(0, .ref m0)], [.ref m0, .int 17, .ref m0], M250)) rfl rfl rfl ?_
                refine pr_int (j := 54) (S' := (211, [(0, .ref m0)], [.int (nI hA), .int 17, .ref m0], M250)) rfl hR252 rfl hi255 rfl ?_
                refine ps_st (S' := (212, [(0, .ref m0)], [.int 4, .int (nI hA), .int 17, .ref m0], M250)) rfl rfl rfl ?_
                refine ps_st (S' := (213, [(0, .ref m0)], [.int ((nI hA) + 4), .int 17, .ref m0], M250)) rfl rfl rfl ?_
                rw [nI_add1 (p := hA) (k := 4) (x := 4) rfl (by omega)]
                show pl _ _ _ (_, [(0, .ref m0)], [.int (nI (hA + 4)), .int 17, .ref m0], M250) _
                refine pl_call (a := [.ref m0, .int 17, .int (nI (hA + 4))]) (rest := []) rfl rfl rfl (rd_wrong (x1 := 17) (x2 := (nI (hA + 4))) hR252) (fun v271 M272 q273 => ?_)
                obtain ⟨I274, R275, rfl, hR276, hI277, hX278, hi279, hi280⟩ := q273
                have hi281 := (hI277 54 (by decide)).trans hi255
                have hi282 := (hI277 11 (by decide)).trans hi256
                have hi283 := (hI277 51 (by decide)).trans hi257
                have hi284 := (hI277 52 (by decide)).trans hi258
                have hi285 := (hI277 53 (by decide)).trans hi259
                have hi286 := (hI277 58 (by decide)).trans hi260
                have hi287 := (hI277 59 (by decide)).trans hi253
                have hF_288 := hF_261.mono (cIx hI277 (by decide)) (cRx hX278 (by decide))
                have hY_289 := hY_262.mono (cIx hI277 (by decide)) (cRx hX278 (by decide))
                have hP_290 := hP_263.mono (cIx hI277 (by decide)) (cRx hX278 (by decide))
                have hEI291 := hEI264.tr hI277 (by decide)
                have hER292 := hER.tr hX278 (by decide)
                show pl _ _ _ (216, [(0, .ref m0)], [.int 0], M272) _
                exact ps_ret rfl rfl (Or.inr ⟨(17, hA + 4), I274, R275, by
                    have ec := cfl_0 (by2 f hA)
                    have eh := has_0 (by2 f hA) 512
                    unfold ccS
                    rw [show hdS f n E hA = some (17, hA + 4) by unfold hdS; first | ((repeat first | rw [if_pos (by omega)] | rw [if_neg (by omega)]) <;> first | rfl | omega) | ((repeat' split) <;> first | rfl | (exfalso; omega) | omega)], rfl, hR276, hEI291, hER292, hi279, hi280⟩)
              · have c_185 : ¬ ((nI (plnN f n E (by2 f (hA + 4)))) = 0) := of_decide_eq_false c_185
                have n_185 : ¬ (plnN f n E (by2 f (hA + 4)) = 0) := fun h9 => c_185 ((eq_nI (p := plnN f n E (by2 f (hA + 4))) (n := 0) (Nat.lt_trans (le1_pln _ _ _ _) (by decide)) (by decide)).mpr h9)
                have hpl4 := pln_in (f := f) (n := n) (E := E) (k := by2 f (hA + 4)) (by omega)
                have hcp4 := hCP (by2 f (hA + 4)) hpl4.1
                refine ps_st (S' := (189, [(3, .int (nI (by2 f (hA + 4)))), (0, .ref m0), (2, .int 0)], [.int 0], M250)) rfl rfl rfl ?_
                refine ps_if (S1 := (217, [(0, .ref m0), (3, .int (nI (by2 f (hA + 4))))], [], M250)) (S2 := (192, [(3, .int (nI (by2 f (hA + 4)))), (0, .ref m0), (2, .int 0)], [], M250)) rfl rfl rfl (fun c_189 => ?_) (fun c_189 => ?_)
                rotate_left
                · exact absurd (by decide) (of_decide_eq_false c_189)
                refine ps_st (S' := (218, [(0, .ref m0), (3, .int (nI (by2 f (hA + 4))))], [.ref m0], M250)) rfl rfl rfl ?_
                refine ps_st (S' := (219, [(0, .ref m0), (3, .int (nI (by2 f (hA + 4))))], [.ref m0, .ref m0], M250)) rfl rfl rfl ?_
                refine ps_st (S' := (220, [(0, .ref m0), (3, .int (nI (by2 f (hA + 4))))], [.int (nI (by2 f (hA + 4))), .ref m0, .ref m0], M250)) rfl rfl rfl ?_
                refine pl_call (a := [.ref m0, .int (nI (by2 f (hA + 4)))]) (rest := [.ref m0]) rfl rfl rfl (rd_className (n := n) (f := f) (tx := tx) (cN := cN) (A := A) (N := N) (mj := mj) (E := E) (k := (by2 f (hA + 4))) hR252 hi257 hi258 hi259 hF_261 hY_262 hP_263 (hEP) (hN) (hmj) (by omega)) (fun v293 M294 q295 => ?_)
                obtain ⟨s296, q220_s, rfl, rfl⟩ := q295
                show pl _ _ _ (223, [(0, .ref m0), (3, .int (nI (by2 f (hA + 4))))], [.int (nI s296), .ref m0], M250) _
                have hsl_220 := q220_s.1
                have htl_220 := hY_262.1.2.2.1
                refine pr_put (j := 60) rfl hR252 rfl (fun M297 I298 hR299 hi300 hI301 => ?_)
                have hi302 := (hI301 54 (by decide)).trans hi255
                have hi303 := (hI301 11 (by decide)).trans hi256
                have hi304 := (hI301 51 (by decide)).trans hi257
                have hi305 := (hI301 52 (by decide)).trans hi258
                have hi306 := (hI301 53 (by decide)).trans hi259
                have hi307 := (hI301 58 (by decide)).trans hi260
                have hi308 := (hI301 59 (by decide)).trans hi253
                have hF_309 := hF_261.mono (pIx hI301 (by decide)) (fun _ _ => rfl)
                have hY_310 := hY_262.mono (pIx hI301 (by decide)) (fun _ _ => rfl)
                have hP_311 := hP_263.mono (pIx hI301 (by decide)) (fun _ _ => rfl)
                have hEI312 := hEI264.put hI301 (by decide)
                show pl _ _ _ (226, [(0, .ref m0), (3, .int (nI (by2 f (hA + 4))))], [], M297) _
                have hh : hdS f n E hA = none := by
                  have ec := cfl_0 (by2 f hA)
                  have eh := has_0 (by2 f hA) 512
                  unfold hdS
                  first | ((repeat first | rw [if_pos (by omega)] | rw [if_neg (by omega)]) <;> first | rfl | omega) | ((repeat' split) <;> first | rfl | (exfalso; omega) | omega)
                refine ps_st (S' := (227, [(0, .ref m0), (3, .int (nI (by2 f (hA + 4))))], [.ref m0], M297)) rfl rfl rfl ?_
                refine ps_st (S' := (228, [(0, .ref m0), (3, .int (nI (by2 f (hA + 4))))], [.ref m0, .ref m0], M297)) rfl rfl rfl ?_
                refine pr_int (j := 54) (S' := (231, [(0, .ref m0), (3, .int (nI (by2 f (hA + 4))))], [.int (nI hA), .ref m0], M297)) rfl hR299 rfl hi302 rfl ?_
                refine ps_st (S' := (233, [(0, .ref m0), (3, .int (nI (by2 f (hA + 4))))], [.int 6, .int (nI hA), .ref m0], M297)) rfl rfl rfl ?_
                refine ps_st (S' := (234, [(0, .ref m0), (3, .int (nI (by2 f (hA + 4))))], [.int ((nI hA) + 6), .ref m0], M297)) rfl rfl rfl ?_
                rw [nI_add1 (p := hA) (k := 6) (x := 6) rfl (by omega)]
                show pl _ _ _ (_, [(0, .ref m0), (3, .int (nI (by2 f (hA + 4))))], [.int (nI (hA + 6)), .ref m0], M297) _
                refine pl_call (a := [.ref m0, .int (nI (hA + 6))]) (rest := []) rfl rfl rfl (rd_u2 (n := n) (f := f) (p := (hA + 6)) hR299 hF_309 (by omega)) (fun v313 M314 q315 => ?_)
                obtain ⟨rfl, rfl⟩ := q315
                show pl _ _ _ (237, [(0, .ref m0), (3, .int (nI (by2 f (hA + 4))))], [.int (nI (by2 f (hA + 6)))], M297) _
                have hu_234 := by2_lt f (hA + 6)
                refine ps_st (S' := (239, [(4, .int (nI (by2 f (hA + 6)))), (0, .ref m0), (3, .int (nI (by2 f (hA + 4))))], [], M297)) rfl rfl rfl ?_
                refine ps_st (S' := (240, [(4, .int (nI (by2 f (hA + 6)))), (0, .ref m0), (3, .int (nI (by2 f (hA + 4))))], [.int 0], M297)) rfl rfl rfl ?_
                refine ps_st (S' := (242, [(0, .ref m0), (4, .int (nI (by2 f (hA + 6)))), (5, .int 0)], [], M297)) rfl rfl rfl ?_
                exact (LL kf).1 (0) M297 I298 R hR299 hEI312 hER hi302 hi303 hi304 hi305 hi306 hi307 hF_309 hY_310 hP_311 (hh) (by omega) (rfl) (fun j hj => by omega)
            · have c_135 : ¬ (¬ (nI (plnN f n E (by2 f (hA + 2)))) = 0) := of_decide_eq_false c_135
              have n_135 : plnN f n E (by2 f (hA + 2)) = 0 := (eq_nI (p := plnN f n E (by2 f (hA + 2))) (n := 0) (Nat.lt_trans (le1_pln _ _ _ _) (by decide)) (by decide)).mp (Decidable.not_not.mp c_135)
              refine ps_st (S' := (139, [(0, .ref m0), (2, .int 0)], [.ref m0], M81)) rfl rfl rfl ?_
              refine ps_st (S' := (141, [(0, .ref m0), (2, .int 0)], [.int 16, .ref m0], M81)) rfl rfl rfl ?_
              refine ps_st (S' := (142, [(0, .ref m0), (2, .int 0)], [.ref m0, .int 16, .ref m0], M81)) rfl rfl rfl ?_
              refine pr_int (j := 54) (S' := (145, [(0, .ref m0), (2, .int 0)], [.int (nI hA), .int 16, .ref m0], M81)) rfl hR83 rfl hi86 rfl ?_
              refine ps_st (S' := (146, [(0, .ref m0), (2, .int 0)], [.int 2, .int (nI hA), .int 16, .ref m0], M81)) rfl rfl rfl ?_
              refine ps_st (S' := (147, [(0, .ref m0), (2, .int 0)], [.int ((nI hA) + 2), .int 16, .ref m0], M81)) rfl rfl rfl ?_
              rw [nI_add1 (p := hA) (k := 2) (x := 2) rfl (by omega)]
              show pl _ _ _ (_, [(0, .ref m0), (2, .int 0)], [.int (nI (hA + 2)), .int 16, .ref m0], M81) _
              refine pl_call (a := [.ref m0, .int 16, .int (nI (hA + 2))]) (rest := []) rfl rfl rfl (rd_wrong (x1 := 16) (x2 := (nI (hA + 2))) hR83) (fun v316 M317 q318 => ?_)
              obtain ⟨I319, R320, rfl, hR321, hI322, hX323, hi324, hi325⟩ := q318
              have hi326 := (hI322 54 (by decide)).trans hi86
              have hi327 := (hI322 11 (by decide)).trans hi87
              have hi328 := (hI322 51 (by decide)).trans hi88
              have hi329 := (hI322 52 (by decide)).trans hi89
              have hi330 := (hI322 53 (by decide)).trans hi90
              have hi331 := (hI322 58 (by decide)).trans hi84
              have hF_332 := hF_91.mono (cIx hI322 (by decide)) (cRx hX323 (by decide))
              have hY_333 := hY_92.mono (cIx hI322 (by decide)) (cRx hX323 (by decide))
              have hP_334 := hP_93.mono (cIx hI322 (by decide)) (cRx hX323 (by decide))
              have hEI335 := hEI94.tr hI322 (by decide)
              have hER336 := hER.tr hX323 (by decide)
              show pl _ _ _ (150, [(0, .ref m0), (2, .int 0)], [.int 0], M317) _
              exact ps_ret rfl rfl (Or.inr ⟨(16, hA + 2), I319, R320, by
                  have ec := cfl_0 (by2 f hA)
                  have eh := has_0 (by2 f hA) 512
                  unfold ccS
                  rw [show hdS f n E hA = some (16, hA + 2) by unfold hdS; first | ((repeat first | rw [if_pos (by omega)] | rw [if_neg (by omega)]) <;> first | rfl | omega) | ((repeat' split) <;> first | rfl | (exfalso; omega) | omega)], rfl, hR321, hEI335, hER336, hi324, hi325⟩)
          · have c_79 : ¬ ((nI (aN (by2 f hA) 1024)) = 0) := of_decide_eq_false c_79
            have n_79 : ¬ (aN (by2 f hA) 1024 = 0) := fun h9 => c_79 ((eq_nI (p := aN (by2 f hA) 1024) (n := 0) (Nat.lt_of_le_of_lt (an_le _ _) (by decide)) (by decide)).mpr h9)
            refine ps_st (S' := (83, [(0, .ref m0), (1, .int (nI (by2 f hA))), (2, .int 0)], [.int 0], M81)) rfl rfl rfl ?_
            refine ps_if (S1 := (110, [(0, .ref m0)], [], M81)) (S2 := (86, [(0, .ref m0), (1, .int (nI (by2 f hA))), (2, .int 0)], [], M81)) rfl rfl rfl (fun c_83 => ?_) (fun c_83 => ?_)
            rotate_left
            · exact absurd (by decide) (of_decide_eq_false c_83)
            refine ps_st (S' := (111, [(0, .ref m0)], [.ref m0], M81)) rfl rfl rfl ?_
            refine ps_st (S' := (113, [(0, .ref m0)], [.int 15, .ref m0], M81)) rfl rfl rfl ?_
            refine ps_st (S' := (114, [(0, .ref m0)], [.ref m0, .int 15, .ref m0], M81)) rfl rfl rfl ?_
            refine pr_int (j := 54) (S' := (117, [(0, .ref m0)], [.int (nI hA), .int 15, .ref m0], M81)) rfl hR83 rfl hi86 rfl ?_
            refine pl_call (a := [.ref m0, .int 15, .int (nI hA)]) (rest := []) rfl rfl rfl (rd_wrong (x1 := 15) (x2 := (nI hA)) hR83) (fun v337 M338 q339 => ?_)
            obtain ⟨I340, R341, rfl, hR342, hI343, hX344, hi345, hi346⟩ := q339
            have hi347 := (hI343 54 (by decide)).trans hi86
            have hi348 := (hI343 11 (by decide)).trans hi87
            have hi349 := (hI343 51 (by decide)).trans hi88
            have hi350 := (hI343 52 (by decide)).trans hi89
            have hi351 := (hI343 53 (by decide)).trans hi90
            have hi352 := (hI343 58 (by decide)).trans hi84
            have hF_353 := hF_91.mono (cIx hI343 (by decide)) (cRx hX344 (by decide))
            have hY_354 := hY_92.mono (cIx hI343 (by decide)) (cRx hX344 (by decide))
            have hP_355 := hP_93.mono (cIx hI343 (by decide)) (cRx hX344 (by decide))
            have hEI356 := hEI94.tr hI343 (by decide)
            have hER357 := hER.tr hX344 (by decide)
            show pl _ _ _ (120, [(0, .ref m0)], [.int 0], M338) _
            exact ps_ret rfl rfl (Or.inr ⟨(15, hA), I340, R341, by
                have ec := cfl_0 (by2 f hA)
                have eh := has_0 (by2 f hA) 512
                unfold ccS
                rw [show hdS f n E hA = some (15, hA) by unfold hdS; first | ((repeat first | rw [if_pos (by omega)] | rw [if_neg (by omega)]) <;> first | rfl | omega) | ((repeat' split) <;> first | rfl | (exfalso; omega) | omega)], rfl, hR342, hEI356, hER357, hi345, hi346⟩)
  · have c_19 : ¬ ((nI (aN (by2 f hA) 512)) = 0) := of_decide_eq_false c_19
    have n_19 : ¬ (aN (by2 f hA) 512 = 0) := fun h9 => c_19 ((eq_nI (p := aN (by2 f hA) 512) (n := 0) (Nat.lt_of_le_of_lt (an_le _ _) (by decide)) (by decide)).mpr h9)
    refine ps_st (S' := (23, [(1, .int (nI (by2 f hA))), (0, .ref m0)], [.int 1], M81)) rfl rfl rfl ?_
    refine ps_st (S' := (27, [(0, .ref m0), (1, .int (nI (by2 f hA)))], [.int 1], M81)) rfl rfl rfl ?_
    refine ps_st (S' := (28, [(2, .int 1), (0, .ref m0), (1, .int (nI (by2 f hA)))], [], M81)) rfl rfl rfl ?_
    refine ps_st (S' := (29, [(2, .int 1), (0, .ref m0), (1, .int (nI (by2 f hA)))], [.int (nI (by2 f hA))], M81)) rfl rfl rfl ?_
    refine ps_st (S' := (32, [(2, .int 1), (0, .ref m0), (1, .int (nI (by2 f hA)))], [.int 32768, .int (nI (by2 f hA))], M81)) rfl rfl rfl ?_
    refine ps_st (S' := (33, [(2, .int 1), (0, .ref m0), (1, .int (nI (by2 f hA)))], [.int ((nI (by2 f hA)) &&& 32768)], M81)) rfl rfl rfl ?_
    rw [nI_an (p := by2 f hA) (k := 32768) (x := 32768) rfl]
    show pl _ _ _ (_, [(2, .int 1), (0, .ref m0), (1, .int (nI (by2 f hA)))], [.int (nI (aN (by2 f hA) 32768))], M81) _
    refine ps_if (S1 := (82, [(0, .ref m0), (1, .int (nI (by2 f hA))), (2, .int 1)], [], M81)) (S2 := (36, [(2, .int 1), (0, .ref m0), (1, .int (nI (by2 f hA)))], [], M81)) rfl rfl rfl (fun c_33 => ?_) (fun c_33 => ?_)
    · have c_33 : ¬ (nI (aN (by2 f hA) 32768)) = 0 := of_decide_eq_true c_33
      have n_33 : ¬ (aN (by2 f hA) 32768 = 0) := fun h9 => c_33 ((eq_nI (p := aN (by2 f hA) 32768) (n := 0) (Nat.lt_of_le_of_lt (an_le _ _) (by decide)) (by decide)).mpr h9)
      refine ps_st (S' := (83, [(0, .ref m0), (1, .int (nI (by2 f hA))), (2, .int 1)], [.int 1], M81)) rfl rfl rfl ?_
      refine ps_if (S1 := (110, [(0, .ref m0)], [], M81)) (S2 := (86, [(0, .ref m0), (1, .int (nI (by2 f hA))), (2, .int 1)], [], M81)) rfl rfl rfl (fun c_83 => ?_) (fun c_83 => ?_)
      · exact absurd (of_decide_eq_true c_83) (by decide)
      refine ps_st (S' := (87, [(0, .ref m0), (1, .int (nI (by2 f hA))), (2, .int 1)], [.int (nI (by2 f hA))], M81)) rfl rfl rfl ?_
      refine ps_st (S' := (90, [(0, .ref m0), (1, .int (nI (by2 f hA))), (2, .int 1)], [.int 32768, .int (nI (by2 f hA))], M81)) rfl rfl rfl ?_
      refine ps_st (S' := (91, [(0, .ref m0), (1, .int (nI (by2 f hA))), (2, .int 1)], [.int ((nI (by2 f hA)) &&& 32768)], M81)) rfl rfl rfl ?_
      rw [nI_an (p := by2 f hA) (k := 32768) (x := 32768) rfl]
      show pl _ _ _ (_, [(0, .ref m0), (1, .int (nI (by2 f hA))), (2, .int 1)], [.int (nI (aN (by2 f hA) 32768))], M81) _
      refine ps_if (S1 := (110, [(0, .ref m0)], [], M81)) (S2 := (94, [(0, .ref m0), (1, .int (nI (by2 f hA))), (2, .int 1)], [], M81)) rfl rfl rfl (fun c_91 => ?_) (fun c_91 => ?_)
      rotate_left
      · exact absurd (show ¬ ((nI (aN (by2 f hA) 32768)) = 0) from fun h9 => absurd ((eq_nI (p := aN (by2 f hA) 32768) (n := 0) (Nat.lt_of_le_of_lt (an_le _ _) (by decide)) (by decide)).mp h9) (by omega)) (of_decide_eq_false c_91)
      refine ps_st (S' := (111, [(0, .ref m0)], [.ref m0], M81)) rfl rfl rfl ?_
      refine ps_st (S' := (113, [(0, .ref m0)], [.int 15, .ref m0], M81)) rfl rfl rfl ?_
      refine ps_st (S' := (114, [(0, .ref m0)], [.ref m0, .int 15, .ref m0], M81)) rfl rfl rfl ?_
      refine pr_int (j := 54) (S' := (117, [(0, .ref m0)], [.int (nI hA), .int 15, .ref m0], M81)) rfl hR83 rfl hi86 rfl ?_
      refine pl_call (a := [.ref m0, .int 15, .int (nI hA)]) (rest := []) rfl rfl rfl (rd_wrong (x1 := 15) (x2 := (nI hA)) hR83) (fun v358 M359 q360 => ?_)
      obtain ⟨I361, R362, rfl, hR363, hI364, hX365, hi366, hi367⟩ := q360
      have hi368 := (hI364 54 (by decide)).trans hi86
      have hi369 := (hI364 11 (by decide)).trans hi87
      have hi370 := (hI364 51 (by decide)).trans hi88
      have hi371 := (hI364 52 (by decide)).trans hi89
      have hi372 := (hI364 53 (by decide)).trans hi90
      have hi373 := (hI364 58 (by decide)).trans hi84
      have hF_374 := hF_91.mono (cIx hI364 (by decide)) (cRx hX365 (by decide))
      have hY_375 := hY_92.mono (cIx hI364 (by decide)) (cRx hX365 (by decide))
      have hP_376 := hP_93.mono (cIx hI364 (by decide)) (cRx hX365 (by decide))
      have hEI377 := hEI94.tr hI364 (by decide)
      have hER378 := hER.tr hX365 (by decide)
      show pl _ _ _ (120, [(0, .ref m0)], [.int 0], M359) _
      exact ps_ret rfl rfl (Or.inr ⟨(15, hA), I361, R362, by
          have ec := cfl_0 (by2 f hA)
          have eh := has_0 (by2 f hA) 512
          unfold ccS
          rw [show hdS f n E hA = some (15, hA) by unfold hdS; first | ((repeat first | rw [if_pos (by omega)] | rw [if_neg (by omega)]) <;> first | rfl | omega) | ((repeat' split) <;> first | rfl | (exfalso; omega) | omega)], rfl, hR363, hEI377, hER378, hi366, hi367⟩)
    · have c_33 : ¬ (¬ (nI (aN (by2 f hA) 32768)) = 0) := of_decide_eq_false c_33
      have n_33 : aN (by2 f hA) 32768 = 0 := (eq_nI (p := aN (by2 f hA) 32768) (n := 0) (Nat.lt_of_le_of_lt (an_le _ _) (by decide)) (by decide)).mp (Decidable.not_not.mp c_33)
      refine ps_st (S' := (37, [(2, .int 1), (0, .ref m0), (1, .int (nI (by2 f hA)))], [.int 1], M81)) rfl rfl rfl ?_
      refine ps_if (S1 := (59, [(2, .int 1), (0, .ref m0), (1, .int (nI (by2 f hA)))], [], M81)) (S2 := (40, [(2, .int 1), (0, .ref m0), (1, .int (nI (by2 f hA)))], [], M81)) rfl rfl rfl (fun c_37 => ?_) (fun c_37 => ?_)
      · exact absurd (of_decide_eq_true c_37) (by decide)
      refine ps_st (S' := (41, [(2, .int 1), (0, .ref m0), (1, .int (nI (by2 f hA)))], [.int (nI (by2 f hA))], M81)) rfl rfl rfl ?_
      refine ps_st (S' := (44, [(2, .int 1), (0, .ref m0), (1, .int (nI (by2 f hA)))], [.int 1024, .int (nI (by2 f hA))], M81)) rfl rfl rfl ?_
      refine ps_st (S' := (45, [(2, .int 1), (0, .ref m0), (1, .int (nI (by2 f hA)))], [.int ((nI (by2 f hA)) &&& 1024)], M81)) rfl rfl rfl ?_
      rw [nI_an (p := by2 f hA) (k := 1024) (x := 1024) rfl]
      show pl _ _ _ (_, [(2, .int 1), (0, .ref m0), (1, .int (nI (by2 f hA)))], [.int (nI (aN (by2 f hA) 1024))], M81) _
      refine ps_if (S1 := (82, [(0, .ref m0), (1, .int (nI (by2 f hA))), (2, .int 1)], [], M81)) (S2 := (48, [(2, .int 1), (0, .ref m0), (1, .int (nI (by2 f hA)))], [], M81)) rfl rfl rfl (fun c_45 => ?_) (fun c_45 => ?_)
      · have c_45 : (nI (aN (by2 f hA) 1024)) = 0 := of_decide_eq_true c_45
        have n_45 : aN (by2 f hA) 1024 = 0 := (eq_nI (p := aN (by2 f hA) 1024) (n := 0) (Nat.lt_of_le_of_lt (an_le _ _) (by decide)) (by decide)).mp c_45
        refine ps_st (S' := (83, [(0, .ref m0), (1, .int (nI (by2 f hA))), (2, .int 1)], [.int 1], M81)) rfl rfl rfl ?_
        refine ps_if (S1 := (110, [(0, .ref m0)], [], M81)) (S2 := (86, [(0, .ref m0), (1, .int (nI (by2 f hA))), (2, .int 1)], [], M81)) rfl rfl rfl (fun c_83 => ?_) (fun c_83 => ?_)
        · exact absurd (of_decide_eq_true c_83) (by decide)
        refine ps_st (S' := (87, [(0, .ref m0), (1, .int (nI (by2 f hA))), (2, .int 1)], [.int (nI (by2 f hA))], M81)) rfl rfl rfl ?_
        refine ps_st (S' := (90, [(0, .ref m0), (1, .int (nI (by2 f hA))), (2, .int 1)], [.int 32768, .int (nI (by2 f hA))], M81)) rfl rfl rfl ?_
        refine ps_st (S' := (91, [(0, .ref m0), (1, .int (nI (by2 f hA))), (2, .int 1)], [.int ((nI (by2 f hA)) &&& 32768)], M81)) rfl rfl rfl ?_
        rw [nI_an (p := by2 f hA) (k := 32768) (x := 32768) rfl]
        show pl _ _ _ (_, [(0, .ref m0), (1, .int (nI (by2 f hA))), (2, .int 1)], [.int (nI (aN (by2 f hA) 32768))], M81) _
        refine ps_if (S1 := (110, [(0, .ref m0)], [], M81)) (S2 := (94, [(0, .ref m0), (1, .int (nI (by2 f hA))), (2, .int 1)], [], M81)) rfl rfl rfl (fun c_91 => ?_) (fun c_91 => ?_)
        · exact absurd (of_decide_eq_true c_91) (fun h9 => h9 ((eq_nI (p := aN (by2 f hA) 32768) (n := 0) (Nat.lt_of_le_of_lt (an_le _ _) (by decide)) (by decide)).mpr (by omega)))
        refine ps_st (S' := (95, [(0, .ref m0), (1, .int (nI (by2 f hA))), (2, .int 1)], [.int (nI (by2 f hA))], M81)) rfl rfl rfl ?_
        refine ps_st (S' := (98, [(0, .ref m0), (1, .int (nI (by2 f hA))), (2, .int 1)], [.int 1024, .int (nI (by2 f hA))], M81)) rfl rfl rfl ?_
        refine ps_st (S' := (99, [(0, .ref m0), (1, .int (nI (by2 f hA))), (2, .int 1)], [.int ((nI (by2 f hA)) &&& 1024)], M81)) rfl rfl rfl ?_
        rw [nI_an (p := by2 f hA) (k := 1024) (x := 1024) rfl]
        show pl _ _ _ (_, [(0, .ref m0), (1, .int (nI (by2 f hA))), (2, .int 1)], [.int (nI (aN (by2 f hA) 1024))], M81) _
        refine ps_if (S1 := (110, [(0, .ref m0)], [], M81)) (S2 := (102, [(0, .ref m0), (1, .int (nI (by2 f hA))), (2, .int 1)], [], M81)) rfl rfl rfl (fun c_99 => ?_) (fun c_99 => ?_)
        rotate_left
        · exact absurd ((eq_nI (p := aN (by2 f hA) 1024) (n := 0) (Nat.lt_of_le_of_lt (an_le _ _) (by decide)) (by decide)).mpr (by omega)) (of_decide_eq_false c_99)
        refine ps_st (S' := (111, [(0, .ref m0)], [.ref m0], M81)) rfl rfl rfl ?_
        refine ps_st (S' := (113, [(0, .ref m0)], [.int 15, .ref m0], M81)) rfl rfl rfl ?_
        refine ps_st (S' := (114, [(0, .ref m0)], [.ref m0, .int 15, .ref m0], M81)) rfl rfl rfl ?_
        refine pr_int (j := 54) (S' := (117, [(0, .ref m0)], [.int (nI hA), .int 15, .ref m0], M81)) rfl hR83 rfl hi86 rfl ?_
        refine pl_call (a := [.ref m0, .int 15, .int (nI hA)]) (rest := []) rfl rfl rfl (rd_wrong (x1 := 15) (x2 := (nI hA)) hR83) (fun v379 M380 q381 => ?_)
        obtain ⟨I382, R383, rfl, hR384, hI385, hX386, hi387, hi388⟩ := q381
        have hi389 := (hI385 54 (by decide)).trans hi86
        have hi390 := (hI385 11 (by decide)).trans hi87
        have hi391 := (hI385 51 (by decide)).trans hi88
        have hi392 := (hI385 52 (by decide)).trans hi89
        have hi393 := (hI385 53 (by decide)).trans hi90
        have hi394 := (hI385 58 (by decide)).trans hi84
        have hF_395 := hF_91.mono (cIx hI385 (by decide)) (cRx hX386 (by decide))
        have hY_396 := hY_92.mono (cIx hI385 (by decide)) (cRx hX386 (by decide))
        have hP_397 := hP_93.mono (cIx hI385 (by decide)) (cRx hX386 (by decide))
        have hEI398 := hEI94.tr hI385 (by decide)
        have hER399 := hER.tr hX386 (by decide)
        show pl _ _ _ (120, [(0, .ref m0)], [.int 0], M380) _
        exact ps_ret rfl rfl (Or.inr ⟨(15, hA), I382, R383, by
            have ec := cfl_0 (by2 f hA)
            have eh := has_0 (by2 f hA) 512
            unfold ccS
            rw [show hdS f n E hA = some (15, hA) by unfold hdS; first | ((repeat first | rw [if_pos (by omega)] | rw [if_neg (by omega)]) <;> first | rfl | omega) | ((repeat' split) <;> first | rfl | (exfalso; omega) | omega)], rfl, hR384, hEI398, hER399, hi387, hi388⟩)
      · have c_45 : ¬ ((nI (aN (by2 f hA) 1024)) = 0) := of_decide_eq_false c_45
        have n_45 : ¬ (aN (by2 f hA) 1024 = 0) := fun h9 => c_45 ((eq_nI (p := aN (by2 f hA) 1024) (n := 0) (Nat.lt_of_le_of_lt (an_le _ _) (by decide)) (by decide)).mpr h9)
        refine ps_st (S' := (49, [(2, .int 1), (0, .ref m0), (1, .int (nI (by2 f hA)))], [.int (nI (by2 f hA))], M81)) rfl rfl rfl ?_
        refine ps_st (S' := (52, [(2, .int 1), (0, .ref m0), (1, .int (nI (by2 f hA)))], [.int 16432, .int (nI (by2 f hA))], M81)) rfl rfl rfl ?_
        refine ps_st (S' := (53, [(2, .int 1), (0, .ref m0), (1, .int (nI (by2 f hA)))], [.int ((nI (by2 f hA)) &&& 16432)], M81)) rfl rfl rfl ?_
        rw [nI_an (p := by2 f hA) (k := 16432) (x := 16432) rfl]
        show pl _ _ _ (_, [(2, .int 1), (0, .ref m0), (1, .int (nI (by2 f hA)))], [.int (nI (aN (by2 f hA) 16432))], M81) _
        refine ps_if (S1 := (121, [(0, .ref m0), (2, .int 1)], [], M81)) (S2 := (56, [(2, .int 1), (0, .ref m0), (1, .int (nI (by2 f hA)))], [], M81)) rfl rfl rfl (fun c_53 => ?_) (fun c_53 => ?_)
        · have c_53 : (nI (aN (by2 f hA) 16432)) = 0 := of_decide_eq_true c_53
          have n_53 : aN (by2 f hA) 16432 = 0 := (eq_nI (p := aN (by2 f hA) 16432) (n := 0) (Nat.lt_of_le_of_lt (an_le _ _) (by decide)) (by decide)).mp c_53
          refine ps_st (S' := (122, [(0, .ref m0), (2, .int 1)], [.ref m0], M81)) rfl rfl rfl ?_
          refine ps_st (S' := (123, [(0, .ref m0), (2, .int 1)], [.ref m0, .ref m0], M81)) rfl rfl rfl ?_
          refine ps_st (S' := (124, [(0, .ref m0), (2, .int 1)], [.ref m0, .ref m0, .ref m0], M81)) rfl rfl rfl ?_
          refine pr_int (j := 54) (S' := (127, [(0, .ref m0), (2, .int 1)], [.int (nI hA), .ref m0, .ref m0], M81)) rfl hR83 rfl hi86 rfl ?_
          refine ps_st (S' := (128, [(0, .ref m0), (2, .int 1)], [.int 2, .int (nI hA), .ref m0, .ref m0], M81)) rfl rfl rfl ?_
          refine ps_st (S' := (129, [(0, .ref m0), (2, .int 1)], [.int ((nI hA) + 2), .ref m0, .ref m0], M81)) rfl rfl rfl ?_
          rw [nI_add1 (p := hA) (k := 2) (x := 2) rfl (by omega)]
          show pl _ _ _ (_, [(0, .ref m0), (2, .int 1)], [.int (nI (hA + 2)), .ref m0, .ref m0], M81) _
          refine pl_call (a := [.ref m0, .int (nI (hA + 2))]) (rest := [.ref m0]) rfl rfl rfl (rd_u2 (n := n) (f := f) (p := (hA + 2)) hR83 hF_91 (by omega)) (fun v400 M401 q402 => ?_)
          obtain ⟨rfl, rfl⟩ := q402
          show pl _ _ _ (132, [(0, .ref m0), (2, .int 1)], [.int (nI (by2 f (hA + 2))), .ref m0], M81) _
          have hu_129 := by2_lt f (hA + 2)
          refine pl_call (a := [.ref m0, .int (nI (by2 f (hA + 2)))]) (rest := []) rfl rfl rfl (rd_plainClass (n := n) (f := f) (tx := tx) (cN := cN) (A := A) (N := N) (mj := mj) (E := E) (k := (by2 f (hA + 2))) hR83 hi88 hi89 hi90 hF_91 hY_92 hP_93 (hEP) (hN) (hmj) (by2_lt _ _) (hCP)) (fun v403 M404 q405 => ?_)
          obtain ⟨rfl, rfl⟩ := q405
          show pl _ _ _ (135, [(0, .ref m0), (2, .int 1)], [.int (nI (plnN f n E (by2 f (hA + 2))))], M81) _
          refine ps_if (S1 := (151, [(0, .ref m0), (2, .int 1)], [], M81)) (S2 := (138, [(0, .ref m0), (2, .int 1)], [], M81)) rfl rfl rfl (fun c_135 => ?_) (fun c_135 => ?_)
          · have c_135 : ¬ (nI (plnN f n E (by2 f (hA + 2)))) = 0 := of_decide_eq_true c_135
            have n_135 : ¬ (plnN f n E (by2 f (hA + 2)) = 0) := fun h9 => c_135 ((eq_nI (p := plnN f n E (by2 f (hA + 2))) (n := 0) (Nat.lt_trans (le1_pln _ _ _ _) (by decide)) (by decide)).mpr h9)
            have hpl2 := pln_in (f := f) (n := n) (E := E) (k := by2 f (hA + 2)) (by omega)
            have hcp2 := hCP (by2 f (hA + 2)) hpl2.1
            refine ps_st (S' := (152, [(0, .ref m0), (2, .int 1)], [.ref m0], M81)) rfl rfl rfl ?_
            refine ps_st (S' := (153, [(0, .ref m0), (2, .int 1)], [.ref m0, .ref m0], M81)) rfl rfl rfl ?_
            refine ps_st (S' := (154, [(0, .ref m0), (2, .int 1)], [.ref m0, .ref m0, .ref m0], M81)) rfl rfl rfl ?_
            refine ps_st (S' := (155, [(0, .ref m0), (2, .int 1)], [.ref m0, .ref m0, .ref m0, .ref m0], M81)) rfl rfl rfl ?_
            refine pr_int (j := 54) (S' := (158, [(0, .ref m0), (2, .int 1)], [.int (nI hA), .ref m0, .ref m0, .ref m0], M81)) rfl hR83 rfl hi86 rfl ?_
            refine ps_st (S' := (159, [(0, .ref m0), (2, .int 1)], [.int 2, .int (nI hA), .ref m0, .ref m0, .ref m0], M81)) rfl rfl rfl ?_
            refine ps_st (S' := (160, [(0, .ref m0), (2, .int 1)], [.int ((nI hA) + 2), .ref m0, .ref m0, .ref m0], M81)) rfl rfl rfl ?_
            rw [nI_add1 (p := hA) (k := 2) (x := 2) rfl (by omega)]
            show pl _ _ _ (_, [(0, .ref m0), (2, .int 1)], [.int (nI (hA + 2)), .ref m0, .ref m0, .ref m0], M81) _
            refine pl_call (a := [.ref m0, .int (nI (hA + 2))]) (rest := [.ref m0, .ref m0]) rfl rfl rfl (rd_u2 (n := n) (f := f) (p := (hA + 2)) hR83 hF_91 (by omega)) (fun v406 M407 q408 => ?_)
            obtain ⟨rfl, rfl⟩ := q408
            show pl _ _ _ (163, [(0, .ref m0), (2, .int 1)], [.int (nI (by2 f (hA + 2))), .ref m0, .ref m0], M81) _
            have hu_160 := by2_lt f (hA + 2)
            refine pl_call (a := [.ref m0, .int (nI (by2 f (hA + 2)))]) (rest := [.ref m0]) rfl rfl rfl (rd_className (n := n) (f := f) (tx := tx) (cN := cN) (A := A) (N := N) (mj := mj) (E := E) (k := (by2 f (hA + 2))) hR83 hi88 hi89 hi90 hF_91 hY_92 hP_93 (hEP) (hN) (hmj) (by omega)) (fun v409 M410 q411 => ?_)
            obtain ⟨s412, q163_s, rfl, rfl⟩ := q411
            show pl _ _ _ (166, [(0, .ref m0), (2, .int 1)], [.int (nI s412), .ref m0], M81) _
            have hsl_163 := q163_s.1
            have htl_163 := hY_92.1.2.2.1
            refine pr_put (j := 59) rfl hR83 rfl (fun M413 I414 hR415 hi416 hI417 => ?_)
            have hi418 := (hI417 54 (by decide)).trans hi86
            have hi419 := (hI417 11 (by decide)).trans hi87
            have hi420 := (hI417 51 (by decide)).trans hi88
            have hi421 := (hI417 52 (by decide)).trans hi89
            have hi422 := (hI417 53 (by decide)).trans hi90
            have hi423 := (hI417 58 (by decide)).trans hi84
            have hF_424 := hF_91.mono (pIx hI417 (by decide)) (fun _ _ => rfl)
            have hY_425 := hY_92.mono (pIx hI417 (by decide)) (fun _ _ => rfl)
            have hP_426 := hP_93.mono (pIx hI417 (by decide)) (fun _ _ => rfl)
            have hEI427 := hEI94.put hI417 (by decide)
            show pl _ _ _ (169, [(0, .ref m0), (2, .int 1)], [], M413) _
            refine ps_st (S' := (170, [(0, .ref m0), (2, .int 1)], [.ref m0], M413)) rfl rfl rfl ?_
            refine ps_st (S' := (171, [(0, .ref m0), (2, .int 1)], [.ref m0, .ref m0], M413)) rfl rfl rfl ?_
            refine pr_int (j := 54) (S' := (174, [(0, .ref m0), (2, .int 1)], [.int (nI hA), .ref m0], M413)) rfl hR415 rfl hi418 rfl ?_
            refine ps_st (S' := (175, [(0, .ref m0), (2, .int 1)], [.int 4, .int (nI hA), .ref m0], M413)) rfl rfl rfl ?_
            refine ps_st (S' := (176, [(0, .ref m0), (2, .int 1)], [.int ((nI hA) + 4), .ref m0], M413)) rfl rfl rfl ?_
            rw [nI_add1 (p := hA) (k := 4) (x := 4) rfl (by omega)]
            show pl _ _ _ (_, [(0, .ref m0), (2, .int 1)], [.int (nI (hA + 4)), .ref m0], M413) _
            refine pl_call (a := [.ref m0, .int (nI (hA + 4))]) (rest := []) rfl rfl rfl (rd_u2 (n := n) (f := f) (p := (hA + 4)) hR415 hF_424 (by omega)) (fun v428 M429 q430 => ?_)
            obtain ⟨rfl, rfl⟩ := q430
            show pl _ _ _ (179, [(0, .ref m0), (2, .int 1)], [.int (nI (by2 f (hA + 4)))], M413) _
            have hu_176 := by2_lt f (hA + 4)
            refine ps_st (S' := (180, [(3, .int (nI (by2 f (hA + 4)))), (0, .ref m0), (2, .int 1)], [], M413)) rfl rfl rfl ?_
            refine ps_st (S' := (181, [(3, .int (nI (by2 f (hA + 4)))), (0, .ref m0), (2, .int 1)], [.ref m0], M413)) rfl rfl rfl ?_
            refine ps_st (S' := (182, [(3, .int (nI (by2 f (hA + 4)))), (0, .ref m0), (2, .int 1)], [.int (nI (by2 f (hA + 4))), .ref m0], M413)) rfl rfl rfl ?_
            refine pl_call (a := [.ref m0, .int (nI (by2 f (hA + 4)))]) (rest := []) rfl rfl rfl (rd_plainClass (n := n) (f := f) (tx := tx) (cN := cN) (A := A) (N := N) (mj := mj) (E := E) (k := (by2 f (hA + 4))) hR415 hi420 hi421 hi422 hF_424 hY_425 hP_426 (hEP) (hN) (hmj) (by2_lt _ _) (hCP)) (fun v431 M432 q433 => ?_)
            obtain ⟨rfl, rfl⟩ := q433
            show pl _ _ _ (185, [(3, .int (nI (by2 f (hA + 4)))), (0, .ref m0), (2, .int 1)], [.int (nI (plnN f n E (by2 f (hA + 4))))], M413) _
            refine ps_if (S1 := (204, [(0, .ref m0)], [], M413)) (S2 := (188, [(3, .int (nI (by2 f (hA + 4)))), (0, .ref m0), (2, .int 1)], [], M413)) rfl rfl rfl (fun c_185 => ?_) (fun c_185 => ?_)
            · have c_185 : (nI (plnN f n E (by2 f (hA + 4)))) = 0 := of_decide_eq_true c_185
              have n_185 : plnN f n E (by2 f (hA + 4)) = 0 := (eq_nI (p := plnN f n E (by2 f (hA + 4))) (n := 0) (Nat.lt_trans (le1_pln _ _ _ _) (by decide)) (by decide)).mp c_185
              refine ps_st (S' := (205, [(0, .ref m0)], [.ref m0], M413)) rfl rfl rfl ?_
              refine ps_st (S' := (207, [(0, .ref m0)], [.int 17, .ref m0], M413)) rfl rfl rfl ?_
              refine ps_st (S' := (208, [(0, .ref m0)], [.ref m0, .int 17, .ref m0], M413)) rfl rfl rfl ?_
              refine pr_int (j := 54) (S' := (211, [(0, .ref m0)], [.int (nI hA), .int 17, .ref m0], M413)) rfl hR415 rfl hi418 rfl ?_
              refine ps_st (S' := (212, [(0, .ref m0)], [.int 4, .int (nI hA), .int 17, .ref m0], M413)) rfl rfl rfl ?_
              refine ps_st (S' := (213, [(0, .ref m0)], [.int ((nI hA) + 4), .int 17, .ref m0], M413)) rfl rfl rfl ?_
              rw [nI_add1 (p := hA) (k := 4) (x := 4) rfl (by omega)]
              show pl _ _ _ (_, [(0, .ref m0)], [.int (nI (hA + 4)), .int 17, .ref m0], M413) _
              refine pl_call (a := [.ref m0, .int 17, .int (nI (hA + 4))]) (rest := []) rfl rfl rfl (rd_wrong (x1 := 17) (x2 := (nI (hA + 4))) hR415) (fun v434 M435 q436 => ?_)
              obtain ⟨I437, R438, rfl, hR439, hI440, hX441, hi442, hi443⟩ := q436
              have hi444 := (hI440 54 (by decide)).trans hi418
              have hi445 := (hI440 11 (by decide)).trans hi419
              have hi446 := (hI440 51 (by decide)).trans hi420
              have hi447 := (hI440 52 (by decide)).trans hi421
              have hi448 := (hI440 53 (by decide)).trans hi422
              have hi449 := (hI440 58 (by decide)).trans hi423
              have hi450 := (hI440 59 (by decide)).trans hi416
              have hF_451 := hF_424.mono (cIx hI440 (by decide)) (cRx hX441 (by decide))
              have hY_452 := hY_425.mono (cIx hI440 (by decide)) (cRx hX441 (by decide))
              have hP_453 := hP_426.mono (cIx hI440 (by decide)) (cRx hX441 (by decide))
              have hEI454 := hEI427.tr hI440 (by decide)
              have hER455 := hER.tr hX441 (by decide)
              show pl _ _ _ (216, [(0, .ref m0)], [.int 0], M435) _
              exact ps_ret rfl rfl (Or.inr ⟨(17, hA + 4), I437, R438, by
                  have ec := cfl_0 (by2 f hA)
                  have eh := has_0 (by2 f hA) 512
                  unfold ccS
                  rw [show hdS f n E hA = some (17, hA + 4) by unfold hdS; first | ((repeat first | rw [if_pos (by omega)] | rw [if_neg (by omega)]) <;> first | rfl | omega) | ((repeat' split) <;> first | rfl | (exfalso; omega) | omega)], rfl, hR439, hEI454, hER455, hi442, hi443⟩)
            · have c_185 : ¬ ((nI (plnN f n E (by2 f (hA + 4)))) = 0) := of_decide_eq_false c_185
              have n_185 : ¬ (plnN f n E (by2 f (hA + 4)) = 0) := fun h9 => c_185 ((eq_nI (p := plnN f n E (by2 f (hA + 4))) (n := 0) (Nat.lt_trans (le1_pln _ _ _ _) (by decide)) (by decide)).mpr h9)
              have hpl4 := pln_in (f := f) (n := n) (E := E) (k := by2 f (hA + 4)) (by omega)
              have hcp4 := hCP (by2 f (hA + 4)) hpl4.1
              refine ps_st (S' := (189, [(3, .int (nI (by2 f (hA + 4)))), (0, .ref m0), (2, .int 1)], [.int 1], M413)) rfl rfl rfl ?_
              refine ps_if (S1 := (217, [(0, .ref m0), (3, .int (nI (by2 f (hA + 4))))], [], M413)) (S2 := (192, [(3, .int (nI (by2 f (hA + 4)))), (0, .ref m0), (2, .int 1)], [], M413)) rfl rfl rfl (fun c_189 => ?_) (fun c_189 => ?_)
              · exact absurd (of_decide_eq_true c_189) (by decide)
              refine ps_st (S' := (193, [(3, .int (nI (by2 f (hA + 4)))), (0, .ref m0), (2, .int 1)], [.ref m0], M413)) rfl rfl rfl ?_
              refine ps_st (S' := (194, [(3, .int (nI (by2 f (hA + 4)))), (0, .ref m0), (2, .int 1)], [.int (nI (by2 f (hA + 4))), .ref m0], M413)) rfl rfl rfl ?_
              refine pl_call (a := [.ref m0, .int (nI (by2 f (hA + 4)))]) (rest := []) rfl rfl rfl (rd_className (n := n) (f := f) (tx := tx) (cN := cN) (A := A) (N := N) (mj := mj) (E := E) (k := (by2 f (hA + 4))) hR415 hi420 hi421 hi422 hF_424 hY_425 hP_426 (hEP) (hN) (hmj) (by omega)) (fun v456 M457 q458 => ?_)
              obtain ⟨s459, q194_s, rfl, rfl⟩ := q458
              show pl _ _ _ (197, [(3, .int (nI (by2 f (hA + 4)))), (0, .ref m0), (2, .int 1)], [.int (nI s459)], M413) _
              have hsl_194 := q194_s.1
              have htl_194 := hY_425.1.2.2.1
              have he9 := sym_eq hY_425 q194_s hs3
              rw [lt_eq.2.2.2] at he9
              refine ps_st (S' := (198, [(3, .int (nI (by2 f (hA + 4)))), (0, .ref m0), (2, .int 1)], [.ref m0, .int (nI s459)], M413)) rfl rfl rfl ?_
              refine pr_int (j := 11) (S' := (201, [(3, .int (nI (by2 f (hA + 4)))), (0, .ref m0), (2, .int 1)], [.int (nI s3), .int (nI s459)], M413)) rfl hR415 rfl hi419 rfl ?_
              refine ps_if2 (S1 := (217, [(0, .ref m0), (3, .int (nI (by2 f (hA + 4))))], [], M413)) (S2 := (204, [(0, .ref m0)], [], M413)) rfl rfl rfl (fun c_201 => ?_) (fun c_201 => ?_)
              · have c_201 : (nI s459) = (nI s3) := of_decide_eq_true c_201
                have n_201 : s459 = s3 := (eq_nI (p := s459) (n := s3) (by omega) (by omega)).mp c_201
                refine ps_st (S' := (218, [(0, .ref m0), (3, .int (nI (by2 f (hA + 4))))], [.ref m0], M413)) rfl rfl rfl ?_
                refine ps_st (S' := (219, [(0, .ref m0), (3, .int (nI (by2 f (hA + 4))))], [.ref m0, .ref m0], M413)) rfl rfl rfl ?_
                refine ps_st (S' := (220, [(0, .ref m0), (3, .int (nI (by2 f (hA + 4))))], [.int (nI (by2 f (hA + 4))), .ref m0, .ref m0], M413)) rfl rfl rfl ?_
                refine pl_call (a := [.ref m0, .int (nI (by2 f (hA + 4)))]) (rest := [.ref m0]) rfl rfl rfl (rd_className (n := n) (f := f) (tx := tx) (cN := cN) (A := A) (N := N) (mj := mj) (E := E) (k := (by2 f (hA + 4))) hR415 hi420 hi421 hi422 hF_424 hY_425 hP_426 (hEP) (hN) (hmj) (by omega)) (fun v460 M461 q462 => ?_)
                obtain ⟨s463, q220_s, rfl, rfl⟩ := q462
                show pl _ _ _ (223, [(0, .ref m0), (3, .int (nI (by2 f (hA + 4))))], [.int (nI s463), .ref m0], M413) _
                have hsl_220 := q220_s.1
                have htl_220 := hY_425.1.2.2.1
                refine pr_put (j := 60) rfl hR415 rfl (fun M464 I465 hR466 hi467 hI468 => ?_)
                have hi469 := (hI468 54 (by decide)).trans hi418
                have hi470 := (hI468 11 (by decide)).trans hi419
                have hi471 := (hI468 51 (by decide)).trans hi420
                have hi472 := (hI468 52 (by decide)).trans hi421
                have hi473 := (hI468 53 (by decide)).trans hi422
                have hi474 := (hI468 58 (by decide)).trans hi423
                have hi475 := (hI468 59 (by decide)).trans hi416
                have hF_476 := hF_424.mono (pIx hI468 (by decide)) (fun _ _ => rfl)
                have hY_477 := hY_425.mono (pIx hI468 (by decide)) (fun _ _ => rfl)
                have hP_478 := hP_426.mono (pIx hI468 (by decide)) (fun _ _ => rfl)
                have hEI479 := hEI427.put hI468 (by decide)
                show pl _ _ _ (226, [(0, .ref m0), (3, .int (nI (by2 f (hA + 4))))], [], M464) _
                have hh : hdS f n E hA = none := by
                  have ec := cfl_0 (by2 f hA)
                  have eh := has_0 (by2 f hA) 512
                  unfold hdS
                  first | ((repeat first | rw [if_pos (by omega)] | rw [if_neg (by omega)]) <;> first | rfl | omega) | ((repeat' split) <;> first | rfl | (exfalso; omega) | omega)
                refine ps_st (S' := (227, [(0, .ref m0), (3, .int (nI (by2 f (hA + 4))))], [.ref m0], M464)) rfl rfl rfl ?_
                refine ps_st (S' := (228, [(0, .ref m0), (3, .int (nI (by2 f (hA + 4))))], [.ref m0, .ref m0], M464)) rfl rfl rfl ?_
                refine pr_int (j := 54) (S' := (231, [(0, .ref m0), (3, .int (nI (by2 f (hA + 4))))], [.int (nI hA), .ref m0], M464)) rfl hR466 rfl hi469 rfl ?_
                refine ps_st (S' := (233, [(0, .ref m0), (3, .int (nI (by2 f (hA + 4))))], [.int 6, .int (nI hA), .ref m0], M464)) rfl rfl rfl ?_
                refine ps_st (S' := (234, [(0, .ref m0), (3, .int (nI (by2 f (hA + 4))))], [.int ((nI hA) + 6), .ref m0], M464)) rfl rfl rfl ?_
                rw [nI_add1 (p := hA) (k := 6) (x := 6) rfl (by omega)]
                show pl _ _ _ (_, [(0, .ref m0), (3, .int (nI (by2 f (hA + 4))))], [.int (nI (hA + 6)), .ref m0], M464) _
                refine pl_call (a := [.ref m0, .int (nI (hA + 6))]) (rest := []) rfl rfl rfl (rd_u2 (n := n) (f := f) (p := (hA + 6)) hR466 hF_476 (by omega)) (fun v480 M481 q482 => ?_)
                obtain ⟨rfl, rfl⟩ := q482
                show pl _ _ _ (237, [(0, .ref m0), (3, .int (nI (by2 f (hA + 4))))], [.int (nI (by2 f (hA + 6)))], M464) _
                have hu_234 := by2_lt f (hA + 6)
                refine ps_st (S' := (239, [(4, .int (nI (by2 f (hA + 6)))), (0, .ref m0), (3, .int (nI (by2 f (hA + 4))))], [], M464)) rfl rfl rfl ?_
                refine ps_st (S' := (240, [(4, .int (nI (by2 f (hA + 6)))), (0, .ref m0), (3, .int (nI (by2 f (hA + 4))))], [.int 0], M464)) rfl rfl rfl ?_
                refine ps_st (S' := (242, [(0, .ref m0), (4, .int (nI (by2 f (hA + 6)))), (5, .int 0)], [], M464)) rfl rfl rfl ?_
                exact (LL kf).1 (0) M464 I465 R hR466 hEI479 hER hi469 hi470 hi471 hi472 hi473 hi474 hF_476 hY_477 hP_478 (hh) (by omega) (rfl) (fun j hj => by omega)
              · have c_201 : ¬ ((nI s459) = (nI s3)) := of_decide_eq_false c_201
                have n_201 : ¬ (s459 = s3) := fun h9 => c_201 ((eq_nI (p := s459) (n := s3) (by omega) (by omega)).mpr h9)
                refine ps_st (S' := (205, [(0, .ref m0)], [.ref m0], M413)) rfl rfl rfl ?_
                refine ps_st (S' := (207, [(0, .ref m0)], [.int 17, .ref m0], M413)) rfl rfl rfl ?_
                refine ps_st (S' := (208, [(0, .ref m0)], [.ref m0, .int 17, .ref m0], M413)) rfl rfl rfl ?_
                refine pr_int (j := 54) (S' := (211, [(0, .ref m0)], [.int (nI hA), .int 17, .ref m0], M413)) rfl hR415 rfl hi418 rfl ?_
                refine ps_st (S' := (212, [(0, .ref m0)], [.int 4, .int (nI hA), .int 17, .ref m0], M413)) rfl rfl rfl ?_
                refine ps_st (S' := (213, [(0, .ref m0)], [.int ((nI hA) + 4), .int 17, .ref m0], M413)) rfl rfl rfl ?_
                rw [nI_add1 (p := hA) (k := 4) (x := 4) rfl (by omega)]
                show pl _ _ _ (_, [(0, .ref m0)], [.int (nI (hA + 4)), .int 17, .ref m0], M413) _
                refine pl_call (a := [.ref m0, .int 17, .int (nI (hA + 4))]) (rest := []) rfl rfl rfl (rd_wrong (x1 := 17) (x2 := (nI (hA + 4))) hR415) (fun v483 M484 q485 => ?_)
                obtain ⟨I486, R487, rfl, hR488, hI489, hX490, hi491, hi492⟩ := q485
                have hi493 := (hI489 54 (by decide)).trans hi418
                have hi494 := (hI489 11 (by decide)).trans hi419
                have hi495 := (hI489 51 (by decide)).trans hi420
                have hi496 := (hI489 52 (by decide)).trans hi421
                have hi497 := (hI489 53 (by decide)).trans hi422
                have hi498 := (hI489 58 (by decide)).trans hi423
                have hi499 := (hI489 59 (by decide)).trans hi416
                have hF_500 := hF_424.mono (cIx hI489 (by decide)) (cRx hX490 (by decide))
                have hY_501 := hY_425.mono (cIx hI489 (by decide)) (cRx hX490 (by decide))
                have hP_502 := hP_426.mono (cIx hI489 (by decide)) (cRx hX490 (by decide))
                have hEI503 := hEI427.tr hI489 (by decide)
                have hER504 := hER.tr hX490 (by decide)
                show pl _ _ _ (216, [(0, .ref m0)], [.int 0], M484) _
                exact ps_ret rfl rfl (Or.inr ⟨(17, hA + 4), I486, R487, by
                    have ec := cfl_0 (by2 f hA)
                    have eh := has_0 (by2 f hA) 512
                    unfold ccS
                    rw [show hdS f n E hA = some (17, hA + 4) by unfold hdS; first | ((repeat first | rw [if_pos (by omega)] | rw [if_neg (by omega)]) <;> first | rfl | omega) | ((repeat' split) <;> first | rfl | (exfalso; omega) | omega)], rfl, hR488, hEI503, hER504, hi491, hi492⟩)
          · have c_135 : ¬ (¬ (nI (plnN f n E (by2 f (hA + 2)))) = 0) := of_decide_eq_false c_135
            have n_135 : plnN f n E (by2 f (hA + 2)) = 0 := (eq_nI (p := plnN f n E (by2 f (hA + 2))) (n := 0) (Nat.lt_trans (le1_pln _ _ _ _) (by decide)) (by decide)).mp (Decidable.not_not.mp c_135)
            refine ps_st (S' := (139, [(0, .ref m0), (2, .int 1)], [.ref m0], M81)) rfl rfl rfl ?_
            refine ps_st (S' := (141, [(0, .ref m0), (2, .int 1)], [.int 16, .ref m0], M81)) rfl rfl rfl ?_
            refine ps_st (S' := (142, [(0, .ref m0), (2, .int 1)], [.ref m0, .int 16, .ref m0], M81)) rfl rfl rfl ?_
            refine pr_int (j := 54) (S' := (145, [(0, .ref m0), (2, .int 1)], [.int (nI hA), .int 16, .ref m0], M81)) rfl hR83 rfl hi86 rfl ?_
            refine ps_st (S' := (146, [(0, .ref m0), (2, .int 1)], [.int 2, .int (nI hA), .int 16, .ref m0], M81)) rfl rfl rfl ?_
            refine ps_st (S' := (147, [(0, .ref m0), (2, .int 1)], [.int ((nI hA) + 2), .int 16, .ref m0], M81)) rfl rfl rfl ?_
            rw [nI_add1 (p := hA) (k := 2) (x := 2) rfl (by omega)]
            show pl _ _ _ (_, [(0, .ref m0), (2, .int 1)], [.int (nI (hA + 2)), .int 16, .ref m0], M81) _
            refine pl_call (a := [.ref m0, .int 16, .int (nI (hA + 2))]) (rest := []) rfl rfl rfl (rd_wrong (x1 := 16) (x2 := (nI (hA + 2))) hR83) (fun v505 M506 q507 => ?_)
            obtain ⟨I508, R509, rfl, hR510, hI511, hX512, hi513, hi514⟩ := q507
            have hi515 := (hI511 54 (by decide)).trans hi86
            have hi516 := (hI511 11 (by decide)).trans hi87
            have hi517 := (hI511 51 (by decide)).trans hi88
            have hi518 := (hI511 52 (by decide)).trans hi89
            have hi519 := (hI511 53 (by decide)).trans hi90
            have hi520 := (hI511 58 (by decide)).trans hi84
            have hF_521 := hF_91.mono (cIx hI511 (by decide)) (cRx hX512 (by decide))
            have hY_522 := hY_92.mono (cIx hI511 (by decide)) (cRx hX512 (by decide))
            have hP_523 := hP_93.mono (cIx hI511 (by decide)) (cRx hX512 (by decide))
            have hEI524 := hEI94.tr hI511 (by decide)
            have hER525 := hER.tr hX512 (by decide)
            show pl _ _ _ (150, [(0, .ref m0), (2, .int 1)], [.int 0], M506) _
            exact ps_ret rfl rfl (Or.inr ⟨(16, hA + 2), I508, R509, by
                have ec := cfl_0 (by2 f hA)
                have eh := has_0 (by2 f hA) 512
                unfold ccS
                rw [show hdS f n E hA = some (16, hA + 2) by unfold hdS; first | ((repeat first | rw [if_pos (by omega)] | rw [if_neg (by omega)]) <;> first | rfl | omega) | ((repeat' split) <;> first | rfl | (exfalso; omega) | omega)], rfl, hR510, hEI524, hER525, hi513, hi514⟩)
        · have c_53 : ¬ ((nI (aN (by2 f hA) 16432)) = 0) := of_decide_eq_false c_53
          have n_53 : ¬ (aN (by2 f hA) 16432 = 0) := fun h9 => c_53 ((eq_nI (p := aN (by2 f hA) 16432) (n := 0) (Nat.lt_of_le_of_lt (an_le _ _) (by decide)) (by decide)).mpr h9)
          refine ps_st (S' := (82, [(0, .ref m0), (1, .int (nI (by2 f hA))), (2, .int 1)], [], M81)) rfl rfl rfl ?_
          refine ps_st (S' := (83, [(0, .ref m0), (1, .int (nI (by2 f hA))), (2, .int 1)], [.int 1], M81)) rfl rfl rfl ?_
          refine ps_if (S1 := (110, [(0, .ref m0)], [], M81)) (S2 := (86, [(0, .ref m0), (1, .int (nI (by2 f hA))), (2, .int 1)], [], M81)) rfl rfl rfl (fun c_83 => ?_) (fun c_83 => ?_)
          · exact absurd (of_decide_eq_true c_83) (by decide)
          refine ps_st (S' := (87, [(0, .ref m0), (1, .int (nI (by2 f hA))), (2, .int 1)], [.int (nI (by2 f hA))], M81)) rfl rfl rfl ?_
          refine ps_st (S' := (90, [(0, .ref m0), (1, .int (nI (by2 f hA))), (2, .int 1)], [.int 32768, .int (nI (by2 f hA))], M81)) rfl rfl rfl ?_
          refine ps_st (S' := (91, [(0, .ref m0), (1, .int (nI (by2 f hA))), (2, .int 1)], [.int ((nI (by2 f hA)) &&& 32768)], M81)) rfl rfl rfl ?_
          rw [nI_an (p := by2 f hA) (k := 32768) (x := 32768) rfl]
          show pl _ _ _ (_, [(0, .ref m0), (1, .int (nI (by2 f hA))), (2, .int 1)], [.int (nI (aN (by2 f hA) 32768))], M81) _
          refine ps_if (S1 := (110, [(0, .ref m0)], [], M81)) (S2 := (94, [(0, .ref m0), (1, .int (nI (by2 f hA))), (2, .int 1)], [], M81)) rfl rfl rfl (fun c_91 => ?_) (fun c_91 => ?_)
          · exact absurd (of_decide_eq_true c_91) (fun h9 => h9 ((eq_nI (p := aN (by2 f hA) 32768) (n := 0) (Nat.lt_of_le_of_lt (an_le _ _) (by decide)) (by decide)).mpr (by omega)))
          refine ps_st (S' := (95, [(0, .ref m0), (1, .int (nI (by2 f hA))), (2, .int 1)], [.int (nI (by2 f hA))], M81)) rfl rfl rfl ?_
          refine ps_st (S' := (98, [(0, .ref m0), (1, .int (nI (by2 f hA))), (2, .int 1)], [.int 1024, .int (nI (by2 f hA))], M81)) rfl rfl rfl ?_
          refine ps_st (S' := (99, [(0, .ref m0), (1, .int (nI (by2 f hA))), (2, .int 1)], [.int ((nI (by2 f hA)) &&& 1024)], M81)) rfl rfl rfl ?_
          rw [nI_an (p := by2 f hA) (k := 1024) (x := 1024) rfl]
          show pl _ _ _ (_, [(0, .ref m0), (1, .int (nI (by2 f hA))), (2, .int 1)], [.int (nI (aN (by2 f hA) 1024))], M81) _
          refine ps_if (S1 := (110, [(0, .ref m0)], [], M81)) (S2 := (102, [(0, .ref m0), (1, .int (nI (by2 f hA))), (2, .int 1)], [], M81)) rfl rfl rfl (fun c_99 => ?_) (fun c_99 => ?_)
          · exact absurd (of_decide_eq_true c_99) (show ¬ ((nI (aN (by2 f hA) 1024)) = 0) from fun h9 => absurd ((eq_nI (p := aN (by2 f hA) 1024) (n := 0) (Nat.lt_of_le_of_lt (an_le _ _) (by decide)) (by decide)).mp h9) (by omega))
          refine ps_st (S' := (103, [(0, .ref m0), (1, .int (nI (by2 f hA))), (2, .int 1)], [.int (nI (by2 f hA))], M81)) rfl rfl rfl ?_
          refine ps_st (S' := (106, [(0, .ref m0), (1, .int (nI (by2 f hA))), (2, .int 1)], [.int 16400, .int (nI (by2 f hA))], M81)) rfl rfl rfl ?_
          refine ps_st (S' := (107, [(0, .ref m0), (1, .int (nI (by2 f hA))), (2, .int 1)], [.int ((nI (by2 f hA)) &&& 16400)], M81)) rfl rfl rfl ?_
          rw [nI_an (p := by2 f hA) (k := 16400) (x := 16400) rfl]
          show pl _ _ _ (_, [(0, .ref m0), (1, .int (nI (by2 f hA))), (2, .int 1)], [.int (nI (aN (by2 f hA) 16400))], M81) _
          refine ps_if (S1 := (110, [(0, .ref m0)], [], M81)) (S2 := (110, [(0, .ref m0)], [], M81)) rfl rfl rfl (fun c_107 => ?_) (fun c_107 => ?_)
          · have c_107 : ¬ (nI (aN (by2 f hA) 16400)) = 0 := of_decide_eq_true c_107
            have n_107 : ¬ (aN (by2 f hA) 16400 = 0) := fun h9 => c_107 ((eq_nI (p := aN (by2 f hA) 16400) (n := 0) (Nat.lt_of_le_of_lt (an_le _ _) (by decide)) (by decide)).mpr h9)
            refine ps_st (S' := (111, [(0, .ref m0)], [.ref m0], M81)) rfl rfl rfl ?_
            refine ps_st (S' := (113, [(0, .ref m0)], [.int 15, .ref m0], M81)) rfl rfl rfl ?_
            refine ps_st (S' := (114, [(0, .ref m0)], [.ref m0, .int 15, .ref m0], M81)) rfl rfl rfl ?_
            refine pr_int (j := 54) (S' := (117, [(0, .ref m0)], [.int (nI hA), .int 15, .ref m0], M81)) rfl hR83 rfl hi86 rfl ?_
            refine pl_call (a := [.ref m0, .int 15, .int (nI hA)]) (rest := []) rfl rfl rfl (rd_wrong (x1 := 15) (x2 := (nI hA)) hR83) (fun v526 M527 q528 => ?_)
            obtain ⟨I529, R530, rfl, hR531, hI532, hX533, hi534, hi535⟩ := q528
            have hi536 := (hI532 54 (by decide)).trans hi86
            have hi537 := (hI532 11 (by decide)).trans hi87
            have hi538 := (hI532 51 (by decide)).trans hi88
            have hi539 := (hI532 52 (by decide)).trans hi89
            have hi540 := (hI532 53 (by decide)).trans hi90
            have hi541 := (hI532 58 (by decide)).trans hi84
            have hF_542 := hF_91.mono (cIx hI532 (by decide)) (cRx hX533 (by decide))
            have hY_543 := hY_92.mono (cIx hI532 (by decide)) (cRx hX533 (by decide))
            have hP_544 := hP_93.mono (cIx hI532 (by decide)) (cRx hX533 (by decide))
            have hEI545 := hEI94.tr hI532 (by decide)
            have hER546 := hER.tr hX533 (by decide)
            show pl _ _ _ (120, [(0, .ref m0)], [.int 0], M527) _
            exact ps_ret rfl rfl (Or.inr ⟨(15, hA), I529, R530, by
                have ec := cfl_0 (by2 f hA)
                have eh := has_0 (by2 f hA) 512
                unfold ccS
                rw [show hdS f n E hA = some (15, hA) by unfold hdS; first | ((repeat first | rw [if_pos (by omega)] | rw [if_neg (by omega)]) <;> first | rfl | omega) | ((repeat' split) <;> first | rfl | (exfalso; omega) | omega)], rfl, hR531, hEI545, hER546, hi534, hi535⟩)
          · have c_107 : ¬ (¬ (nI (aN (by2 f hA) 16400)) = 0) := of_decide_eq_false c_107
            have n_107 : aN (by2 f hA) 16400 = 0 := (eq_nI (p := aN (by2 f hA) 16400) (n := 0) (Nat.lt_of_le_of_lt (an_le _ _) (by decide)) (by decide)).mp (Decidable.not_not.mp c_107)
            refine ps_st (S' := (111, [(0, .ref m0)], [.ref m0], M81)) rfl rfl rfl ?_
            refine ps_st (S' := (113, [(0, .ref m0)], [.int 15, .ref m0], M81)) rfl rfl rfl ?_
            refine ps_st (S' := (114, [(0, .ref m0)], [.ref m0, .int 15, .ref m0], M81)) rfl rfl rfl ?_
            refine pr_int (j := 54) (S' := (117, [(0, .ref m0)], [.int (nI hA), .int 15, .ref m0], M81)) rfl hR83 rfl hi86 rfl ?_
            refine pl_call (a := [.ref m0, .int 15, .int (nI hA)]) (rest := []) rfl rfl rfl (rd_wrong (x1 := 15) (x2 := (nI hA)) hR83) (fun v547 M548 q549 => ?_)
            obtain ⟨I550, R551, rfl, hR552, hI553, hX554, hi555, hi556⟩ := q549
            have hi557 := (hI553 54 (by decide)).trans hi86
            have hi558 := (hI553 11 (by decide)).trans hi87
            have hi559 := (hI553 51 (by decide)).trans hi88
            have hi560 := (hI553 52 (by decide)).trans hi89
            have hi561 := (hI553 53 (by decide)).trans hi90
            have hi562 := (hI553 58 (by decide)).trans hi84
            have hF_563 := hF_91.mono (cIx hI553 (by decide)) (cRx hX554 (by decide))
            have hY_564 := hY_92.mono (cIx hI553 (by decide)) (cRx hX554 (by decide))
            have hP_565 := hP_93.mono (cIx hI553 (by decide)) (cRx hX554 (by decide))
            have hEI566 := hEI94.tr hI553 (by decide)
            have hER567 := hER.tr hX554 (by decide)
            show pl _ _ _ (120, [(0, .ref m0)], [.int 0], M548) _
            exact ps_ret rfl rfl (Or.inr ⟨(15, hA), I550, R551, by
                have ec := cfl_0 (by2 f hA)
                have eh := has_0 (by2 f hA) 512
                unfold ccS
                rw [show hdS f n E hA = some (15, hA) by unfold hdS; first | ((repeat first | rw [if_pos (by omega)] | rw [if_neg (by omega)]) <;> first | rfl | omega) | ((repeat' split) <;> first | rfl | (exfalso; omega) | omega)], rfl, hR552, hEI566, hER567, hi555, hi556⟩)
