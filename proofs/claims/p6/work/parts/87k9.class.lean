section
/-! flags (my own text) -/
section FLA
theorem an_pow (x i : Nat) : aN x (2 ^ i) = 0 ∨ aN x (2 ^ i) = 2 ^ i := by
  unfold aN
  cases h : x.testBit i with
  | false =>
    left
    apply Nat.eq_of_testBit_eq
    intro j
    rw [Nat.testBit_and, Nat.testBit_two_pow]
    by_cases e : i = j
    · subst e
      simp [h]
    · simp [e]
  | true =>
    right
    apply Nat.eq_of_testBit_eq
    intro j
    rw [Nat.testBit_and, Nat.testBit_two_pow]
    by_cases e : i = j
    · subst e
      simp [h]
    · simp [e]
theorem an_or (x a b : Nat) : aN x (a ||| b) = aN x a ||| aN x b := Nat.and_or_distrib_left x a b
theorem an_an (x a b : Nat) : aN (aN x a) b = aN x (a &&& b) := Nat.and_assoc x a b
theorem hall_1040 (x : Nat) : hallN x 1040 = 0 ↔ ¬ (¬ aN x 16 = 0 ∧ ¬ aN x 1024 = 0) := by
  have h1 : aN x 16 = 0 ∨ aN x 16 = 16 := an_pow x 4
  have h2 : aN x 1024 = 0 ∨ aN x 1024 = 1024 := an_pow x 10
  have h3 : aN x 1040 = aN x 16 ||| aN x 1024 := an_or x 16 1024
  unfold hallN
  rw [h3]
  rcases h1 with h1 | h1 <;> rcases h2 with h2 | h2 <;> rw [h1, h2] <;> decide
theorem hall_80 (x : Nat) : hallN x 80 = 0 ↔ ¬ (¬ aN x 16 = 0 ∧ ¬ aN x 64 = 0) := by
  have h1 : aN x 16 = 0 ∨ aN x 16 = 16 := an_pow x 4
  have h2 : aN x 64 = 0 ∨ aN x 64 = 64 := an_pow x 6
  have h3 : aN x 80 = aN x 16 ||| aN x 64 := an_or x 16 64
  unfold hallN
  rw [h3]
  rcases h1 with h1 | h1 <;> rcases h2 with h2 | h2 <;> rw [h1, h2] <;> decide
theorem hall_1025 (x : Nat) : hallN x 1025 = 0 ↔ ¬ (¬ aN x 1 = 0 ∧ ¬ aN x 1024 = 0) := by
  have h1 : aN x 1 = 0 ∨ aN x 1 = 1 := an_pow x 0
  have h2 : aN x 1024 = 0 ∨ aN x 1024 = 1024 := an_pow x 10
  have h3 : aN x 1025 = aN x 1 ||| aN x 1024 := an_or x 1 1024
  unfold hallN
  rw [h3]
  rcases h1 with h1 | h1 <;> rcases h2 with h2 | h2 <;> rw [h1, h2] <;> decide
theorem one_7 (x : Nat) : oneN x = 0 ↔ (¬ aN x 1 = 0 ∧ ¬ aN x 2 = 0) ∨ (¬ aN x 1 = 0 ∧ ¬ aN x 4 = 0) ∨ (¬ aN x 2 = 0 ∧ ¬ aN x 4 = 0) := by
  have h1 : aN x 1 = 0 ∨ aN x 1 = 1 := an_pow x 0
  have h2 : aN x 2 = 0 ∨ aN x 2 = 2 := an_pow x 1
  have h4 : aN x 4 = 0 ∨ aN x 4 = 4 := an_pow x 2
  have h3 : aN x 7 = (aN x 1 ||| aN x 2) ||| aN x 4 := by
    rw [← an_or, ← an_or]
    rfl
  unfold oneN
  rw [h3]
  rcases h1 with h1 | h1 <;> rcases h2 with h2 | h2 <;> rcases h4 with h4 | h4 <;> rw [h1, h2, h4] <;> decide
theorem has_0 (x w : Nat) : hasN x w = 0 ↔ aN x w = 0 := by
  unfold hasN
  split <;> omega
theorem ffl_25 (x : Nat) (h : aN x 16607 = 25) : ¬ oneN x = 0 ∧ hallN x 80 = 0 := by
  have e1 : aN (aN x 16607) 1 = aN x 1 := an_an x 16607 1
  have e2 : aN (aN x 16607) 2 = aN x 2 := an_an x 16607 2
  have e4 : aN (aN x 16607) 4 = aN x 4 := an_an x 16607 4
  have e6 : aN (aN x 16607) 64 = aN x 64 := an_an x 16607 64
  rw [h] at e1 e2 e4 e6
  rw [one_7, hall_80, ← e1, ← e2, ← e4, ← e6]
  exact ⟨by decide, fun h9 => h9.2 (by decide)⟩
def sevN (x : Nat) : Nat := if oneN x = 0 then 1 else 0
theorem le1_sev (x : Nat) : sevN x < 2 := by unfold sevN; split <;> decide
theorem sev_0 (x : Nat) : sevN x = 0 ↔ ¬ oneN x = 0 := by
  unfold sevN
  split <;> omega
theorem cfl_0 (x : Nat) : cflN x = 0 ↔ (¬ aN x 32768 = 0 ∨ (¬ aN x 512 = 0 ∧ (aN x 1024 = 0 ∨ ¬ aN x 16432 = 0)) ∨ (aN x 512 = 0 ∧ (¬ aN x 8192 = 0 ∨ (¬ aN x 16 = 0 ∧ ¬ aN x 1024 = 0)))) := by
  have h := hall_1040 x
  unfold cflN
  repeat' split
  all_goals omega
/-- whether a method's flags fit, its name being neither <clinit> -/
def fitN (mj c x i : Nat) : Nat := if ¬ i = 0 then (if ¬ oneN x = 0 ∧ hasN x 1400 = 0 then 1 else 0) else
  if ¬ hasN x 1024 = 0 ∧ absN mj x = 0 then 0 else if ¬ hasN c 512 = 0 then imhN mj x else oneN x
theorem abs_0 (mj x : Nat) : absN mj x = 0 ↔ (¬ aN x 314 = 0 ∨ (46 ≤ mj ∧ mj ≤ 60 ∧ ¬ aN x 2048 = 0)) := by
  have h1 := has_0 x 314
  have h2 := has_0 x 2048
  unfold absN
  repeat' split
  all_goals omega
theorem imh_0 (mj x : Nat) : imhN mj x = 0 ↔ (¬ aN x 308 = 0 ∨ (mj < 52 ∧ (aN x 1 = 0 ∨ aN x 1024 = 0 ∨ ¬ aN x 8 = 0)) ∨ (52 ≤ mj ∧ (aN x 1 = 0 ↔ aN x 2 = 0))) := by
  have h1 := has_0 x 308
  have h2 := has_0 x 8
  have h3 := has_0 x 1
  have h4 := has_0 x 2
  have b3 := le1_has x 1
  have b4 := le1_has x 2
  have h5 := hall_1025 x
  unfold imhN
  repeat' split
  all_goals omega
end FLA

theorem le1_fit (mj c x i : Nat) : fitN mj c x i < 2 := by
  have h1 := le1_imh mj x
  have h2 := le1_one x
  unfold fitN
  repeat' split
  all_goals omega
section FLB
variable {f : Nat → Int32} {n : Nat} {E : List (Nat × Nat)} {k m : Nat}
/-- head and interfaces -/
def ccS (f : Nat → Int32) (n : Nat) (E : List (Nat × Nat)) (h : Nat) : Option (Nat × Nat) := match hdS f n E h with
  | some e => some e
  | none => ifS f n E (h + 8) (by2 f (h + 6)) 0
theorem pln_in (h : ¬ plnN f n E k = 0) : tg f E k = 7 ∧ ¬ (tX f n E (fi f E k)).getD 0 0 = 91 := by
  unfold plnN at h
  split at h
  · assumption
  · exact absurd rfl h
theorem sm_sym {tx : List (List Nat)} {cN : Nat} {A : Nat → Nat} {I : rI} {R : rR} {s t : Nat} (h : SYT tx cN A I R) (hs : s < tx.length ∧ tx.getD s [] = tX f n E k) (ht : t < tx.length ∧ tx.getD t [] = tX f n E m) (hk : tg f E k = 1) (hm : tg f E m = 1) : s = t ↔ ¬ smN f n E k m = 0 := by
  rw [sym_eq h hs ht]
  unfold eqN smN
  by_cases e : tX f n E k = tX f n E m
  · rw [if_pos e, if_pos (Or.inr ⟨hk, hm, e⟩)]
  · rw [if_neg e, if_neg]
    rintro (h9 | h9)
    · exact e (by rw [h9])
    · exact e h9.2.2
end FLB
set_option maxHeartbeats 1000000 in
theorem rd_several {g : xe_G} {M : mi_H} {x : Nat}    : pt (mT g) 242 [.int (nI x), .int 1, .int 2, .int 4] M (fun v M' => (v = some (.int (nI (sevN x))) ∧ M = M')) := by
  refine pt_in (b := mb_242 g) rfl (fun kf => ?_)
  show pl (mT g) kf (mb_242 g).2 (0, [(0, .int (nI x)), (1, .int 1), (2, .int 2), (3, .int 4)], [], M) _
  refine ps_st (S' := (1, [(0, .int (nI x)), (1, .int 1), (2, .int 2), (3, .int 4)], [.int (nI x)], M)) rfl rfl rfl ?_
  refine ps_st (S' := (2, [(0, .int (nI x)), (1, .int 1), (2, .int 2), (3, .int 4)], [.int 1, .int (nI x)], M)) rfl rfl rfl ?_
  refine ps_st (S' := (3, [(0, .int (nI x)), (1, .int 1), (2, .int 2), (3, .int 4)], [.int ((nI x) &&& 1)], M)) rfl rfl rfl ?_
  rw [nI_an (p := x) (k := 1) (x := 1) rfl]
  show pl _ _ _ (_, [(0, .int (nI x)), (1, .int 1), (2, .int 2), (3, .int 4)], [.int (nI (aN x 1))], M) _
  refine ps_if (S1 := (10, [(0, .int (nI x)), (1, .int 1), (2, .int 2), (3, .int 4)], [], M)) (S2 := (6, [(0, .int (nI x)), (1, .int 1), (2, .int 2), (3, .int 4)], [], M)) rfl rfl rfl (fun c_3 => ?_) (fun c_3 => ?_)
  · have c_3 : (nI (aN x 1)) = 0 := of_decide_eq_true c_3
    have n_3 : aN x 1 = 0 := (eq_nI (p := aN x 1) (n := 0) (Nat.lt_of_le_of_lt (an_le _ _) (by decide)) (by decide)).mp c_3
    refine ps_st (S' := (11, [(0, .int (nI x)), (2, .int 2), (3, .int 4)], [.int 0], M)) rfl rfl rfl ?_
    refine ps_st (S' := (12, [(0, .int (nI x)), (2, .int 2), (3, .int 4)], [.int (nI x), .int 0], M)) rfl rfl rfl ?_
    refine ps_st (S' := (13, [(0, .int (nI x)), (2, .int 2), (3, .int 4)], [.int 2, .int (nI x), .int 0], M)) rfl rfl rfl ?_
    refine ps_st (S' := (14, [(0, .int (nI x)), (2, .int 2), (3, .int 4)], [.int ((nI x) &&& 2), .int 0], M)) rfl rfl rfl ?_
    rw [nI_an (p := x) (k := 2) (x := 2) rfl]
    show pl _ _ _ (_, [(0, .int (nI x)), (2, .int 2), (3, .int 4)], [.int (nI (aN x 2)), .int 0], M) _
    refine ps_if (S1 := (21, [(0, .int (nI x)), (2, .int 2), (3, .int 4)], [.int 0], M)) (S2 := (17, [(0, .int (nI x)), (2, .int 2), (3, .int 4)], [.int 0], M)) rfl rfl rfl (fun c_14 => ?_) (fun c_14 => ?_)
    · have c_14 : (nI (aN x 2)) = 0 := of_decide_eq_true c_14
      have n_14 : aN x 2 = 0 := (eq_nI (p := aN x 2) (n := 0) (Nat.lt_of_le_of_lt (an_le _ _) (by decide)) (by decide)).mp c_14
      refine ps_st (S' := (22, [(0, .int (nI x)), (3, .int 4)], [.int 0, .int 0], M)) rfl rfl rfl ?_
      refine ps_st (S' := (23, [(0, .int (nI x)), (3, .int 4)], [.int (0 + 0)], M)) rfl rfl rfl ?_
      refine ps_st (S' := (24, [(0, .int (nI x)), (3, .int 4)], [.int (nI x), .int (0 + 0)], M)) rfl rfl rfl ?_
      refine ps_st (S' := (25, [(0, .int (nI x)), (3, .int 4)], [.int 4, .int (nI x), .int (0 + 0)], M)) rfl rfl rfl ?_
      refine ps_st (S' := (26, [(0, .int (nI x)), (3, .int 4)], [.int ((nI x) &&& 4), .int (0 + 0)], M)) rfl rfl rfl ?_
      rw [nI_an (p := x) (k := 4) (x := 4) rfl]
      show pl _ _ _ (_, [(0, .int (nI x)), (3, .int 4)], [.int (nI (aN x 4)), .int (0 + 0)], M) _
      refine ps_if (S1 := (33, [(0, .int (nI x)), (3, .int 4)], [.int (0 + 0)], M)) (S2 := (29, [(0, .int (nI x)), (3, .int 4)], [.int (0 + 0)], M)) rfl rfl rfl (fun c_26 => ?_) (fun c_26 => ?_)
      · have c_26 : (nI (aN x 4)) = 0 := of_decide_eq_true c_26
        have n_26 : aN x 4 = 0 := (eq_nI (p := aN x 4) (n := 0) (Nat.lt_of_le_of_lt (an_le _ _) (by decide)) (by decide)).mp c_26
        refine ps_st (S' := (34, [], [.int 0, .int (0 + 0)], M)) rfl rfl rfl ?_
        refine ps_st (S' := (35, [], [.int ((0 + 0) + 0)], M)) rfl rfl rfl ?_
        refine ps_st (S' := (36, [], [.int 1, .int ((0 + 0) + 0)], M)) rfl rfl rfl ?_
        refine ps_if2 (S1 := (43, [], [], M)) (S2 := (39, [], [], M)) rfl rfl rfl (fun c_36 => ?_) (fun c_36 => ?_)
        · have c_36 : ((0 + 0) + 0) ≤ 1 := of_decide_eq_true c_36
          refine ps_st (S' := (44, [], [.int 0], M)) rfl rfl rfl ?_
          exact ps_ret rfl rfl (⟨congrArg (fun x => some (Value.int (nI x))) (show 0 = sevN x from by
              have e1 := one_7 x
              have e2 := sev_0 x
              have e3 := le1_sev x
              omega), rfl⟩)
        · have c_36 : ¬ (((0 + 0) + 0) ≤ 1) := of_decide_eq_false c_36
          refine ps_st (S' := (40, [], [.int 1], M)) rfl rfl rfl ?_
          refine ps_st (S' := (44, [], [.int 1], M)) rfl rfl rfl ?_
          exact ps_ret rfl rfl (⟨congrArg (fun x => some (Value.int (nI x))) (show 1 = sevN x from by
              have e1 := one_7 x
              have e2 := sev_0 x
              have e3 := le1_sev x
              omega), rfl⟩)
      · have c_26 : ¬ ((nI (aN x 4)) = 0) := of_decide_eq_false c_26
        have n_26 : ¬ (aN x 4 = 0) := fun h9 => c_26 ((eq_nI (p := aN x 4) (n := 0) (Nat.lt_of_le_of_lt (an_le _ _) (by decide)) (by decide)).mpr h9)
        refine ps_st (S' := (30, [(0, .int (nI x)), (3, .int 4)], [.int 1, .int (0 + 0)], M)) rfl rfl rfl ?_
        refine ps_st (S' := (34, [], [.int 1, .int (0 + 0)], M)) rfl rfl rfl ?_
        refine ps_st (S' := (35, [], [.int ((0 + 0) + 1)], M)) rfl rfl rfl ?_
        refine ps_st (S' := (36, [], [.int 1, .int ((0 + 0) + 1)], M)) rfl rfl rfl ?_
        refine ps_if2 (S1 := (43, [], [], M)) (S2 := (39, [], [], M)) rfl rfl rfl (fun c_36 => ?_) (fun c_36 => ?_)
        · have c_36 : ((0 + 0) + 1) ≤ 1 := of_decide_eq_true c_36
          refine ps_st (S' := (44, [], [.int 0], M)) rfl rfl rfl ?_
          exact ps_ret rfl rfl (⟨congrArg (fun x => some (Value.int (nI x))) (show 0 = sevN x from by
              have e1 := one_7 x
              have e2 := sev_0 x
              have e3 := le1_sev x
              omega), rfl⟩)
        · have c_36 : ¬ (((0 + 0) + 1) ≤ 1) := of_decide_eq_false c_36
          refine ps_st (S' := (40, [], [.int 1], M)) rfl rfl rfl ?_
          refine ps_st (S' := (44, [], [.int 1], M)) rfl rfl rfl ?_
          exact ps_ret rfl rfl (⟨congrArg (fun x => some (Value.int (nI x))) (show 1 = sevN x from by
              have e1 := one_7 x
              have e2 := sev_0 x
              have e3 := le1_sev x
              omega), rfl⟩)
    · have c_14 : ¬ ((nI (aN x 2)) = 0) := of_decide_eq_false c_14
      have n_14 : ¬ (aN x 2 = 0) := fun h9 => c_14 ((eq_nI (p := aN x 2) (n := 0) (Nat.lt_of_le_of_lt (an_le _ _) (by decide)) (by decide)).mpr h9)
      refine ps_st (S' := (18, [(0, .int (nI x)), (2, .int 2), (3, .int 4)], [.int 1, .int 0], M)) rfl rfl rfl ?_
      refine ps_st (S' := (22, [(0, .int (nI x)), (3, .int 4)], [.int 1, .int 0], M)) rfl rfl rfl ?_
      refine ps_st (S' := (23, [(0, .int (nI x)), (3, .int 4)], [.int (0 + 1)], M)) rfl rfl rfl ?_
      refine ps_st (S' := (24, [(0, .int (nI x)), (3, .int 4)], [.int (nI x), .int (0 + 1)], M)) rfl rfl rfl ?_
      refine ps_st (S' := (25, [(0, .int (nI x)), (3, .int 4)], [.int 4, .int (nI x), .int (0 + 1)], M)) rfl rfl rfl ?_
      refine ps_st (S' := (26, [(0, .int (nI x)), (3, .int 4)], [.int ((nI x) &&& 4), .int (0 + 1)], M)) rfl rfl rfl ?_
      rw [nI_an (p := x) (k := 4) (x := 4) rfl]
      show pl _ _ _ (_, [(0, .int (nI x)), (3, .int 4)], [.int (nI (aN x 4)), .int (0 + 1)], M) _
      refine ps_if (S1 := (33, [(0, .int (nI x)), (3, .int 4)], [.int (0 + 1)], M)) (S2 := (29, [(0, .int (nI x)), (3, .int 4)], [.int (0 + 1)], M)) rfl rfl rfl (fun c_26 => ?_) (fun c_26 => ?_)
      · have c_26 : (nI (aN x 4)) = 0 := of_decide_eq_true c_26
        have n_26 : aN x 4 = 0 := (eq_nI (p := aN x 4) (n := 0) (Nat.lt_of_le_of_lt (an_le _ _) (by decide)) (by decide)).mp c_26
        refine ps_st (S' := (34, [], [.int 0, .int (0 + 1)], M)) rfl rfl rfl ?_
        refine ps_st (S' := (35, [], [.int ((0 + 1) + 0)], M)) rfl rfl rfl ?_
        refine ps_st (S' := (36, [], [.int 1, .int ((0 + 1) + 0)], M)) rfl rfl rfl ?_
        refine ps_if2 (S1 := (43, [], [], M)) (S2 := (39, [], [], M)) rfl rfl rfl (fun c_36 => ?_) (fun c_36 => ?_)
        · have c_36 : ((0 + 1) + 0) ≤ 1 := of_decide_eq_true c_36
          refine ps_st (S' := (44, [], [.int 0], M)) rfl rfl rfl ?_
          exact ps_ret rfl rfl (⟨congrArg (fun x => some (Value.int (nI x))) (show 0 = sevN x from by
              have e1 := one_7 x
              have e2 := sev_0 x
              have e3 := le1_sev x
              omega), rfl⟩)
        · have c_36 : ¬ (((0 + 1) + 0) ≤ 1) := of_decide_eq_false c_36
          refine ps_st (S' := (40, [], [.int 1], M)) rfl rfl rfl ?_
          refine ps_st (S' := (44, [], [.int 1], M)) rfl rfl rfl ?_
          exact ps_ret rfl rfl (⟨congrArg (fun x => some (Value.int (nI x))) (show 1 = sevN x from by
              have e1 := one_7 x
              have e2 := sev_0 x
              have e3 := le1_sev x
              omega), rfl⟩)
      · have c_26 : ¬ ((nI (aN x 4)) = 0) := of_decide_eq_false c_26
        have n_26 : ¬ (aN x 4 = 0) := fun h9 => c_26 ((eq_nI (p := aN x 4) (n := 0) (Nat.lt_of_le_of_lt (an_le _ _) (by decide)) (by decide)).mpr h9)
        refine ps_st (S' := (30, [(0, .int (nI x)), (3, .int 4)], [.int 1, .int (0 + 1)], M)) rfl rfl rfl ?_
        refine ps_st (S' := (34, [], [.int 1, .int (0 + 1)], M)) rfl rfl rfl ?_
        refine ps_st (S' := (35, [], [.int ((0 + 1) + 1)], M)) rfl rfl rfl ?_
        refine ps_st (S' := (36, [], [.int 1, .int ((0 + 1) + 1)], M)) rfl rfl rfl ?_
        refine ps_if2 (S1 := (43, [], [], M)) (S2 := (39, [], [], M)) rfl rfl rfl (fun c_36 => ?_) (fun c_36 => ?_)
        · have c_36 : ((0 + 1) + 1) ≤ 1 := of_decide_eq_true c_36
          refine ps_st (S' := (44, [], [.int 0], M)) rfl rfl rfl ?_
          exact ps_ret rfl rfl (⟨congrArg (fun x => some (Value.int (nI x))) (show 0 = sevN x from by
              have e1 := one_7 x
              have e2 := sev_0 x
              have e3 := le1_sev x
              omega), rfl⟩)
        · have c_36 : ¬ (((0 + 1) + 1) ≤ 1) := of_decide_eq_false c_36
          refine ps_st (S' := (40, [], [.int 1], M)) rfl rfl rfl ?_
          refine ps_st (S' := (44, [], [.int 1], M)) rfl rfl rfl ?_
          exact ps_ret rfl rfl (⟨congrArg (fun x => some (Value.int (nI x))) (show 1 = sevN x from by
              have e1 := one_7 x
              have e2 := sev_0 x
              have e3 := le1_sev x
              omega), rfl⟩)
  · have c_3 : ¬ ((nI (aN x 1)) = 0) := of_decide_eq_false c_3
    have n_3 : ¬ (aN x 1 = 0) := fun h9 => c_3 ((eq_nI (p := aN x 1) (n := 0) (Nat.lt_of_le_of_lt (an_le _ _) (by decide)) (by decide)).mpr h9)
    refine ps_st (S' := (7, [(0, .int (nI x)), (1, .int 1), (2, .int 2), (3, .int 4)], [.int 1], M)) rfl rfl rfl ?_
    refine ps_st (S' := (11, [(0, .int (nI x)), (2, .int 2), (3, .int 4)], [.int 1], M)) rfl rfl rfl ?_
    refine ps_st (S' := (12, [(0, .int (nI x)), (2, .int 2), (3, .int 4)], [.int (nI x), .int 1], M)) rfl rfl rfl ?_
    refine ps_st (S' := (13, [(0, .int (nI x)), (2, .int 2), (3, .int 4)], [.int 2, .int (nI x), .int 1], M)) rfl rfl rfl ?_
    refine ps_st (S' := (14, [(0, .int (nI x)), (2, .int 2), (3, .int 4)], [.int ((nI x) &&& 2), .int 1], M)) rfl rfl rfl ?_
    rw [nI_an (p := x) (k := 2) (x := 2) rfl]
    show pl _ _ _ (_, [(0, .int (nI x)), (2, .int 2), (3, .int 4)], [.int (nI (aN x 2)), .int 1], M) _
    refine ps_if (S1 := (21, [(0, .int (nI x)), (2, .int 2), (3, .int 4)], [.int 1], M)) (S2 := (17, [(0, .int (nI x)), (2, .int 2), (3, .int 4)], [.int 1], M)) rfl rfl rfl (fun c_14 => ?_) (fun c_14 => ?_)
    · have c_14 : (nI (aN x 2)) = 0 := of_decide_eq_true c_14
      have n_14 : aN x 2 = 0 := (eq_nI (p := aN x 2) (n := 0) (Nat.lt_of_le_of_lt (an_le _ _) (by decide)) (by decide)).mp c_14
      refine ps_st (S' := (22, [(0, .int (nI x)), (3, .int 4)], [.int 0, .int 1], M)) rfl rfl rfl ?_
      refine ps_st (S' := (23, [(0, .int (nI x)), (3, .int 4)], [.int (1 + 0)], M)) rfl rfl rfl ?_
      refine ps_st (S' := (24, [(0, .int (nI x)), (3, .int 4)], [.int (nI x), .int (1 + 0)], M)) rfl rfl rfl ?_
      refine ps_st (S' := (25, [(0, .int (nI x)), (3, .int 4)], [.int 4, .int (nI x), .int (1 + 0)], M)) rfl rfl rfl ?_
      refine ps_st (S' := (26, [(0, .int (nI x)), (3, .int 4)], [.int ((nI x) &&& 4), .int (1 + 0)], M)) rfl rfl rfl ?_
      rw [nI_an (p := x) (k := 4) (x := 4) rfl]
      show pl _ _ _ (_, [(0, .int (nI x)), (3, .int 4)], [.int (nI (aN x 4)), .int (1 + 0)], M) _
      refine ps_if (S1 := (33, [(0, .int (nI x)), (3, .int 4)], [.int (1 + 0)], M)) (S2 := (29, [(0, .int (nI x)), (3, .int 4)], [.int (1 + 0)], M)) rfl rfl rfl (fun c_26 => ?_) (fun c_26 => ?_)
      · have c_26 : (nI (aN x 4)) = 0 := of_decide_eq_true c_26
        have n_26 : aN x 4 = 0 := (eq_nI (p := aN x 4) (n := 0) (Nat.lt_of_le_of_lt (an_le _ _) (by decide)) (by decide)).mp c_26
        refine ps_st (S' := (34, [], [.int 0, .int (1 + 0)], M)) rfl rfl rfl ?_
        refine ps_st (S' := (35, [], [.int ((1 + 0) + 0)], M)) rfl rfl rfl ?_
        refine ps_st (S' := (36, [], [.int 1, .int ((1 + 0) + 0)], M)) rfl rfl rfl ?_
        refine ps_if2 (S1 := (43, [], [], M)) (S2 := (39, [], [], M)) rfl rfl rfl (fun c_36 => ?_) (fun c_36 => ?_)
        · have c_36 : ((1 + 0) + 0) ≤ 1 := of_decide_eq_true c_36
          refine ps_st (S' := (44, [], [.int 0], M)) rfl rfl rfl ?_
          exact ps_ret rfl rfl (⟨congrArg (fun x => some (Value.int (nI x))) (show 0 = sevN x from by
              have e1 := one_7 x
              have e2 := sev_0 x
              have e3 := le1_sev x
              omega), rfl⟩)
        · have c_36 : ¬ (((1 + 0) + 0) ≤ 1) := of_decide_eq_false c_36
          refine ps_st (S' := (40, [], [.int 1], M)) rfl rfl rfl ?_
          refine ps_st (S' := (44, [], [.int 1], M)) rfl rfl rfl ?_
          exact ps_ret rfl rfl (⟨congrArg (fun x => some (Value.int (nI x))) (show 1 = sevN x from by
              have e1 := one_7 x
              have e2 := sev_0 x
              have e3 := le1_sev x
              omega), rfl⟩)
      · have c_26 : ¬ ((nI (aN x 4)) = 0) := of_decide_eq_false c_26
        have n_26 : ¬ (aN x 4 = 0) := fun h9 => c_26 ((eq_nI (p := aN x 4) (n := 0) (Nat.lt_of_le_of_lt (an_le _ _) (by decide)) (by decide)).mpr h9)
        refine ps_st (S' := (30, [(0, .int (nI x)), (3, .int 4)], [.int 1, .int (1 + 0)], M)) rfl rfl rfl ?_
        refine ps_st (S' := (34, [], [.int 1, .int (1 + 0)], M)) rfl rfl rfl ?_
        refine ps_st (S' := (35, [], [.int ((1 + 0) + 1)], M)) rfl rfl rfl ?_
        refine ps_st (S' := (36, [], [.int 1, .int ((1 + 0) + 1)], M)) rfl rfl rfl ?_
        refine ps_if2 (S1 := (43, [], [], M)) (S2 := (39, [], [], M)) rfl rfl rfl (fun c_36 => ?_) (fun c_36 => ?_)
        · have c_36 : ((1 + 0) + 1) ≤ 1 := of_decide_eq_true c_36
          refine ps_st (S' := (44, [], [.int 0], M)) rfl rfl rfl ?_
          exact ps_ret rfl rfl (⟨congrArg (fun x => some (Value.int (nI x))) (show 0 = sevN x from by
              have e1 := one_7 x
              have e2 := sev_0 x
              have e3 := le1_sev x
              omega), rfl⟩)
        · have c_36 : ¬ (((1 + 0) + 1) ≤ 1) := of_decide_eq_false c_36
          refine ps_st (S' := (40, [], [.int 1], M)) rfl rfl rfl ?_
          refine ps_st (S' := (44, [], [.int 1], M)) rfl rfl rfl ?_
          exact ps_ret rfl rfl (⟨congrArg (fun x => some (Value.int (nI x))) (show 1 = sevN x from by
              have e1 := one_7 x
              have e2 := sev_0 x
              have e3 := le1_sev x
              omega), rfl⟩)
    · have c_14 : ¬ ((nI (aN x 2)) = 0) := of_decide_eq_false c_14
      have n_14 : ¬ (aN x 2 = 0) := fun h9 => c_14 ((eq_nI (p := aN x 2) (n := 0) (Nat.lt_of_le_of_lt (an_le _ _) (by decide)) (by decide)).mpr h9)
      refine ps_st (S' := (18, [(0, .int (nI x)), (2, .int 2), (3, .int 4)], [.int 1, .int 1], M)) rfl rfl rfl ?_
      refine ps_st (S' := (22, [(0, .int (nI x)), (3, .int 4)], [.int 1, .int 1], M)) rfl rfl rfl ?_
      refine ps_st (S' := (23, [(0, .int (nI x)), (3, .int 4)], [.int (1 + 1)], M)) rfl rfl rfl ?_
      refine ps_st (S' := (24, [(0, .int (nI x)), (3, .int 4)], [.int (nI x), .int (1 + 1)], M)) rfl rfl rfl ?_
      refine ps_st (S' := (25, [(0, .int (nI x)), (3, .int 4)], [.int 4, .int (nI x), .int (1 + 1)], M)) rfl rfl rfl ?_
      refine ps_st (S' := (26, [(0, .int (nI x)), (3, .int 4)], [.int ((nI x) &&& 4), .int (1 + 1)], M)) rfl rfl rfl ?_
      rw [nI_an (p := x) (k := 4) (x := 4) rfl]
      show pl _ _ _ (_, [(0, .int (nI x)), (3, .int 4)], [.int (nI (aN x 4)), .int (1 + 1)], M) _
      refine ps_if (S1 := (33, [(0, .int (nI x)), (3, .int 4)], [.int (1 + 1)], M)) (S2 := (29, [(0, .int (nI x)), (3, .int 4)], [.int (1 + 1)], M)) rfl rfl rfl (fun c_26 => ?_) (fun c_26 => ?_)
      · have c_26 : (nI (aN x 4)) = 0 := of_decide_eq_true c_26
        have n_26 : aN x 4 = 0 := (eq_nI (p := aN x 4) (n := 0) (Nat.lt_of_le_of_lt (an_le _ _) (by decide)) (by decide)).mp c_26
        refine ps_st (S' := (34, [], [.int 0, .int (1 + 1)], M)) rfl rfl rfl ?_
        refine ps_st (S' := (35, [], [.int ((1 + 1) + 0)], M)) rfl rfl rfl ?_
        refine ps_st (S' := (36, [], [.int 1, .int ((1 + 1) + 0)], M)) rfl rfl rfl ?_
        refine ps_if2 (S1 := (43, [], [], M)) (S2 := (39, [], [], M)) rfl rfl rfl (fun c_36 => ?_) (fun c_36 => ?_)
        · have c_36 : ((1 + 1) + 0) ≤ 1 := of_decide_eq_true c_36
          refine ps_st (S' := (44, [], [.int 0], M)) rfl rfl rfl ?_
          exact ps_ret rfl rfl (⟨congrArg (fun x => some (Value.int (nI x))) (show 0 = sevN x from by
              have e1 := one_7 x
              have e2 := sev_0 x
              have e3 := le1_sev x
              omega), rfl⟩)
        · have c_36 : ¬ (((1 + 1) + 0) ≤ 1) := of_decide_eq_false c_36
          refine ps_st (S' := (40, [], [.int 1], M)) rfl rfl rfl ?_
          refine ps_st (S' := (44, [], [.int 1], M)) rfl rfl rfl ?_
          exact ps_ret rfl rfl (⟨congrArg (fun x => some (Value.int (nI x))) (show 1 = sevN x from by
              have e1 := one_7 x
              have e2 := sev_0 x
              have e3 := le1_sev x
              omega), rfl⟩)
      · have c_26 : ¬ ((nI (aN x 4)) = 0) := of_decide_eq_false c_26
        have n_26 : ¬ (aN x 4 = 0) := fun h9 => c_26 ((eq_nI (p := aN x 4) (n := 0) (Nat.lt_of_le_of_lt (an_le _ _) (by decide)) (by decide)).mpr h9)
        refine ps_st (S' := (30, [(0, .int (nI x)), (3, .int 4)], [.int 1, .int (1 + 1)], M)) rfl rfl rfl ?_
        refine ps_st (S' := (34, [], [.int 1, .int (1 + 1)], M)) rfl rfl rfl ?_
        refine ps_st (S' := (35, [], [.int ((1 + 1) + 1)], M)) rfl rfl rfl ?_
        refine ps_st (S' := (36, [], [.int 1, .int ((1 + 1) + 1)], M)) rfl rfl rfl ?_
        refine ps_if2 (S1 := (43, [], [], M)) (S2 := (39, [], [], M)) rfl rfl rfl (fun c_36 => ?_) (fun c_36 => ?_)
        · have c_36 : ((1 + 1) + 1) ≤ 1 := of_decide_eq_true c_36
          refine ps_st (S' := (44, [], [.int 0], M)) rfl rfl rfl ?_
          exact ps_ret rfl rfl (⟨congrArg (fun x => some (Value.int (nI x))) (show 0 = sevN x from by
              have e1 := one_7 x
              have e2 := sev_0 x
              have e3 := le1_sev x
              omega), rfl⟩)
        · have c_36 : ¬ (((1 + 1) + 1) ≤ 1) := of_decide_eq_false c_36
          refine ps_st (S' := (40, [], [.int 1], M)) rfl rfl rfl ?_
          refine ps_st (S' := (44, [], [.int 1], M)) rfl rfl rfl ?_
          exact ps_ret rfl rfl (⟨congrArg (fun x => some (Value.int (nI x))) (show 1 = sevN x from by
              have e1 := one_7 x
              have e2 := sev_0 x
              have e3 := le1_sev x
              omega), rfl⟩)
set_option maxHeartbeats 8000000 in
theorem rd_fit00 {g : xe_G} {m0 : Nat} {q : Nat → Nat} {z : Nat × Nat} {I : rI} {R : rR} {M : mi_H} {mj x c : Nat} (hR : RS g m0 q z I R M) (hi53 : I 53 = some (nI mj))  (hmj : mj < 65536) (hx : x < 65536) (hc : aN c 512 = 0) : pt (mT g) 209 [.ref m0, .int (nI x), .int 0, .int 0] M (fun v M' => (v = some (.int (nI (fitN mj c x 0))) ∧ M = M')) := by
  refine pt_in (b := mb_209 g) rfl (fun kf => ?_)
  show pl (mT g) kf (mb_209 g).2 (0, [(0, .ref m0), (1, .int (nI x)), (2, .int 0), (3, .int 0)], [], M) _
  refine ps_st (S' := (1, [(0, .ref m0), (1, .int (nI x)), (2, .int 0), (3, .int 0)], [.int 0], M)) rfl rfl rfl ?_
  refine ps_if (S1 := (28, [(0, .ref m0), (1, .int (nI x)), (2, .int 0), (3, .int 0)], [], M)) (S2 := (4, [(0, .ref m0), (1, .int (nI x)), (2, .int 0), (3, .int 0)], [], M)) rfl rfl rfl (fun c_1 => ?_) (fun c_1 => ?_)
  rotate_left
  · exact absurd (by decide) (of_decide_eq_false c_1)
  refine ps_st (S' := (29, [(0, .ref m0), (1, .int (nI x)), (2, .int 0), (3, .int 0)], [.int (nI x)], M)) rfl rfl rfl ?_
  refine ps_st (S' := (32, [(0, .ref m0), (1, .int (nI x)), (2, .int 0), (3, .int 0)], [.int 1024, .int (nI x)], M)) rfl rfl rfl ?_
  refine ps_st (S' := (33, [(0, .ref m0), (1, .int (nI x)), (2, .int 0), (3, .int 0)], [.int ((nI x) &&& 1024)], M)) rfl rfl rfl ?_
  rw [nI_an (p := x) (k := 1024) (x := 1024) rfl]
  show pl _ _ _ (_, [(0, .ref m0), (1, .int (nI x)), (2, .int 0), (3, .int 0)], [.int (nI (aN x 1024))], M) _
  refine ps_if (S1 := (74, [(0, .ref m0), (1, .int (nI x)), (3, .int 0)], [], M)) (S2 := (36, [(0, .ref m0), (1, .int (nI x)), (2, .int 0), (3, .int 0)], [], M)) rfl rfl rfl (fun c_33 => ?_) (fun c_33 => ?_)
  · have c_33 : (nI (aN x 1024)) = 0 := of_decide_eq_true c_33
    have n_33 : aN x 1024 = 0 := (eq_nI (p := aN x 1024) (n := 0) (Nat.lt_of_le_of_lt (an_le _ _) (by decide)) (by decide)).mp c_33
    refine ps_st (S' := (75, [(0, .ref m0), (1, .int (nI x)), (3, .int 0)], [.int 0], M)) rfl rfl rfl ?_
    refine ps_st (S' := (77, [(4, .int 0), (0, .ref m0), (1, .int (nI x)), (3, .int 0)], [], M)) rfl rfl rfl ?_
    refine ps_st (S' := (78, [(4, .int 0), (0, .ref m0), (1, .int (nI x)), (3, .int 0)], [.int 0], M)) rfl rfl rfl ?_
    refine ps_if (S1 := (102, [(4, .int 0), (0, .ref m0), (1, .int (nI x)), (3, .int 0)], [], M)) (S2 := (81, [(4, .int 0), (0, .ref m0), (1, .int (nI x)), (3, .int 0)], [], M)) rfl rfl rfl (fun c_78 => ?_) (fun c_78 => ?_)
    · exact absurd (of_decide_eq_true c_78) (by decide)
    refine ps_st (S' := (82, [(4, .int 0), (0, .ref m0), (1, .int (nI x)), (3, .int 0)], [.int (nI x)], M)) rfl rfl rfl ?_
    refine ps_st (S' := (83, [(4, .int 0), (0, .ref m0), (1, .int (nI x)), (3, .int 0)], [.int 1, .int (nI x)], M)) rfl rfl rfl ?_
    refine ps_st (S' := (84, [(4, .int 0), (0, .ref m0), (1, .int (nI x)), (3, .int 0)], [.int 2, .int 1, .int (nI x)], M)) rfl rfl rfl ?_
    refine ps_st (S' := (85, [(4, .int 0), (0, .ref m0), (1, .int (nI x)), (3, .int 0)], [.int 4, .int 2, .int 1, .int (nI x)], M)) rfl rfl rfl ?_
    refine pl_call (a := [.int (nI x), .int 1, .int 2, .int 4]) (rest := []) rfl rfl rfl (rd_several (x := x)) (fun v1 M2 q3 => ?_)
    obtain ⟨rfl, rfl⟩ := q3
    show pl _ _ _ (88, [(4, .int 0), (0, .ref m0), (1, .int (nI x)), (3, .int 0)], [.int (nI (sevN x))], M) _
    refine ps_if (S1 := (100, [], [], M)) (S2 := (91, [(4, .int 0), (0, .ref m0), (1, .int (nI x)), (3, .int 0)], [], M)) rfl rfl rfl (fun c_88 => ?_) (fun c_88 => ?_)
    · have c_88 : ¬ (nI (sevN x)) = 0 := of_decide_eq_true c_88
      have n_88 : ¬ (sevN x = 0) := fun h9 => c_88 ((eq_nI (p := sevN x) (n := 0) (Nat.lt_trans (le1_sev _) (by decide)) (by decide)).mpr h9)
      refine ps_st (S' := (101, [], [.int 0], M)) rfl rfl rfl ?_
      exact ps_ret rfl rfl (⟨congrArg (fun x => some (Value.int (nI x))) (show 0 = fitN mj c x 0 from by
          have e3 := has_0 x 1400
          have e4 := has_0 x 1024
          have e5 := has_0 c 512
          have e2 := sev_0 x
          have b1 := le1_one x
          unfold fitN
          first | ((repeat first | rw [if_pos (by omega)] | rw [if_neg (by omega)]) <;> first | rfl | omega) | ((repeat' split) <;> first | rfl | (exfalso; omega) | omega)), rfl⟩)
    · have c_88 : ¬ (¬ (nI (sevN x)) = 0) := of_decide_eq_false c_88
      have n_88 : sevN x = 0 := (eq_nI (p := sevN x) (n := 0) (Nat.lt_trans (le1_sev _) (by decide)) (by decide)).mp (Decidable.not_not.mp c_88)
      refine ps_st (S' := (93, [(4, .int 0), (0, .ref m0), (1, .int (nI x)), (3, .int 0)], [.int 0], M)) rfl rfl rfl ?_
      refine ps_if (S1 := (100, [], [], M)) (S2 := (96, [(4, .int 0), (0, .ref m0), (1, .int (nI x)), (3, .int 0)], [], M)) rfl rfl rfl (fun c_93 => ?_) (fun c_93 => ?_)
      · exact absurd (of_decide_eq_true c_93) (by decide)
      refine ps_st (S' := (97, [(4, .int 0), (0, .ref m0), (1, .int (nI x)), (3, .int 0)], [.int 1], M)) rfl rfl rfl ?_
      refine ps_st (S' := (101, [], [.int 1], M)) rfl rfl rfl ?_
      exact ps_ret rfl rfl (⟨congrArg (fun x => some (Value.int (nI x))) (show 1 = fitN mj c x 0 from by
          have e3 := has_0 x 1400
          have e4 := has_0 x 1024
          have e5 := has_0 c 512
          have e2 := sev_0 x
          have b1 := le1_one x
          unfold fitN
          first | ((repeat first | rw [if_pos (by omega)] | rw [if_neg (by omega)]) <;> first | rfl | omega) | ((repeat' split) <;> first | rfl | (exfalso; omega) | omega)), rfl⟩)
  · have c_33 : ¬ ((nI (aN x 1024)) = 0) := of_decide_eq_false c_33
    have n_33 : ¬ (aN x 1024 = 0) := fun h9 => c_33 ((eq_nI (p := aN x 1024) (n := 0) (Nat.lt_of_le_of_lt (an_le _ _) (by decide)) (by decide)).mpr h9)
    refine ps_st (S' := (37, [(0, .ref m0), (1, .int (nI x)), (2, .int 0), (3, .int 0)], [.int (nI x)], M)) rfl rfl rfl ?_
    refine ps_st (S' := (40, [(0, .ref m0), (1, .int (nI x)), (2, .int 0), (3, .int 0)], [.int 314, .int (nI x)], M)) rfl rfl rfl ?_
    refine ps_st (S' := (41, [(0, .ref m0), (1, .int (nI x)), (2, .int 0), (3, .int 0)], [.int ((nI x) &&& 314)], M)) rfl rfl rfl ?_
    rw [nI_an (p := x) (k := 314) (x := 314) rfl]
    show pl _ _ _ (_, [(0, .ref m0), (1, .int (nI x)), (2, .int 0), (3, .int 0)], [.int (nI (aN x 314))], M) _
    refine ps_if (S1 := (70, [(0, .ref m0), (1, .int (nI x)), (3, .int 0)], [], M)) (S2 := (44, [(0, .ref m0), (1, .int (nI x)), (2, .int 0), (3, .int 0)], [], M)) rfl rfl rfl (fun c_41 => ?_) (fun c_41 => ?_)
    · have c_41 : ¬ (nI (aN x 314)) = 0 := of_decide_eq_true c_41
      have n_41 : ¬ (aN x 314 = 0) := fun h9 => c_41 ((eq_nI (p := aN x 314) (n := 0) (Nat.lt_of_le_of_lt (an_le _ _) (by decide)) (by decide)).mpr h9)
      refine ps_st (S' := (71, [(0, .ref m0), (1, .int (nI x)), (3, .int 0)], [.int 1], M)) rfl rfl rfl ?_
      refine ps_st (S' := (75, [(0, .ref m0), (1, .int (nI x)), (3, .int 0)], [.int 1], M)) rfl rfl rfl ?_
      refine ps_st (S' := (77, [(4, .int 1), (0, .ref m0), (1, .int (nI x)), (3, .int 0)], [], M)) rfl rfl rfl ?_
      refine ps_st (S' := (78, [(4, .int 1), (0, .ref m0), (1, .int (nI x)), (3, .int 0)], [.int 0], M)) rfl rfl rfl ?_
      refine ps_if (S1 := (102, [(4, .int 1), (0, .ref m0), (1, .int (nI x)), (3, .int 0)], [], M)) (S2 := (81, [(4, .int 1), (0, .ref m0), (1, .int (nI x)), (3, .int 0)], [], M)) rfl rfl rfl (fun c_78 => ?_) (fun c_78 => ?_)
      · exact absurd (of_decide_eq_true c_78) (by decide)
      refine ps_st (S' := (82, [(4, .int 1), (0, .ref m0), (1, .int (nI x)), (3, .int 0)], [.int (nI x)], M)) rfl rfl rfl ?_
      refine ps_st (S' := (83, [(4, .int 1), (0, .ref m0), (1, .int (nI x)), (3, .int 0)], [.int 1, .int (nI x)], M)) rfl rfl rfl ?_
      refine ps_st (S' := (84, [(4, .int 1), (0, .ref m0), (1, .int (nI x)), (3, .int 0)], [.int 2, .int 1, .int (nI x)], M)) rfl rfl rfl ?_
      refine ps_st (S' := (85, [(4, .int 1), (0, .ref m0), (1, .int (nI x)), (3, .int 0)], [.int 4, .int 2, .int 1, .int (nI x)], M)) rfl rfl rfl ?_
      refine pl_call (a := [.int (nI x), .int 1, .int 2, .int 4]) (rest := []) rfl rfl rfl (rd_several (x := x)) (fun v4 M5 q6 => ?_)
      obtain ⟨rfl, rfl⟩ := q6
      show pl _ _ _ (88, [(4, .int 1), (0, .ref m0), (1, .int (nI x)), (3, .int 0)], [.int (nI (sevN x))], M) _
      refine ps_if (S1 := (100, [], [], M)) (S2 := (91, [(4, .int 1), (0, .ref m0), (1, .int (nI x)), (3, .int 0)], [], M)) rfl rfl rfl (fun c_88 => ?_) (fun c_88 => ?_)
      · have c_88 : ¬ (nI (sevN x)) = 0 := of_decide_eq_true c_88
        have n_88 : ¬ (sevN x = 0) := fun h9 => c_88 ((eq_nI (p := sevN x) (n := 0) (Nat.lt_trans (le1_sev _) (by decide)) (by decide)).mpr h9)
        refine ps_st (S' := (101, [], [.int 0], M)) rfl rfl rfl ?_
        exact ps_ret rfl rfl (⟨congrArg (fun x => some (Value.int (nI x))) (show 0 = fitN mj c x 0 from by
            have e3 := has_0 x 1400
            have e4 := has_0 x 1024
            have e5 := has_0 c 512
            have e2 := sev_0 x
            have b1 := le1_one x
            have ha : absN mj x = 0 := (abs_0 mj x).mpr (by omega)
            unfold fitN
            first | ((repeat first | rw [if_pos (by omega)] | rw [if_neg (by omega)]) <;> first | rfl | omega) | ((repeat' split) <;> first | rfl | (exfalso; omega) | omega)), rfl⟩)
      · have c_88 : ¬ (¬ (nI (sevN x)) = 0) := of_decide_eq_false c_88
        have n_88 : sevN x = 0 := (eq_nI (p := sevN x) (n := 0) (Nat.lt_trans (le1_sev _) (by decide)) (by decide)).mp (Decidable.not_not.mp c_88)
        refine ps_st (S' := (93, [(4, .int 1), (0, .ref m0), (1, .int (nI x)), (3, .int 0)], [.int 1], M)) rfl rfl rfl ?_
        refine ps_if (S1 := (100, [], [], M)) (S2 := (96, [(4, .int 1), (0, .ref m0), (1, .int (nI x)), (3, .int 0)], [], M)) rfl rfl rfl (fun c_93 => ?_) (fun c_93 => ?_)
        rotate_left
        · exact absurd (by decide) (of_decide_eq_false c_93)
        refine ps_st (S' := (101, [], [.int 0], M)) rfl rfl rfl ?_
        exact ps_ret rfl rfl (⟨congrArg (fun x => some (Value.int (nI x))) (show 0 = fitN mj c x 0 from by
            have e3 := has_0 x 1400
            have e4 := has_0 x 1024
            have e5 := has_0 c 512
            have e2 := sev_0 x
            have b1 := le1_one x
            have ha : absN mj x = 0 := (abs_0 mj x).mpr (by omega)
            unfold fitN
            first | ((repeat first | rw [if_pos (by omega)] | rw [if_neg (by omega)]) <;> first | rfl | omega) | ((repeat' split) <;> first | rfl | (exfalso; omega) | omega)), rfl⟩)
    · have c_41 : ¬ (¬ (nI (aN x 314)) = 0) := of_decide_eq_false c_41
      have n_41 : aN x 314 = 0 := (eq_nI (p := aN x 314) (n := 0) (Nat.lt_of_le_of_lt (an_le _ _) (by decide)) (by decide)).mp (Decidable.not_not.mp c_41)
      refine ps_st (S' := (45, [(0, .ref m0), (1, .int (nI x)), (2, .int 0), (3, .int 0)], [.ref m0], M)) rfl rfl rfl ?_
      refine pr_int (j := 53) (S' := (48, [(0, .ref m0), (1, .int (nI x)), (2, .int 0), (3, .int 0)], [.int (nI mj)], M)) rfl hR rfl hi53 rfl ?_
      refine ps_st (S' := (50, [(0, .ref m0), (1, .int (nI x)), (2, .int 0), (3, .int 0)], [.int 46, .int (nI mj)], M)) rfl rfl rfl ?_
      refine ps_if2 (S1 := (74, [(0, .ref m0), (1, .int (nI x)), (3, .int 0)], [], M)) (S2 := (53, [(0, .ref m0), (1, .int (nI x)), (2, .int 0), (3, .int 0)], [], M)) rfl rfl rfl (fun c_50 => ?_) (fun c_50 => ?_)
      · have c_50 : (nI mj) < 46 := of_decide_eq_true c_50
        have n_50 : mj < 46 := (lt_nI (p := mj) (n := 46) (by omega) (by decide)).mp c_50
        refine ps_st (S' := (75, [(0, .ref m0), (1, .int (nI x)), (3, .int 0)], [.int 0], M)) rfl rfl rfl ?_
        refine ps_st (S' := (77, [(4, .int 0), (0, .ref m0), (1, .int (nI x)), (3, .int 0)], [], M)) rfl rfl rfl ?_
        refine ps_st (S' := (78, [(4, .int 0), (0, .ref m0), (1, .int (nI x)), (3, .int 0)], [.int 0], M)) rfl rfl rfl ?_
        refine ps_if (S1 := (102, [(4, .int 0), (0, .ref m0), (1, .int (nI x)), (3, .int 0)], [], M)) (S2 := (81, [(4, .int 0), (0, .ref m0), (1, .int (nI x)), (3, .int 0)], [], M)) rfl rfl rfl (fun c_78 => ?_) (fun c_78 => ?_)
        · exact absurd (of_decide_eq_true c_78) (by decide)
        refine ps_st (S' := (82, [(4, .int 0), (0, .ref m0), (1, .int (nI x)), (3, .int 0)], [.int (nI x)], M)) rfl rfl rfl ?_
        refine ps_st (S' := (83, [(4, .int 0), (0, .ref m0), (1, .int (nI x)), (3, .int 0)], [.int 1, .int (nI x)], M)) rfl rfl rfl ?_
        refine ps_st (S' := (84, [(4, .int 0), (0, .ref m0), (1, .int (nI x)), (3, .int 0)], [.int 2, .int 1, .int (nI x)], M)) rfl rfl rfl ?_
        refine ps_st (S' := (85, [(4, .int 0), (0, .ref m0), (1, .int (nI x)), (3, .int 0)], [.int 4, .int 2, .int 1, .int (nI x)], M)) rfl rfl rfl ?_
        refine pl_call (a := [.int (nI x), .int 1, .int 2, .int 4]) (rest := []) rfl rfl rfl (rd_several (x := x)) (fun v7 M8 q9 => ?_)
        obtain ⟨rfl, rfl⟩ := q9
        show pl _ _ _ (88, [(4, .int 0), (0, .ref m0), (1, .int (nI x)), (3, .int 0)], [.int (nI (sevN x))], M) _
        refine ps_if (S1 := (100, [], [], M)) (S2 := (91, [(4, .int 0), (0, .ref m0), (1, .int (nI x)), (3, .int 0)], [], M)) rfl rfl rfl (fun c_88 => ?_) (fun c_88 => ?_)
        · have c_88 : ¬ (nI (sevN x)) = 0 := of_decide_eq_true c_88
          have n_88 : ¬ (sevN x = 0) := fun h9 => c_88 ((eq_nI (p := sevN x) (n := 0) (Nat.lt_trans (le1_sev _) (by decide)) (by decide)).mpr h9)
          refine ps_st (S' := (101, [], [.int 0], M)) rfl rfl rfl ?_
          exact ps_ret rfl rfl (⟨congrArg (fun x => some (Value.int (nI x))) (show 0 = fitN mj c x 0 from by
              have e3 := has_0 x 1400
              have e4 := has_0 x 1024
              have e5 := has_0 c 512
              have e2 := sev_0 x
              have b1 := le1_one x
              have ha : ¬ absN mj x = 0 := fun h => absurd ((abs_0 mj x).mp h) (by omega)
              unfold fitN
              first | ((repeat first | rw [if_pos (by omega)] | rw [if_neg (by omega)]) <;> first | rfl | omega) | ((repeat' split) <;> first | rfl | (exfalso; omega) | omega)), rfl⟩)
        · have c_88 : ¬ (¬ (nI (sevN x)) = 0) := of_decide_eq_false c_88
          have n_88 : sevN x = 0 := (eq_nI (p := sevN x) (n := 0) (Nat.lt_trans (le1_sev _) (by decide)) (by decide)).mp (Decidable.not_not.mp c_88)
          refine ps_st (S' := (93, [(4, .int 0), (0, .ref m0), (1, .int (nI x)), (3, .int 0)], [.int 0], M)) rfl rfl rfl ?_
          refine ps_if (S1 := (100, [], [], M)) (S2 := (96, [(4, .int 0), (0, .ref m0), (1, .int (nI x)), (3, .int 0)], [], M)) rfl rfl rfl (fun c_93 => ?_) (fun c_93 => ?_)
          · exact absurd (of_decide_eq_true c_93) (by decide)
          refine ps_st (S' := (97, [(4, .int 0), (0, .ref m0), (1, .int (nI x)), (3, .int 0)], [.int 1], M)) rfl rfl rfl ?_
          refine ps_st (S' := (101, [], [.int 1], M)) rfl rfl rfl ?_
          exact ps_ret rfl rfl (⟨congrArg (fun x => some (Value.int (nI x))) (show 1 = fitN mj c x 0 from by
              have e3 := has_0 x 1400
              have e4 := has_0 x 1024
              have e5 := has_0 c 512
              have e2 := sev_0 x
              have b1 := le1_one x
              have ha : ¬ absN mj x = 0 := fun h => absurd ((abs_0 mj x).mp h) (by omega)
              unfold fitN
              first | ((repeat first | rw [if_pos (by omega)] | rw [if_neg (by omega)]) <;> first | rfl | omega) | ((repeat' split) <;> first | rfl | (exfalso; omega) | omega)), rfl⟩)
      · have c_50 : ¬ ((nI mj) < 46) := of_decide_eq_false c_50
        have n_50 : ¬ (mj < 46) := fun h9 => c_50 ((lt_nI (p := mj) (n := 46) (by omega) (by decide)).mpr h9)
        refine ps_st (S' := (54, [(0, .ref m0), (1, .int (nI x)), (2, .int 0), (3, .int 0)], [.ref m0], M)) rfl rfl rfl ?_
        refine pr_int (j := 53) (S' := (57, [(0, .ref m0), (1, .int (nI x)), (2, .int 0), (3, .int 0)], [.int (nI mj)], M)) rfl hR rfl hi53 rfl ?_
        refine ps_st (S' := (59, [(0, .ref m0), (1, .int (nI x)), (2, .int 0), (3, .int 0)], [.int 60, .int (nI mj)], M)) rfl rfl rfl ?_
        refine ps_if2 (S1 := (74, [(0, .ref m0), (1, .int (nI x)), (3, .int 0)], [], M)) (S2 := (62, [(0, .ref m0), (1, .int (nI x)), (2, .int 0), (3, .int 0)], [], M)) rfl rfl rfl (fun c_59 => ?_) (fun c_59 => ?_)
        · have c_59 : 60 < (nI mj) := of_decide_eq_true c_59
          have n_59 : 60 < mj := (lt_nI (p := 60) (n := mj) (by decide) (by omega)).mp c_59
          refine ps_st (S' := (75, [(0, .ref m0), (1, .int (nI x)), (3, .int 0)], [.int 0], M)) rfl rfl rfl ?_
          refine ps_st (S' := (77, [(4, .int 0), (0, .ref m0), (1, .int (nI x)), (3, .int 0)], [], M)) rfl rfl rfl ?_
          refine ps_st (S' := (78, [(4, .int 0), (0, .ref m0), (1, .int (nI x)), (3, .int 0)], [.int 0], M)) rfl rfl rfl ?_
          refine ps_if (S1 := (102, [(4, .int 0), (0, .ref m0), (1, .int (nI x)), (3, .int 0)], [], M)) (S2 := (81, [(4, .int 0), (0, .ref m0), (1, .int (nI x)), (3, .int 0)], [], M)) rfl rfl rfl (fun c_78 => ?_) (fun c_78 => ?_)
          · exact absurd (of_decide_eq_true c_78) (by decide)
          refine ps_st (S' := (82, [(4, .int 0), (0, .ref m0), (1, .int (nI x)), (3, .int 0)], [.int (nI x)], M)) rfl rfl rfl ?_
          refine ps_st (S' := (83, [(4, .int 0), (0, .ref m0), (1, .int (nI x)), (3, .int 0)], [.int 1, .int (nI x)], M)) rfl rfl rfl ?_
          refine ps_st (S' := (84, [(4, .int 0), (0, .ref m0), (1, .int (nI x)), (3, .int 0)], [.int 2, .int 1, .int (nI x)], M)) rfl rfl rfl ?_
          refine ps_st (S' := (85, [(4, .int 0), (0, .ref m0), (1, .int (nI x)), (3, .int 0)], [.int 4, .int 2, .int 1, .int (nI x)], M)) rfl rfl rfl ?_
          refine pl_call (a := [.int (nI x), .int 1, .int 2, .int 4]) (rest := []) rfl rfl rfl (rd_several (x := x)) (fun v10 M11 q12 => ?_)
          obtain ⟨rfl, rfl⟩ := q12
          show pl _ _ _ (88, [(4, .int 0), (0, .ref m0), (1, .int (nI x)), (3, .int 0)], [.int (nI (sevN x))], M) _
          refine ps_if (S1 := (100, [], [], M)) (S2 := (91, [(4, .int 0), (0, .ref m0), (1, .int (nI x)), (3, .int 0)], [], M)) rfl rfl rfl (fun c_88 => ?_) (fun c_88 => ?_)
          · have c_88 : ¬ (nI (sevN x)) = 0 := of_decide_eq_true c_88
            have n_88 : ¬ (sevN x = 0) := fun h9 => c_88 ((eq_nI (p := sevN x) (n := 0) (Nat.lt_trans (le1_sev _) (by decide)) (by decide)).mpr h9)
            refine ps_st (S' := (101, [], [.int 0], M)) rfl rfl rfl ?_
            exact ps_ret rfl rfl (⟨congrArg (fun x => some (Value.int (nI x))) (show 0 = fitN mj c x 0 from by
                have e3 := has_0 x 1400
                have e4 := has_0 x 1024
                have e5 := has_0 c 512
                have e2 := sev_0 x
                have b1 := le1_one x
                have ha : ¬ absN mj x = 0 := fun h => absurd ((abs_0 mj x).mp h) (by omega)
                unfold fitN
                first | ((repeat first | rw [if_pos (by omega)] | rw [if_neg (by omega)]) <;> first | rfl | omega) | ((repeat' split) <;> first | rfl | (exfalso; omega) | omega)), rfl⟩)
          · have c_88 : ¬ (¬ (nI (sevN x)) = 0) := of_decide_eq_false c_88
            have n_88 : sevN x = 0 := (eq_nI (p := sevN x) (n := 0) (Nat.lt_trans (le1_sev _) (by decide)) (by decide)).mp (Decidable.not_not.mp c_88)
            refine ps_st (S' := (93, [(4, .int 0), (0, .ref m0), (1, .int (nI x)), (3, .int 0)], [.int 0], M)) rfl rfl rfl ?_
            refine ps_if (S1 := (100, [], [], M)) (S2 := (96, [(4, .int 0), (0, .ref m0), (1, .int (nI x)), (3, .int 0)], [], M)) rfl rfl rfl (fun c_93 => ?_) (fun c_93 => ?_)
            · exact absurd (of_decide_eq_true c_93) (by decide)
            refine ps_st (S' := (97, [(4, .int 0), (0, .ref m0), (1, .int (nI x)), (3, .int 0)], [.int 1], M)) rfl rfl rfl ?_
            refine ps_st (S' := (101, [], [.int 1], M)) rfl rfl rfl ?_
            exact ps_ret rfl rfl (⟨congrArg (fun x => some (Value.int (nI x))) (show 1 = fitN mj c x 0 from by
                have e3 := has_0 x 1400
                have e4 := has_0 x 1024
                have e5 := has_0 c 512
                have e2 := sev_0 x
                have b1 := le1_one x
                have ha : ¬ absN mj x = 0 := fun h => absurd ((abs_0 mj x).mp h) (by omega)
                unfold fitN
                first | ((repeat first | rw [if_pos (by omega)] | rw [if_neg (by omega)]) <;> first | rfl | omega) | ((repeat' split) <;> first | rfl | (exfalso; omega) | omega)), rfl⟩)
        · have c_59 : ¬ (60 < (nI mj)) := of_decide_eq_false c_59
          have n_59 : ¬ (60 < mj) := fun h9 => c_59 ((lt_nI (p := 60) (n := mj) (by decide) (by omega)).mpr h9)
          refine ps_st (S' := (63, [(0, .ref m0), (1, .int (nI x)), (2, .int 0), (3, .int 0)], [.int (nI x)], M)) rfl rfl rfl ?_
          refine ps_st (S' := (66, [(0, .ref m0), (1, .int (nI x)), (2, .int 0), (3, .int 0)], [.int 2048, .int (nI x)], M)) rfl rfl rfl ?_
          refine ps_st (S' := (67, [(0, .ref m0), (1, .int (nI x)), (2, .int 0), (3, .int 0)], [.int ((nI x) &&& 2048)], M)) rfl rfl rfl ?_
          rw [nI_an (p := x) (k := 2048) (x := 2048) rfl]
          show pl _ _ _ (_, [(0, .ref m0), (1, .int (nI x)), (2, .int 0), (3, .int 0)], [.int (nI (aN x 2048))], M) _
          refine ps_if (S1 := (74, [(0, .ref m0), (1, .int (nI x)), (3, .int 0)], [], M)) (S2 := (70, [(0, .ref m0), (1, .int (nI x)), (3, .int 0)], [], M)) rfl rfl rfl (fun c_67 => ?_) (fun c_67 => ?_)
          · have c_67 : (nI (aN x 2048)) = 0 := of_decide_eq_true c_67
            have n_67 : aN x 2048 = 0 := (eq_nI (p := aN x 2048) (n := 0) (Nat.lt_of_le_of_lt (an_le _ _) (by decide)) (by decide)).mp c_67
            refine ps_st (S' := (75, [(0, .ref m0), (1, .int (nI x)), (3, .int 0)], [.int 0], M)) rfl rfl rfl ?_
            refine ps_st (S' := (77, [(4, .int 0), (0, .ref m0), (1, .int (nI x)), (3, .int 0)], [], M)) rfl rfl rfl ?_
            refine ps_st (S' := (78, [(4, .int 0), (0, .ref m0), (1, .int (nI x)), (3, .int 0)], [.int 0], M)) rfl rfl rfl ?_
            refine ps_if (S1 := (102, [(4, .int 0), (0, .ref m0), (1, .int (nI x)), (3, .int 0)], [], M)) (S2 := (81, [(4, .int 0), (0, .ref m0), (1, .int (nI x)), (3, .int 0)], [], M)) rfl rfl rfl (fun c_78 => ?_) (fun c_78 => ?_)
            · exact absurd (of_decide_eq_true c_78) (by decide)
            refine ps_st (S' := (82, [(4, .int 0), (0, .ref m0), (1, .int (nI x)), (3, .int 0)], [.int (nI x)], M)) rfl rfl rfl ?_
            refine ps_st (S' := (83, [(4, .int 0), (0, .ref m0), (1, .int (nI x)), (3, .int 0)], [.int 1, .int (nI x)], M)) rfl rfl rfl ?_
            refine ps_st (S' := (84, [(4, .int 0), (0, .ref m0), (1, .int (nI x)), (3, .int 0)], [.int 2, .int 1, .int (nI x)], M)) rfl rfl rfl ?_
            refine ps_st (S' := (85, [(4, .int 0), (0, .ref m0), (1, .int (nI x)), (3, .int 0)], [.int 4, .int 2, .int 1, .int (nI x)], M)) rfl rfl rfl ?_
            refine pl_call (a := [.int (nI x), .int 1, .int 2, .int 4]) (rest := []) rfl rfl rfl (rd_several (x := x)) (fun v13 M14 q15 => ?_)
            obtain ⟨rfl, rfl⟩ := q15
            show pl _ _ _ (88, [(4, .int 0), (0, .ref m0), (1, .int (nI x)), (3, .int 0)], [.int (nI (sevN x))], M) _
            refine ps_if (S1 := (100, [], [], M)) (S2 := (91, [(4, .int 0), (0, .ref m0), (1, .int (nI x)), (3, .int 0)], [], M)) rfl rfl rfl (fun c_88 => ?_) (fun c_88 => ?_)
            · have c_88 : ¬ (nI (sevN x)) = 0 := of_decide_eq_true c_88
              have n_88 : ¬ (sevN x = 0) := fun h9 => c_88 ((eq_nI (p := sevN x) (n := 0) (Nat.lt_trans (le1_sev _) (by decide)) (by decide)).mpr h9)
              refine ps_st (S' := (101, [], [.int 0], M)) rfl rfl rfl ?_
              exact ps_ret rfl rfl (⟨congrArg (fun x => some (Value.int (nI x))) (show 0 = fitN mj c x 0 from by
                  have e3 := has_0 x 1400
                  have e4 := has_0 x 1024
                  have e5 := has_0 c 512
                  have e2 := sev_0 x
                  have b1 := le1_one x
                  have ha : ¬ absN mj x = 0 := fun h => absurd ((abs_0 mj x).mp h) (by omega)
                  unfold fitN
                  first | ((repeat first | rw [if_pos (by omega)] | rw [if_neg (by omega)]) <;> first | rfl | omega) | ((repeat' split) <;> first | rfl | (exfalso; omega) | omega)), rfl⟩)
            · have c_88 : ¬ (¬ (nI (sevN x)) = 0) := of_decide_eq_false c_88
              have n_88 : sevN x = 0 := (eq_nI (p := sevN x) (n := 0) (Nat.lt_trans (le1_sev _) (by decide)) (by decide)).mp (Decidable.not_not.mp c_88)
              refine ps_st (S' := (93, [(4, .int 0), (0, .ref m0), (1, .int (nI x)), (3, .int 0)], [.int 0], M)) rfl rfl rfl ?_
              refine ps_if (S1 := (100, [], [], M)) (S2 := (96, [(4, .int 0), (0, .ref m0), (1, .int (nI x)), (3, .int 0)], [], M)) rfl rfl rfl (fun c_93 => ?_) (fun c_93 => ?_)
              · exact absurd (of_decide_eq_true c_93) (by decide)
              refine ps_st (S' := (97, [(4, .int 0), (0, .ref m0), (1, .int (nI x)), (3, .int 0)], [.int 1], M)) rfl rfl rfl ?_
              refine ps_st (S' := (101, [], [.int 1], M)) rfl rfl rfl ?_
              exact ps_ret rfl rfl (⟨congrArg (fun x => some (Value.int (nI x))) (show 1 = fitN mj c x 0 from by
                  have e3 := has_0 x 1400
                  have e4 := has_0 x 1024
                  have e5 := has_0 c 512
                  have e2 := sev_0 x
                  have b1 := le1_one x
                  have ha : ¬ absN mj x = 0 := fun h => absurd ((abs_0 mj x).mp h) (by omega)
                  unfold fitN
                  first | ((repeat first | rw [if_pos (by omega)] | rw [if_neg (by omega)]) <;> first | rfl | omega) | ((repeat' split) <;> first | rfl | (exfalso; omega) | omega)), rfl⟩)
          · have c_67 : ¬ ((nI (aN x 2048)) = 0) := of_decide_eq_false c_67
            have n_67 : ¬ (aN x 2048 = 0) := fun h9 => c_67 ((eq_nI (p := aN x 2048) (n := 0) (Nat.lt_of_le_of_lt (an_le _ _) (by decide)) (by decide)).mpr h9)
            refine ps_st (S' := (71, [(0, .ref m0), (1, .int (nI x)), (3, .int 0)], [.int 1], M)) rfl rfl rfl ?_
            refine ps_st (S' := (75, [(0, .ref m0), (1, .int (nI x)), (3, .int 0)], [.int 1], M)) rfl rfl rfl ?_
            refine ps_st (S' := (77, [(4, .int 1), (0, .ref m0), (1, .int (nI x)), (3, .int 0)], [], M)) rfl rfl rfl ?_
            refine ps_st (S' := (78, [(4, .int 1), (0, .ref m0), (1, .int (nI x)), (3, .int 0)], [.int 0], M)) rfl rfl rfl ?_
            refine ps_if (S1 := (102, [(4, .int 1), (0, .ref m0), (1, .int (nI x)), (3, .int 0)], [], M)) (S2 := (81, [(4, .int 1), (0, .ref m0), (1, .int (nI x)), (3, .int 0)], [], M)) rfl rfl rfl (fun c_78 => ?_) (fun c_78 => ?_)
            · exact absurd (of_decide_eq_true c_78) (by decide)
            refine ps_st (S' := (82, [(4, .int 1), (0, .ref m0), (1, .int (nI x)), (3, .int 0)], [.int (nI x)], M)) rfl rfl rfl ?_
            refine ps_st (S' := (83, [(4, .int 1), (0, .ref m0), (1, .int (nI x)), (3, .int 0)], [.int 1, .int (nI x)], M)) rfl rfl rfl ?_
            refine ps_st (S' := (84, [(4, .int 1), (0, .ref m0), (1, .int (nI x)), (3, .int 0)], [.int 2, .int 1, .int (nI x)], M)) rfl rfl rfl ?_
            refine ps_st (S' := (85, [(4, .int 1), (0, .ref m0), (1, .int (nI x)), (3, .int 0)], [.int 4, .int 2, .int 1, .int (nI x)], M)) rfl rfl rfl ?_
            refine pl_call (a := [.int (nI x), .int 1, .int 2, .int 4]) (rest := []) rfl rfl rfl (rd_several (x := x)) (fun v16 M17 q18 => ?_)
            obtain ⟨rfl, rfl⟩ := q18
            show pl _ _ _ (88, [(4, .int 1), (0, .ref m0), (1, .int (nI x)), (3, .int 0)], [.int (nI (sevN x))], M) _
            refine ps_if (S1 := (100, [], [], M)) (S2 := (91, [(4, .int 1), (0, .ref m0), (1, .int (nI x)), (3, .int 0)], [], M)) rfl rfl rfl (fun c_88 => ?_) (fun c_88 => ?_)
            · have c_88 : ¬ (nI (sevN x)) = 0 := of_decide_eq_true c_88
              have n_88 : ¬ (sevN x = 0) := fun h9 => c_88 ((eq_nI (p := sevN x) (n := 0) (Nat.lt_trans (le1_sev _) (by decide)) (by decide)).mpr h9)
              refine ps_st (S' := (101, [], [.int 0], M)) rfl rfl rfl ?_
              exact ps_ret rfl rfl (⟨congrArg (fun x => some (Value.int (nI x))) (show 0 = fitN mj c x 0 from by
                  have e3 := has_0 x 1400
                  have e4 := has_0 x 1024
                  have e5 := has_0 c 512
                  have e2 := sev_0 x
                  have b1 := le1_one x
                  have ha : absN mj x = 0 := (abs_0 mj x).mpr (by omega)
                  unfold fitN
                  first | ((repeat first | rw [if_pos (by omega)] | rw [if_neg (by omega)]) <;> first | rfl | omega) | ((repeat' split) <;> first | rfl | (exfalso; omega) | omega)), rfl⟩)
            · have c_88 : ¬ (¬ (nI (sevN x)) = 0) := of_decide_eq_false c_88
              have n_88 : sevN x = 0 := (eq_nI (p := sevN x) (n := 0) (Nat.lt_trans (le1_sev _) (by decide)) (by decide)).mp (Decidable.not_not.mp c_88)
              refine ps_st (S' := (93, [(4, .int 1), (0, .ref m0), (1, .int (nI x)), (3, .int 0)], [.int 1], M)) rfl rfl rfl ?_
              refine ps_if (S1 := (100, [], [], M)) (S2 := (96, [(4, .int 1), (0, .ref m0), (1, .int (nI x)), (3, .int 0)], [], M)) rfl rfl rfl (fun c_93 => ?_) (fun c_93 => ?_)
              rotate_left
              · exact absurd (by decide) (of_decide_eq_false c_93)
              refine ps_st (S' := (101, [], [.int 0], M)) rfl rfl rfl ?_
              exact ps_ret rfl rfl (⟨congrArg (fun x => some (Value.int (nI x))) (show 0 = fitN mj c x 0 from by
                  have e3 := has_0 x 1400
                  have e4 := has_0 x 1024
                  have e5 := has_0 c 512
                  have e2 := sev_0 x
                  have b1 := le1_one x
                  have ha : absN mj x = 0 := (abs_0 mj x).mpr (by omega)
                  unfold fitN
                  first | ((repeat first | rw [if_pos (by omega)] | rw [if_neg (by omega)]) <;> first | rfl | omega) | ((repeat' split) <;> first | rfl | (exfalso; omega) | omega)), rfl⟩)
set_option maxHeartbeats 8000000 in
theorem rd_fit01 {g : xe_G} {m0 : Nat} {q : Nat → Nat} {z : Nat × Nat} {I : rI} {R : rR} {M : mi_H} {mj x c : Nat} (hR : RS g m0 q z I R M) (hi53 : I 53 = some (nI mj))  (hmj : mj < 65536) (hx : x < 65536) (hc : ¬ aN c 512 = 0) : pt (mT g) 209 [.ref m0, .int (nI x), .int 0, .int 1] M (fun v M' => (v = some (.int (nI (fitN mj c x 0))) ∧ M = M')) := by
  refine pt_in (b := mb_209 g) rfl (fun kf => ?_)
  show pl (mT g) kf (mb_209 g).2 (0, [(0, .ref m0), (1, .int (nI x)), (2, .int 0), (3, .int 1)], [], M) _
  refine ps_st (S' := (1, [(0, .ref m0), (1, .int (nI x)), (2, .int 0), (3, .int 1)], [.int 0], M)) rfl rfl rfl ?_
  refine ps_if (S1 := (28, [(0, .ref m0), (1, .int (nI x)), (2, .int 0), (3, .int 1)], [], M)) (S2 := (4, [(0, .ref m0), (1, .int (nI x)), (2, .int 0), (3, .int 1)], [], M)) rfl rfl rfl (fun c_1 => ?_) (fun c_1 => ?_)
  rotate_left
  · exact absurd (by decide) (of_decide_eq_false c_1)
  refine ps_st (S' := (29, [(0, .ref m0), (1, .int (nI x)), (2, .int 0), (3, .int 1)], [.int (nI x)], M)) rfl rfl rfl ?_
  refine ps_st (S' := (32, [(0, .ref m0), (1, .int (nI x)), (2, .int 0), (3, .int 1)], [.int 1024, .int (nI x)], M)) rfl rfl rfl ?_
  refine ps_st (S' := (33, [(0, .ref m0), (1, .int (nI x)), (2, .int 0), (3, .int 1)], [.int ((nI x) &&& 1024)], M)) rfl rfl rfl ?_
  rw [nI_an (p := x) (k := 1024) (x := 1024) rfl]
  show pl _ _ _ (_, [(0, .ref m0), (1, .int (nI x)), (2, .int 0), (3, .int 1)], [.int (nI (aN x 1024))], M) _
  refine ps_if (S1 := (74, [(0, .ref m0), (1, .int (nI x)), (3, .int 1)], [], M)) (S2 := (36, [(0, .ref m0), (1, .int (nI x)), (2, .int 0), (3, .int 1)], [], M)) rfl rfl rfl (fun c_33 => ?_) (fun c_33 => ?_)
  · have c_33 : (nI (aN x 1024)) = 0 := of_decide_eq_true c_33
    have n_33 : aN x 1024 = 0 := (eq_nI (p := aN x 1024) (n := 0) (Nat.lt_of_le_of_lt (an_le _ _) (by decide)) (by decide)).mp c_33
    refine ps_st (S' := (75, [(0, .ref m0), (1, .int (nI x)), (3, .int 1)], [.int 0], M)) rfl rfl rfl ?_
    refine ps_st (S' := (77, [(4, .int 0), (0, .ref m0), (1, .int (nI x)), (3, .int 1)], [], M)) rfl rfl rfl ?_
    refine ps_st (S' := (78, [(4, .int 0), (0, .ref m0), (1, .int (nI x)), (3, .int 1)], [.int 1], M)) rfl rfl rfl ?_
    refine ps_if (S1 := (102, [(4, .int 0), (0, .ref m0), (1, .int (nI x)), (3, .int 1)], [], M)) (S2 := (81, [(4, .int 0), (0, .ref m0), (1, .int (nI x)), (3, .int 1)], [], M)) rfl rfl rfl (fun c_78 => ?_) (fun c_78 => ?_)
    rotate_left
    · exact absurd (by decide) (of_decide_eq_false c_78)
    refine ps_st (S' := (103, [(4, .int 0), (0, .ref m0), (1, .int (nI x)), (3, .int 1)], [.int (nI x)], M)) rfl rfl rfl ?_
    refine ps_st (S' := (106, [(4, .int 0), (0, .ref m0), (1, .int (nI x)), (3, .int 1)], [.int 308, .int (nI x)], M)) rfl rfl rfl ?_
    refine ps_st (S' := (107, [(4, .int 0), (0, .ref m0), (1, .int (nI x)), (3, .int 1)], [.int ((nI x) &&& 308)], M)) rfl rfl rfl ?_
    rw [nI_an (p := x) (k := 308) (x := 308) rfl]
    show pl _ _ _ (_, [(4, .int 0), (0, .ref m0), (1, .int (nI x)), (3, .int 1)], [.int (nI (aN x 308))], M) _
    refine ps_if (S1 := (112, [(4, .int 0), (0, .ref m0), (1, .int (nI x)), (3, .int 1)], [], M)) (S2 := (110, [(4, .int 0), (0, .ref m0), (1, .int (nI x)), (3, .int 1)], [], M)) rfl rfl rfl (fun c_107 => ?_) (fun c_107 => ?_)
    · have c_107 : (nI (aN x 308)) = 0 := of_decide_eq_true c_107
      have n_107 : aN x 308 = 0 := (eq_nI (p := aN x 308) (n := 0) (Nat.lt_of_le_of_lt (an_le _ _) (by decide)) (by decide)).mp c_107
      refine ps_st (S' := (113, [(4, .int 0), (0, .ref m0), (1, .int (nI x)), (3, .int 1)], [.ref m0], M)) rfl rfl rfl ?_
      refine pr_int (j := 53) (S' := (116, [(4, .int 0), (0, .ref m0), (1, .int (nI x)), (3, .int 1)], [.int (nI mj)], M)) rfl hR rfl hi53 rfl ?_
      refine ps_st (S' := (118, [(4, .int 0), (0, .ref m0), (1, .int (nI x)), (3, .int 1)], [.int 52, .int (nI mj)], M)) rfl rfl rfl ?_
      refine ps_if2 (S1 := (145, [(4, .int 0), (0, .ref m0), (1, .int (nI x)), (3, .int 1)], [], M)) (S2 := (121, [(4, .int 0), (0, .ref m0), (1, .int (nI x)), (3, .int 1)], [], M)) rfl rfl rfl (fun c_118 => ?_) (fun c_118 => ?_)
      · have c_118 : 52 ≤ (nI mj) := of_decide_eq_true c_118
        have n_118 : 52 ≤ mj := (le_nI (p := 52) (n := mj) (by decide) (by omega)).mp c_118
        refine ps_st (S' := (146, [(4, .int 0), (0, .ref m0), (1, .int (nI x)), (3, .int 1)], [.int (nI x)], M)) rfl rfl rfl ?_
        refine ps_st (S' := (147, [(4, .int 0), (0, .ref m0), (1, .int (nI x)), (3, .int 1)], [.int 1, .int (nI x)], M)) rfl rfl rfl ?_
        refine ps_st (S' := (148, [(4, .int 0), (0, .ref m0), (1, .int (nI x)), (3, .int 1)], [.int ((nI x) &&& 1)], M)) rfl rfl rfl ?_
        rw [nI_an (p := x) (k := 1) (x := 1) rfl]
        show pl _ _ _ (_, [(4, .int 0), (0, .ref m0), (1, .int (nI x)), (3, .int 1)], [.int (nI (aN x 1))], M) _
        refine ps_if (S1 := (155, [(4, .int 0), (0, .ref m0), (1, .int (nI x)), (3, .int 1)], [], M)) (S2 := (151, [(4, .int 0), (0, .ref m0), (1, .int (nI x)), (3, .int 1)], [], M)) rfl rfl rfl (fun c_148 => ?_) (fun c_148 => ?_)
        · have c_148 : (nI (aN x 1)) = 0 := of_decide_eq_true c_148
          have n_148 : aN x 1 = 0 := (eq_nI (p := aN x 1) (n := 0) (Nat.lt_of_le_of_lt (an_le _ _) (by decide)) (by decide)).mp c_148
          refine ps_st (S' := (156, [(1, .int (nI x)), (4, .int 0)], [.int 0], M)) rfl rfl rfl ?_
          refine ps_st (S' := (157, [(1, .int (nI x)), (4, .int 0)], [.int (nI x), .int 0], M)) rfl rfl rfl ?_
          refine ps_st (S' := (158, [(1, .int (nI x)), (4, .int 0)], [.int 2, .int (nI x), .int 0], M)) rfl rfl rfl ?_
          refine ps_st (S' := (159, [(1, .int (nI x)), (4, .int 0)], [.int ((nI x) &&& 2), .int 0], M)) rfl rfl rfl ?_
          rw [nI_an (p := x) (k := 2) (x := 2) rfl]
          show pl _ _ _ (_, [(1, .int (nI x)), (4, .int 0)], [.int (nI (aN x 2)), .int 0], M) _
          refine ps_if (S1 := (166, [(1, .int (nI x)), (4, .int 0)], [.int 0], M)) (S2 := (162, [(1, .int (nI x)), (4, .int 0)], [.int 0], M)) rfl rfl rfl (fun c_159 => ?_) (fun c_159 => ?_)
          · have c_159 : (nI (aN x 2)) = 0 := of_decide_eq_true c_159
            have n_159 : aN x 2 = 0 := (eq_nI (p := aN x 2) (n := 0) (Nat.lt_of_le_of_lt (an_le _ _) (by decide)) (by decide)).mp c_159
            refine ps_st (S' := (167, [(4, .int 0)], [.int 0, .int 0], M)) rfl rfl rfl ?_
            refine ps_if2 (S1 := (172, [(4, .int 0)], [], M)) (S2 := (170, [], [], M)) rfl rfl rfl (fun c_167 => ?_) (fun c_167 => ?_)
            · exact absurd (of_decide_eq_true c_167) (by decide)
            refine ps_st (S' := (171, [], [.int 0], M)) rfl rfl rfl ?_
            exact ps_ret rfl rfl (⟨congrArg (fun x => some (Value.int (nI x))) (show 0 = fitN mj c x 0 from by
                have e3 := has_0 x 1400
                have e4 := has_0 x 1024
                have e5 := has_0 c 512
                have e2 := sev_0 x
                have b1 := le1_one x
                have b2 := le1_imh mj x
                have hi : imhN mj x = 0 := (imh_0 mj x).mpr (by omega)
                unfold fitN
                first | ((repeat first | rw [if_pos (by omega)] | rw [if_neg (by omega)]) <;> first | rfl | omega) | ((repeat' split) <;> first | rfl | (exfalso; omega) | omega)), rfl⟩)
          · have c_159 : ¬ ((nI (aN x 2)) = 0) := of_decide_eq_false c_159
            have n_159 : ¬ (aN x 2 = 0) := fun h9 => c_159 ((eq_nI (p := aN x 2) (n := 0) (Nat.lt_of_le_of_lt (an_le _ _) (by decide)) (by decide)).mpr h9)
            refine ps_st (S' := (163, [(1, .int (nI x)), (4, .int 0)], [.int 1, .int 0], M)) rfl rfl rfl ?_
            refine ps_st (S' := (167, [(4, .int 0)], [.int 1, .int 0], M)) rfl rfl rfl ?_
            refine ps_if2 (S1 := (172, [(4, .int 0)], [], M)) (S2 := (170, [], [], M)) rfl rfl rfl (fun c_167 => ?_) (fun c_167 => ?_)
            rotate_left
            · exact absurd (by decide) (of_decide_eq_false c_167)
            refine ps_st (S' := (174, [(4, .int 0)], [.int 0], M)) rfl rfl rfl ?_
            refine ps_if (S1 := (181, [(4, .int 0)], [], M)) (S2 := (177, [(4, .int 0)], [], M)) rfl rfl rfl (fun c_174 => ?_) (fun c_174 => ?_)
            · exact absurd (of_decide_eq_true c_174) (by decide)
            refine ps_st (S' := (178, [(4, .int 0)], [.int 1], M)) rfl rfl rfl ?_
            refine ps_st (S' := (182, [], [.int 1], M)) rfl rfl rfl ?_
            exact ps_ret rfl rfl (⟨congrArg (fun x => some (Value.int (nI x))) (show 1 = fitN mj c x 0 from by
                have e3 := has_0 x 1400
                have e4 := has_0 x 1024
                have e5 := has_0 c 512
                have e2 := sev_0 x
                have b1 := le1_one x
                have b2 := le1_imh mj x
                have hi : ¬ imhN mj x = 0 := fun h => absurd ((imh_0 mj x).mp h) (by omega)
                unfold fitN
                first | ((repeat first | rw [if_pos (by omega)] | rw [if_neg (by omega)]) <;> first | rfl | omega) | ((repeat' split) <;> first | rfl | (exfalso; omega) | omega)), rfl⟩)
        · have c_148 : ¬ ((nI (aN x 1)) = 0) := of_decide_eq_false c_148
          have n_148 : ¬ (aN x 1 = 0) := fun h9 => c_148 ((eq_nI (p := aN x 1) (n := 0) (Nat.lt_of_le_of_lt (an_le _ _) (by decide)) (by decide)).mpr h9)
          refine ps_st (S' := (152, [(4, .int 0), (0, .ref m0), (1, .int (nI x)), (3, .int 1)], [.int 1], M)) rfl rfl rfl ?_
          refine ps_st (S' := (156, [(1, .int (nI x)), (4, .int 0)], [.int 1], M)) rfl rfl rfl ?_
          refine ps_st (S' := (157, [(1, .int (nI x)), (4, .int 0)], [.int (nI x), .int 1], M)) rfl rfl rfl ?_
          refine ps_st (S' := (158, [(1, .int (nI x)), (4, .int 0)], [.int 2, .int (nI x), .int 1], M)) rfl rfl rfl ?_
          refine ps_st (S' := (159, [(1, .int (nI x)), (4, .int 0)], [.int ((nI x) &&& 2), .int 1], M)) rfl rfl rfl ?_
          rw [nI_an (p := x) (k := 2) (x := 2) rfl]
          show pl _ _ _ (_, [(1, .int (nI x)), (4, .int 0)], [.int (nI (aN x 2)), .int 1], M) _
          refine ps_if (S1 := (166, [(1, .int (nI x)), (4, .int 0)], [.int 1], M)) (S2 := (162, [(1, .int (nI x)), (4, .int 0)], [.int 1], M)) rfl rfl rfl (fun c_159 => ?_) (fun c_159 => ?_)
          · have c_159 : (nI (aN x 2)) = 0 := of_decide_eq_true c_159
            have n_159 : aN x 2 = 0 := (eq_nI (p := aN x 2) (n := 0) (Nat.lt_of_le_of_lt (an_le _ _) (by decide)) (by decide)).mp c_159
            refine ps_st (S' := (167, [(4, .int 0)], [.int 0, .int 1], M)) rfl rfl rfl ?_
            refine ps_if2 (S1 := (172, [(4, .int 0)], [], M)) (S2 := (170, [], [], M)) rfl rfl rfl (fun c_167 => ?_) (fun c_167 => ?_)
            rotate_left
            · exact absurd (by decide) (of_decide_eq_false c_167)
            refine ps_st (S' := (174, [(4, .int 0)], [.int 0], M)) rfl rfl rfl ?_
            refine ps_if (S1 := (181, [(4, .int 0)], [], M)) (S2 := (177, [(4, .int 0)], [], M)) rfl rfl rfl (fun c_174 => ?_) (fun c_174 => ?_)
            · exact absurd (of_decide_eq_true c_174) (by decide)
            refine ps_st (S' := (178, [(4, .int 0)], [.int 1], M)) rfl rfl rfl ?_
            refine ps_st (S' := (182, [], [.int 1], M)) rfl rfl rfl ?_
            exact ps_ret rfl rfl (⟨congrArg (fun x => some (Value.int (nI x))) (show 1 = fitN mj c x 0 from by
                have e3 := has_0 x 1400
                have e4 := has_0 x 1024
                have e5 := has_0 c 512
                have e2 := sev_0 x
                have b1 := le1_one x
                have b2 := le1_imh mj x
                have hi : ¬ imhN mj x = 0 := fun h => absurd ((imh_0 mj x).mp h) (by omega)
                unfold fitN
                first | ((repeat first | rw [if_pos (by omega)] | rw [if_neg (by omega)]) <;> first | rfl | omega) | ((repeat' split) <;> first | rfl | (exfalso; omega) | omega)), rfl⟩)
          · have c_159 : ¬ ((nI (aN x 2)) = 0) := of_decide_eq_false c_159
            have n_159 : ¬ (aN x 2 = 0) := fun h9 => c_159 ((eq_nI (p := aN x 2) (n := 0) (Nat.lt_of_le_of_lt (an_le _ _) (by decide)) (by decide)).mpr h9)
            refine ps_st (S' := (163, [(1, .int (nI x)), (4, .int 0)], [.int 1, .int 1], M)) rfl rfl rfl ?_
            refine ps_st (S' := (167, [(4, .int 0)], [.int 1, .int 1], M)) rfl rfl rfl ?_
            refine ps_if2 (S1 := (172, [(4, .int 0)], [], M)) (S2 := (170, [], [], M)) rfl rfl rfl (fun c_167 => ?_) (fun c_167 => ?_)
            · exact absurd (of_decide_eq_true c_167) (by decide)
            refine ps_st (S' := (171, [], [.int 0], M)) rfl rfl rfl ?_
            exact ps_ret rfl rfl (⟨congrArg (fun x => some (Value.int (nI x))) (show 0 = fitN mj c x 0 from by
                have e3 := has_0 x 1400
                have e4 := has_0 x 1024
                have e5 := has_0 c 512
                have e2 := sev_0 x
                have b1 := le1_one x
                have b2 := le1_imh mj x
                have hi : imhN mj x = 0 := (imh_0 mj x).mpr (by omega)
                unfold fitN
                first | ((repeat first | rw [if_pos (by omega)] | rw [if_neg (by omega)]) <;> first | rfl | omega) | ((repeat' split) <;> first | rfl | (exfalso; omega) | omega)), rfl⟩)
      · have c_118 : ¬ (52 ≤ (nI mj)) := of_decide_eq_false c_118
        have n_118 : ¬ (52 ≤ mj) := fun h9 => c_118 ((le_nI (p := 52) (n := mj) (by decide) (by omega)).mpr h9)
        refine ps_st (S' := (122, [(4, .int 0), (0, .ref m0), (1, .int (nI x)), (3, .int 1)], [.int (nI x)], M)) rfl rfl rfl ?_
        refine ps_st (S' := (123, [(4, .int 0), (0, .ref m0), (1, .int (nI x)), (3, .int 1)], [.int 1, .int (nI x)], M)) rfl rfl rfl ?_
        refine ps_st (S' := (124, [(4, .int 0), (0, .ref m0), (1, .int (nI x)), (3, .int 1)], [.int ((nI x) &&& 1)], M)) rfl rfl rfl ?_
        rw [nI_an (p := x) (k := 1) (x := 1) rfl]
        show pl _ _ _ (_, [(4, .int 0), (0, .ref m0), (1, .int (nI x)), (3, .int 1)], [.int (nI (aN x 1))], M) _
        refine ps_if (S1 := (170, [], [], M)) (S2 := (127, [(4, .int 0), (0, .ref m0), (1, .int (nI x)), (3, .int 1)], [], M)) rfl rfl rfl (fun c_124 => ?_) (fun c_124 => ?_)
        · have c_124 : (nI (aN x 1)) = 0 := of_decide_eq_true c_124
          have n_124 : aN x 1 = 0 := (eq_nI (p := aN x 1) (n := 0) (Nat.lt_of_le_of_lt (an_le _ _) (by decide)) (by decide)).mp c_124
          refine ps_st (S' := (171, [], [.int 0], M)) rfl rfl rfl ?_
          exact ps_ret rfl rfl (⟨congrArg (fun x => some (Value.int (nI x))) (show 0 = fitN mj c x 0 from by
              have e3 := has_0 x 1400
              have e4 := has_0 x 1024
              have e5 := has_0 c 512
              have e2 := sev_0 x
              have b1 := le1_one x
              have b2 := le1_imh mj x
              have hi : imhN mj x = 0 := (imh_0 mj x).mpr (by omega)
              unfold fitN
              first | ((repeat first | rw [if_pos (by omega)] | rw [if_neg (by omega)]) <;> first | rfl | omega) | ((repeat' split) <;> first | rfl | (exfalso; omega) | omega)), rfl⟩)
        · have c_124 : ¬ ((nI (aN x 1)) = 0) := of_decide_eq_false c_124
          have n_124 : ¬ (aN x 1 = 0) := fun h9 => c_124 ((eq_nI (p := aN x 1) (n := 0) (Nat.lt_of_le_of_lt (an_le _ _) (by decide)) (by decide)).mpr h9)
          refine ps_st (S' := (128, [(4, .int 0), (0, .ref m0), (1, .int (nI x)), (3, .int 1)], [.int (nI x)], M)) rfl rfl rfl ?_
          refine ps_st (S' := (131, [(4, .int 0), (0, .ref m0), (1, .int (nI x)), (3, .int 1)], [.int 1024, .int (nI x)], M)) rfl rfl rfl ?_
          refine ps_st (S' := (132, [(4, .int 0), (0, .ref m0), (1, .int (nI x)), (3, .int 1)], [.int ((nI x) &&& 1024)], M)) rfl rfl rfl ?_
          rw [nI_an (p := x) (k := 1024) (x := 1024) rfl]
          show pl _ _ _ (_, [(4, .int 0), (0, .ref m0), (1, .int (nI x)), (3, .int 1)], [.int (nI (aN x 1024))], M) _
          refine ps_if (S1 := (170, [], [], M)) (S2 := (135, [(4, .int 0), (0, .ref m0), (1, .int (nI x)), (3, .int 1)], [], M)) rfl rfl rfl (fun c_132 => ?_) (fun c_132 => ?_)
          rotate_left
          · exact absurd ((eq_nI (p := aN x 1024) (n := 0) (Nat.lt_of_le_of_lt (an_le _ _) (by decide)) (by decide)).mpr (by omega)) (of_decide_eq_false c_132)
          refine ps_st (S' := (171, [], [.int 0], M)) rfl rfl rfl ?_
          exact ps_ret rfl rfl (⟨congrArg (fun x => some (Value.int (nI x))) (show 0 = fitN mj c x 0 from by
              have e3 := has_0 x 1400
              have e4 := has_0 x 1024
              have e5 := has_0 c 512
              have e2 := sev_0 x
              have b1 := le1_one x
              have b2 := le1_imh mj x
              have hi : imhN mj x = 0 := (imh_0 mj x).mpr (by omega)
              unfold fitN
              first | ((repeat first | rw [if_pos (by omega)] | rw [if_neg (by omega)]) <;> first | rfl | omega) | ((repeat' split) <;> first | rfl | (exfalso; omega) | omega)), rfl⟩)
    · have c_107 : ¬ ((nI (aN x 308)) = 0) := of_decide_eq_false c_107
      have n_107 : ¬ (aN x 308 = 0) := fun h9 => c_107 ((eq_nI (p := aN x 308) (n := 0) (Nat.lt_of_le_of_lt (an_le _ _) (by decide)) (by decide)).mpr h9)
      refine ps_st (S' := (111, [(4, .int 0), (0, .ref m0), (1, .int (nI x)), (3, .int 1)], [.int 0], M)) rfl rfl rfl ?_
      exact ps_ret rfl rfl (⟨congrArg (fun x => some (Value.int (nI x))) (show 0 = fitN mj c x 0 from by
          have e3 := has_0 x 1400
          have e4 := has_0 x 1024
          have e5 := has_0 c 512
          have e2 := sev_0 x
          have b1 := le1_one x
          have b2 := le1_imh mj x
          have hi : imhN mj x = 0 := (imh_0 mj x).mpr (by omega)
          unfold fitN
          first | ((repeat first | rw [if_pos (by omega)] | rw [if_neg (by omega)]) <;> first | rfl | omega) | ((repeat' split) <;> first | rfl | (exfalso; omega) | omega)), rfl⟩)
  · have c_33 : ¬ ((nI (aN x 1024)) = 0) := of_decide_eq_false c_33
    have n_33 : ¬ (aN x 1024 = 0) := fun h9 => c_33 ((eq_nI (p := aN x 1024) (n := 0) (Nat.lt_of_le_of_lt (an_le _ _) (by decide)) (by decide)).mpr h9)
    refine ps_st (S' := (37, [(0, .ref m0), (1, .int (nI x)), (2, .int 0), (3, .int 1)], [.int (nI x)], M)) rfl rfl rfl ?_
    refine ps_st (S' := (40, [(0, .ref m0), (1, .int (nI x)), (2, .int 0), (3, .int 1)], [.int 314, .int (nI x)], M)) rfl rfl rfl ?_
    refine ps_st (S' := (41, [(0, .ref m0), (1, .int (nI x)), (2, .int 0), (3, .int 1)], [.int ((nI x) &&& 314)], M)) rfl rfl rfl ?_
    rw [nI_an (p := x) (k := 314) (x := 314) rfl]
    show pl _ _ _ (_, [(0, .ref m0), (1, .int (nI x)), (2, .int 0), (3, .int 1)], [.int (nI (aN x 314))], M) _
    refine ps_if (S1 := (70, [(0, .ref m0), (1, .int (nI x)), (3, .int 1)], [], M)) (S2 := (44, [(0, .ref m0), (1, .int (nI x)), (2, .int 0), (3, .int 1)], [], M)) rfl rfl rfl (fun c_41 => ?_) (fun c_41 => ?_)
    · have c_41 : ¬ (nI (aN x 314)) = 0 := of_decide_eq_true c_41
      have n_41 : ¬ (aN x 314 = 0) := fun h9 => c_41 ((eq_nI (p := aN x 314) (n := 0) (Nat.lt_of_le_of_lt (an_le _ _) (by decide)) (by decide)).mpr h9)
      refine ps_st (S' := (71, [(0, .ref m0), (1, .int (nI x)), (3, .int 1)], [.int 1], M)) rfl rfl rfl ?_
      refine ps_st (S' := (75, [(0, .ref m0), (1, .int (nI x)), (3, .int 1)], [.int 1], M)) rfl rfl rfl ?_
      refine ps_st (S' := (77, [(4, .int 1), (0, .ref m0), (1, .int (nI x)), (3, .int 1)], [], M)) rfl rfl rfl ?_
      refine ps_st (S' := (78, [(4, .int 1), (0, .ref m0), (1, .int (nI x)), (3, .int 1)], [.int 1], M)) rfl rfl rfl ?_
      refine ps_if (S1 := (102, [(4, .int 1), (0, .ref m0), (1, .int (nI x)), (3, .int 1)], [], M)) (S2 := (81, [(4, .int 1), (0, .ref m0), (1, .int (nI x)), (3, .int 1)], [], M)) rfl rfl rfl (fun c_78 => ?_) (fun c_78 => ?_)
      rotate_left
      · exact absurd (by decide) (of_decide_eq_false c_78)
      refine ps_st (S' := (103, [(4, .int 1), (0, .ref m0), (1, .int (nI x)), (3, .int 1)], [.int (nI x)], M)) rfl rfl rfl ?_
      refine ps_st (S' := (106, [(4, .int 1), (0, .ref m0), (1, .int (nI x)), (3, .int 1)], [.int 308, .int (nI x)], M)) rfl rfl rfl ?_
      refine ps_st (S' := (107, [(4, .int 1), (0, .ref m0), (1, .int (nI x)), (3, .int 1)], [.int ((nI x) &&& 308)], M)) rfl rfl rfl ?_
      rw [nI_an (p := x) (k := 308) (x := 308) rfl]
      show pl _ _ _ (_, [(4, .int 1), (0, .ref m0), (1, .int (nI x)), (3, .int 1)], [.int (nI (aN x 308))], M) _
      refine ps_if (S1 := (112, [(4, .int 1), (0, .ref m0), (1, .int (nI x)), (3, .int 1)], [], M)) (S2 := (110, [(4, .int 1), (0, .ref m0), (1, .int (nI x)), (3, .int 1)], [], M)) rfl rfl rfl (fun c_107 => ?_) (fun c_107 => ?_)
      · have c_107 : (nI (aN x 308)) = 0 := of_decide_eq_true c_107
        have n_107 : aN x 308 = 0 := (eq_nI (p := aN x 308) (n := 0) (Nat.lt_of_le_of_lt (an_le _ _) (by decide)) (by decide)).mp c_107
        refine ps_st (S' := (113, [(4, .int 1), (0, .ref m0), (1, .int (nI x)), (3, .int 1)], [.ref m0], M)) rfl rfl rfl ?_
        refine pr_int (j := 53) (S' := (116, [(4, .int 1), (0, .ref m0), (1, .int (nI x)), (3, .int 1)], [.int (nI mj)], M)) rfl hR rfl hi53 rfl ?_
        refine ps_st (S' := (118, [(4, .int 1), (0, .ref m0), (1, .int (nI x)), (3, .int 1)], [.int 52, .int (nI mj)], M)) rfl rfl rfl ?_
        refine ps_if2 (S1 := (145, [(4, .int 1), (0, .ref m0), (1, .int (nI x)), (3, .int 1)], [], M)) (S2 := (121, [(4, .int 1), (0, .ref m0), (1, .int (nI x)), (3, .int 1)], [], M)) rfl rfl rfl (fun c_118 => ?_) (fun c_118 => ?_)
        · have c_118 : 52 ≤ (nI mj) := of_decide_eq_true c_118
          have n_118 : 52 ≤ mj := (le_nI (p := 52) (n := mj) (by decide) (by omega)).mp c_118
          refine ps_st (S' := (146, [(4, .int 1), (0, .ref m0), (1, .int (nI x)), (3, .int 1)], [.int (nI x)], M)) rfl rfl rfl ?_
          refine ps_st (S' := (147, [(4, .int 1), (0, .ref m0), (1, .int (nI x)), (3, .int 1)], [.int 1, .int (nI x)], M)) rfl rfl rfl ?_
          refine ps_st (S' := (148, [(4, .int 1), (0, .ref m0), (1, .int (nI x)), (3, .int 1)], [.int ((nI x) &&& 1)], M)) rfl rfl rfl ?_
          rw [nI_an (p := x) (k := 1) (x := 1) rfl]
          show pl _ _ _ (_, [(4, .int 1), (0, .ref m0), (1, .int (nI x)), (3, .int 1)], [.int (nI (aN x 1))], M) _
          refine ps_if (S1 := (155, [(4, .int 1), (0, .ref m0), (1, .int (nI x)), (3, .int 1)], [], M)) (S2 := (151, [(4, .int 1), (0, .ref m0), (1, .int (nI x)), (3, .int 1)], [], M)) rfl rfl rfl (fun c_148 => ?_) (fun c_148 => ?_)
          · have c_148 : (nI (aN x 1)) = 0 := of_decide_eq_true c_148
            have n_148 : aN x 1 = 0 := (eq_nI (p := aN x 1) (n := 0) (Nat.lt_of_le_of_lt (an_le _ _) (by decide)) (by decide)).mp c_148
            refine ps_st (S' := (156, [(1, .int (nI x)), (4, .int 1)], [.int 0], M)) rfl rfl rfl ?_
            refine ps_st (S' := (157, [(1, .int (nI x)), (4, .int 1)], [.int (nI x), .int 0], M)) rfl rfl rfl ?_
            refine ps_st (S' := (158, [(1, .int (nI x)), (4, .int 1)], [.int 2, .int (nI x), .int 0], M)) rfl rfl rfl ?_
            refine ps_st (S' := (159, [(1, .int (nI x)), (4, .int 1)], [.int ((nI x) &&& 2), .int 0], M)) rfl rfl rfl ?_
            rw [nI_an (p := x) (k := 2) (x := 2) rfl]
            show pl _ _ _ (_, [(1, .int (nI x)), (4, .int 1)], [.int (nI (aN x 2)), .int 0], M) _
            refine ps_if (S1 := (166, [(1, .int (nI x)), (4, .int 1)], [.int 0], M)) (S2 := (162, [(1, .int (nI x)), (4, .int 1)], [.int 0], M)) rfl rfl rfl (fun c_159 => ?_) (fun c_159 => ?_)
            · have c_159 : (nI (aN x 2)) = 0 := of_decide_eq_true c_159
              have n_159 : aN x 2 = 0 := (eq_nI (p := aN x 2) (n := 0) (Nat.lt_of_le_of_lt (an_le _ _) (by decide)) (by decide)).mp c_159
              refine ps_st (S' := (167, [(4, .int 1)], [.int 0, .int 0], M)) rfl rfl rfl ?_
              refine ps_if2 (S1 := (172, [(4, .int 1)], [], M)) (S2 := (170, [], [], M)) rfl rfl rfl (fun c_167 => ?_) (fun c_167 => ?_)
              · exact absurd (of_decide_eq_true c_167) (by decide)
              refine ps_st (S' := (171, [], [.int 0], M)) rfl rfl rfl ?_
              exact ps_ret rfl rfl (⟨congrArg (fun x => some (Value.int (nI x))) (show 0 = fitN mj c x 0 from by
                  have e3 := has_0 x 1400
                  have e4 := has_0 x 1024
                  have e5 := has_0 c 512
                  have e2 := sev_0 x
                  have b1 := le1_one x
                  have ha : absN mj x = 0 := (abs_0 mj x).mpr (by omega)
                  have b2 := le1_imh mj x
                  have hi : imhN mj x = 0 := (imh_0 mj x).mpr (by omega)
                  unfold fitN
                  first | ((repeat first | rw [if_pos (by omega)] | rw [if_neg (by omega)]) <;> first | rfl | omega) | ((repeat' split) <;> first | rfl | (exfalso; omega) | omega)), rfl⟩)
            · have c_159 : ¬ ((nI (aN x 2)) = 0) := of_decide_eq_false c_159
              have n_159 : ¬ (aN x 2 = 0) := fun h9 => c_159 ((eq_nI (p := aN x 2) (n := 0) (Nat.lt_of_le_of_lt (an_le _ _) (by decide)) (by decide)).mpr h9)
              refine ps_st (S' := (163, [(1, .int (nI x)), (4, .int 1)], [.int 1, .int 0], M)) rfl rfl rfl ?_
              refine ps_st (S' := (167, [(4, .int 1)], [.int 1, .int 0], M)) rfl rfl rfl ?_
              refine ps_if2 (S1 := (172, [(4, .int 1)], [], M)) (S2 := (170, [], [], M)) rfl rfl rfl (fun c_167 => ?_) (fun c_167 => ?_)
              rotate_left
              · exact absurd (by decide) (of_decide_eq_false c_167)
              refine ps_st (S' := (174, [(4, .int 1)], [.int 1], M)) rfl rfl rfl ?_
              refine ps_if (S1 := (181, [(4, .int 1)], [], M)) (S2 := (177, [(4, .int 1)], [], M)) rfl rfl rfl (fun c_174 => ?_) (fun c_174 => ?_)
              rotate_left
              · exact absurd (by decide) (of_decide_eq_false c_174)
              refine ps_st (S' := (182, [], [.int 0], M)) rfl rfl rfl ?_
              exact ps_ret rfl rfl (⟨congrArg (fun x => some (Value.int (nI x))) (show 0 = fitN mj c x 0 from by
                  have e3 := has_0 x 1400
                  have e4 := has_0 x 1024
                  have e5 := has_0 c 512
                  have e2 := sev_0 x
                  have b1 := le1_one x
                  have ha : absN mj x = 0 := (abs_0 mj x).mpr (by omega)
                  have b2 := le1_imh mj x
                  have hi : ¬ imhN mj x = 0 := fun h => absurd ((imh_0 mj x).mp h) (by omega)
                  unfold fitN
                  first | ((repeat first | rw [if_pos (by omega)] | rw [if_neg (by omega)]) <;> first | rfl | omega) | ((repeat' split) <;> first | rfl | (exfalso; omega) | omega)), rfl⟩)
          · have c_148 : ¬ ((nI (aN x 1)) = 0) := of_decide_eq_false c_148
            have n_148 : ¬ (aN x 1 = 0) := fun h9 => c_148 ((eq_nI (p := aN x 1) (n := 0) (Nat.lt_of_le_of_lt (an_le _ _) (by decide)) (by decide)).mpr h9)
            refine ps_st (S' := (152, [(4, .int 1), (0, .ref m0), (1, .int (nI x)), (3, .int 1)], [.int 1], M)) rfl rfl rfl ?_
            refine ps_st (S' := (156, [(1, .int (nI x)), (4, .int 1)], [.int 1], M)) rfl rfl rfl ?_
            refine ps_st (S' := (157, [(1, .int (nI x)), (4, .int 1)], [.int (nI x), .int 1], M)) rfl rfl rfl ?_
            refine ps_st (S' := (158, [(1, .int (nI x)), (4, .int 1)], [.int 2, .int (nI x), .int 1], M)) rfl rfl rfl ?_
            refine ps_st (S' := (159, [(1, .int (nI x)), (4, .int 1)], [.int ((nI x) &&& 2), .int 1], M)) rfl rfl rfl ?_
            rw [nI_an (p := x) (k := 2) (x := 2) rfl]
            show pl _ _ _ (_, [(1, .int (nI x)), (4, .int 1)], [.int (nI (aN x 2)), .int 1], M) _
            refine ps_if (S1 := (166, [(1, .int (nI x)), (4, .int 1)], [.int 1], M)) (S2 := (162, [(1, .int (nI x)), (4, .int 1)], [.int 1], M)) rfl rfl rfl (fun c_159 => ?_) (fun c_159 => ?_)
            · have c_159 : (nI (aN x 2)) = 0 := of_decide_eq_true c_159
              have n_159 : aN x 2 = 0 := (eq_nI (p := aN x 2) (n := 0) (Nat.lt_of_le_of_lt (an_le _ _) (by decide)) (by decide)).mp c_159
              refine ps_st (S' := (167, [(4, .int 1)], [.int 0, .int 1], M)) rfl rfl rfl ?_
              refine ps_if2 (S1 := (172, [(4, .int 1)], [], M)) (S2 := (170, [], [], M)) rfl rfl rfl (fun c_167 => ?_) (fun c_167 => ?_)
              rotate_left
              · exact absurd (by decide) (of_decide_eq_false c_167)
              refine ps_st (S' := (174, [(4, .int 1)], [.int 1], M)) rfl rfl rfl ?_
              refine ps_if (S1 := (181, [(4, .int 1)], [], M)) (S2 := (177, [(4, .int 1)], [], M)) rfl rfl rfl (fun c_174 => ?_) (fun c_174 => ?_)
              rotate_left
              · exact absurd (by decide) (of_decide_eq_false c_174)
              refine ps_st (S' := (182, [], [.int 0], M)) rfl rfl rfl ?_
              exact ps_ret rfl rfl (⟨congrArg (fun x => some (Value.int (nI x))) (show 0 = fitN mj c x 0 from by
                  have e3 := has_0 x 1400
                  have e4 := has_0 x 1024
                  have e5 := has_0 c 512
                  have e2 := sev_0 x
                  have b1 := le1_one x
                  have ha : absN mj x = 0 := (abs_0 mj x).mpr (by omega)
                  have b2 := le1_imh mj x
                  have hi : ¬ imhN mj x = 0 := fun h => absurd ((imh_0 mj x).mp h) (by omega)
                  unfold fitN
                  first | ((repeat first | rw [if_pos (by omega)] | rw [if_neg (by omega)]) <;> first | rfl | omega) | ((repeat' split) <;> first | rfl | (exfalso; omega) | omega)), rfl⟩)
            · have c_159 : ¬ ((nI (aN x 2)) = 0) := of_decide_eq_false c_159
              have n_159 : ¬ (aN x 2 = 0) := fun h9 => c_159 ((eq_nI (p := aN x 2) (n := 0) (Nat.lt_of_le_of_lt (an_le _ _) (by decide)) (by decide)).mpr h9)
              refine ps_st (S' := (163, [(1, .int (nI x)), (4, .int 1)], [.int 1, .int 1], M)) rfl rfl rfl ?_
              refine ps_st (S' := (167, [(4, .int 1)], [.int 1, .int 1], M)) rfl rfl rfl ?_
              refine ps_if2 (S1 := (172, [(4, .int 1)], [], M)) (S2 := (170, [], [], M)) rfl rfl rfl (fun c_167 => ?_) (fun c_167 => ?_)
              · exact absurd (of_decide_eq_true c_167) (by decide)
              refine ps_st (S' := (171, [], [.int 0], M)) rfl rfl rfl ?_
              exact ps_ret rfl rfl (⟨congrArg (fun x => some (Value.int (nI x))) (show 0 = fitN mj c x 0 from by
                  have e3 := has_0 x 1400
                  have e4 := has_0 x 1024
                  have e5 := has_0 c 512
                  have e2 := sev_0 x
                  have b1 := le1_one x
                  have ha : absN mj x = 0 := (abs_0 mj x).mpr (by omega)
                  have b2 := le1_imh mj x
                  have hi : imhN mj x = 0 := (imh_0 mj x).mpr (by omega)
                  unfold fitN
                  first | ((repeat first | rw [if_pos (by omega)] | rw [if_neg (by omega)]) <;> first | rfl | omega) | ((repeat' split) <;> first | rfl | (exfalso; omega) | omega)), rfl⟩)
        · have c_118 : ¬ (52 ≤ (nI mj)) := of_decide_eq_false c_118
          have n_118 : ¬ (52 ≤ mj) := fun h9 => c_118 ((le_nI (p := 52) (n := mj) (by decide) (by omega)).mpr h9)
          refine ps_st (S' := (122, [(4, .int 1), (0, .ref m0), (1, .int (nI x)), (3, .int 1)], [.int (nI x)], M)) rfl rfl rfl ?_
          refine ps_st (S' := (123, [(4, .int 1), (0, .ref m0), (1, .int (nI x)), (3, .int 1)], [.int 1, .int (nI x)], M)) rfl rfl rfl ?_
          refine ps_st (S' := (124, [(4, .int 1), (0, .ref m0), (1, .int (nI x)), (3, .int 1)], [.int ((nI x) &&& 1)], M)) rfl rfl rfl ?_
          rw [nI_an (p := x) (k := 1) (x := 1) rfl]
          show pl _ _ _ (_, [(4, .int 1), (0, .ref m0), (1, .int (nI x)), (3, .int 1)], [.int (nI (aN x 1))], M) _
          refine ps_if (S1 := (170, [], [], M)) (S2 := (127, [(4, .int 1), (0, .ref m0), (1, .int (nI x)), (3, .int 1)], [], M)) rfl rfl rfl (fun c_124 => ?_) (fun c_124 => ?_)
          · have c_124 : (nI (aN x 1)) = 0 := of_decide_eq_true c_124
            have n_124 : aN x 1 = 0 := (eq_nI (p := aN x 1) (n := 0) (Nat.lt_of_le_of_lt (an_le _ _) (by decide)) (by decide)).mp c_124
            refine ps_st (S' := (171, [], [.int 0], M)) rfl rfl rfl ?_
            exact ps_ret rfl rfl (⟨congrArg (fun x => some (Value.int (nI x))) (show 0 = fitN mj c x 0 from by
                have e3 := has_0 x 1400
                have e4 := has_0 x 1024
                have e5 := has_0 c 512
                have e2 := sev_0 x
                have b1 := le1_one x
                have ha : absN mj x = 0 := (abs_0 mj x).mpr (by omega)
                have b2 := le1_imh mj x
                have hi : imhN mj x = 0 := (imh_0 mj x).mpr (by omega)
                unfold fitN
                first | ((repeat first | rw [if_pos (by omega)] | rw [if_neg (by omega)]) <;> first | rfl | omega) | ((repeat' split) <;> first | rfl | (exfalso; omega) | omega)), rfl⟩)
          · have c_124 : ¬ ((nI (aN x 1)) = 0) := of_decide_eq_false c_124
            have n_124 : ¬ (aN x 1 = 0) := fun h9 => c_124 ((eq_nI (p := aN x 1) (n := 0) (Nat.lt_of_le_of_lt (an_le _ _) (by decide)) (by decide)).mpr h9)
            refine ps_st (S' := (128, [(4, .int 1), (0, .ref m0), (1, .int (nI x)), (3, .int 1)], [.int (nI x)], M)) rfl rfl rfl ?_
            refine ps_st (S' := (131, [(4, .int 1), (0, .ref m0), (1, .int (nI x)), (3, .int 1)], [.int 1024, .int (nI x)], M)) rfl rfl rfl ?_
            refine ps_st (S' := (132, [(4, .int 1), (0, .ref m0), (1, .int (nI x)), (3, .int 1)], [.int ((nI x) &&& 1024)], M)) rfl rfl rfl ?_
            rw [nI_an (p := x) (k := 1024) (x := 1024) rfl]
            show pl _ _ _ (_, [(4, .int 1), (0, .ref m0), (1, .int (nI x)), (3, .int 1)], [.int (nI (aN x 1024))], M) _
            refine ps_if (S1 := (170, [], [], M)) (S2 := (135, [(4, .int 1), (0, .ref m0), (1, .int (nI x)), (3, .int 1)], [], M)) rfl rfl rfl (fun c_132 => ?_) (fun c_132 => ?_)
            · exact absurd (of_decide_eq_true c_132) (show ¬ ((nI (aN x 1024)) = 0) from fun h9 => absurd ((eq_nI (p := aN x 1024) (n := 0) (Nat.lt_of_le_of_lt (an_le _ _) (by decide)) (by decide)).mp h9) (by omega))
            refine ps_st (S' := (136, [(4, .int 1), (0, .ref m0), (1, .int (nI x)), (3, .int 1)], [.int (nI x)], M)) rfl rfl rfl ?_
            refine ps_st (S' := (138, [(4, .int 1), (0, .ref m0), (1, .int (nI x)), (3, .int 1)], [.int 8, .int (nI x)], M)) rfl rfl rfl ?_
            refine ps_st (S' := (139, [(4, .int 1), (0, .ref m0), (1, .int (nI x)), (3, .int 1)], [.int ((nI x) &&& 8)], M)) rfl rfl rfl ?_
            rw [nI_an (p := x) (k := 8) (x := 8) rfl]
            show pl _ _ _ (_, [(4, .int 1), (0, .ref m0), (1, .int (nI x)), (3, .int 1)], [.int (nI (aN x 8))], M) _
            refine ps_if (S1 := (172, [(4, .int 1)], [], M)) (S2 := (142, [(4, .int 1), (0, .ref m0), (1, .int (nI x)), (3, .int 1)], [], M)) rfl rfl rfl (fun c_139 => ?_) (fun c_139 => ?_)
            · have c_139 : (nI (aN x 8)) = 0 := of_decide_eq_true c_139
              have n_139 : aN x 8 = 0 := (eq_nI (p := aN x 8) (n := 0) (Nat.lt_of_le_of_lt (an_le _ _) (by decide)) (by decide)).mp c_139
              refine ps_st (S' := (174, [(4, .int 1)], [.int 1], M)) rfl rfl rfl ?_
              refine ps_if (S1 := (181, [(4, .int 1)], [], M)) (S2 := (177, [(4, .int 1)], [], M)) rfl rfl rfl (fun c_174 => ?_) (fun c_174 => ?_)
              rotate_left
              · exact absurd (by decide) (of_decide_eq_false c_174)
              refine ps_st (S' := (182, [], [.int 0], M)) rfl rfl rfl ?_
              exact ps_ret rfl rfl (⟨congrArg (fun x => some (Value.int (nI x))) (show 0 = fitN mj c x 0 from by
                  have e3 := has_0 x 1400
                  have e4 := has_0 x 1024
                  have e5 := has_0 c 512
                  have e2 := sev_0 x
                  have b1 := le1_one x
                  have ha : absN mj x = 0 := (abs_0 mj x).mpr (by omega)
                  have b2 := le1_imh mj x
                  have hi : ¬ imhN mj x = 0 := fun h => absurd ((imh_0 mj x).mp h) (by omega)
                  unfold fitN
                  first | ((repeat first | rw [if_pos (by omega)] | rw [if_neg (by omega)]) <;> first | rfl | omega) | ((repeat' split) <;> first | rfl | (exfalso; omega) | omega)), rfl⟩)
            · have c_139 : ¬ ((nI (aN x 8)) = 0) := of_decide_eq_false c_139
              have n_139 : ¬ (aN x 8 = 0) := fun h9 => c_139 ((eq_nI (p := aN x 8) (n := 0) (Nat.lt_of_le_of_lt (an_le _ _) (by decide)) (by decide)).mpr h9)
              refine ps_st (S' := (170, [], [], M)) rfl rfl rfl ?_
              refine ps_st (S' := (171, [], [.int 0], M)) rfl rfl rfl ?_
              exact ps_ret rfl rfl (⟨congrArg (fun x => some (Value.int (nI x))) (show 0 = fitN mj c x 0 from by
                  have e3 := has_0 x 1400
                  have e4 := has_0 x 1024
                  have e5 := has_0 c 512
                  have e2 := sev_0 x
                  have b1 := le1_one x
                  have ha : absN mj x = 0 := (abs_0 mj x).mpr (by omega)
                  have b2 := le1_imh mj x
                  have hi : imhN mj x = 0 := (imh_0 mj x).mpr (by omega)
                  unfold fitN
                  first | ((repeat first | rw [if_pos (by omega)] | rw [if_neg (by omega)]) <;> first | rfl | omega) | ((repeat' split) <;> first | rfl | (exfalso; omega) | omega)), rfl⟩)
      · have c_107 : ¬ ((nI (aN x 308)) = 0) := of_decide_eq_false c_107
        have n_107 : ¬ (aN x 308 = 0) := fun h9 => c_107 ((eq_nI (p := aN x 308) (n := 0) (Nat.lt_of_le_of_lt (an_le _ _) (by decide)) (by decide)).mpr h9)
        refine ps_st (S' := (111, [(4, .int 1), (0, .ref m0), (1, .int (nI x)), (3, .int 1)], [.int 0], M)) rfl rfl rfl ?_
        exact ps_ret rfl rfl (⟨congrArg (fun x => some (Value.int (nI x))) (show 0 = fitN mj c x 0 from by
            have e3 := has_0 x 1400
            have e4 := has_0 x 1024
            have e5 := has_0 c 512
            have e2 := sev_0 x
            have b1 := le1_one x
            have ha : absN mj x = 0 := (abs_0 mj x).mpr (by omega)
            have b2 := le1_imh mj x
            have hi : imhN mj x = 0 := (imh_0 mj x).mpr (by omega)
            unfold fitN
            first | ((repeat first | rw [if_pos (by omega)] | rw [if_neg (by omega)]) <;> first | rfl | omega) | ((repeat' split) <;> first | rfl | (exfalso; omega) | omega)), rfl⟩)
    · have c_41 : ¬ (¬ (nI (aN x 314)) = 0) := of_decide_eq_false c_41
      have n_41 : aN x 314 = 0 := (eq_nI (p := aN x 314) (n := 0) (Nat.lt_of_le_of_lt (an_le _ _) (by decide)) (by decide)).mp (Decidable.not_not.mp c_41)
      refine ps_st (S' := (45, [(0, .ref m0), (1, .int (nI x)), (2, .int 0), (3, .int 1)], [.ref m0], M)) rfl rfl rfl ?_
      refine pr_int (j := 53) (S' := (48, [(0, .ref m0), (1, .int (nI x)), (2, .int 0), (3, .int 1)], [.int (nI mj)], M)) rfl hR rfl hi53 rfl ?_
      refine ps_st (S' := (50, [(0, .ref m0), (1, .int (nI x)), (2, .int 0), (3, .int 1)], [.int 46, .int (nI mj)], M)) rfl rfl rfl ?_
      refine ps_if2 (S1 := (74, [(0, .ref m0), (1, .int (nI x)), (3, .int 1)], [], M)) (S2 := (53, [(0, .ref m0), (1, .int (nI x)), (2, .int 0), (3, .int 1)], [], M)) rfl rfl rfl (fun c_50 => ?_) (fun c_50 => ?_)
      · have c_50 : (nI mj) < 46 := of_decide_eq_true c_50
        have n_50 : mj < 46 := (lt_nI (p := mj) (n := 46) (by omega) (by decide)).mp c_50
        refine ps_st (S' := (75, [(0, .ref m0), (1, .int (nI x)), (3, .int 1)], [.int 0], M)) rfl rfl rfl ?_
        refine ps_st (S' := (77, [(4, .int 0), (0, .ref m0), (1, .int (nI x)), (3, .int 1)], [], M)) rfl rfl rfl ?_
        refine ps_st (S' := (78, [(4, .int 0), (0, .ref m0), (1, .int (nI x)), (3, .int 1)], [.int 1], M)) rfl rfl rfl ?_
        refine ps_if (S1 := (102, [(4, .int 0), (0, .ref m0), (1, .int (nI x)), (3, .int 1)], [], M)) (S2 := (81, [(4, .int 0), (0, .ref m0), (1, .int (nI x)), (3, .int 1)], [], M)) rfl rfl rfl (fun c_78 => ?_) (fun c_78 => ?_)
        rotate_left
        · exact absurd (by decide) (of_decide_eq_false c_78)
        refine ps_st (S' := (103, [(4, .int 0), (0, .ref m0), (1, .int (nI x)), (3, .int 1)], [.int (nI x)], M)) rfl rfl rfl ?_
        refine ps_st (S' := (106, [(4, .int 0), (0, .ref m0), (1, .int (nI x)), (3, .int 1)], [.int 308, .int (nI x)], M)) rfl rfl rfl ?_
        refine ps_st (S' := (107, [(4, .int 0), (0, .ref m0), (1, .int (nI x)), (3, .int 1)], [.int ((nI x) &&& 308)], M)) rfl rfl rfl ?_
        rw [nI_an (p := x) (k := 308) (x := 308) rfl]
        show pl _ _ _ (_, [(4, .int 0), (0, .ref m0), (1, .int (nI x)), (3, .int 1)], [.int (nI (aN x 308))], M) _
        refine ps_if (S1 := (112, [(4, .int 0), (0, .ref m0), (1, .int (nI x)), (3, .int 1)], [], M)) (S2 := (110, [(4, .int 0), (0, .ref m0), (1, .int (nI x)), (3, .int 1)], [], M)) rfl rfl rfl (fun c_107 => ?_) (fun c_107 => ?_)
        · have c_107 : (nI (aN x 308)) = 0 := of_decide_eq_true c_107
          have n_107 : aN x 308 = 0 := (eq_nI (p := aN x 308) (n := 0) (Nat.lt_of_le_of_lt (an_le _ _) (by decide)) (by decide)).mp c_107
          refine ps_st (S' := (113, [(4, .int 0), (0, .ref m0), (1, .int (nI x)), (3, .int 1)], [.ref m0], M)) rfl rfl rfl ?_
          refine pr_int (j := 53) (S' := (116, [(4, .int 0), (0, .ref m0), (1, .int (nI x)), (3, .int 1)], [.int (nI mj)], M)) rfl hR rfl hi53 rfl ?_
          refine ps_st (S' := (118, [(4, .int 0), (0, .ref m0), (1, .int (nI x)), (3, .int 1)], [.int 52, .int (nI mj)], M)) rfl rfl rfl ?_
          refine ps_if2 (S1 := (145, [(4, .int 0), (0, .ref m0), (1, .int (nI x)), (3, .int 1)], [], M)) (S2 := (121, [(4, .int 0), (0, .ref m0), (1, .int (nI x)), (3, .int 1)], [], M)) rfl rfl rfl (fun c_118 => ?_) (fun c_118 => ?_)
          · exact absurd (of_decide_eq_true c_118) (show ¬ (52 ≤ (nI mj)) from fun h9 => absurd ((le_nI (p := 52) (n := mj) (by decide) (by omega)).mp h9) (by omega))
          refine ps_st (S' := (122, [(4, .int 0), (0, .ref m0), (1, .int (nI x)), (3, .int 1)], [.int (nI x)], M)) rfl rfl rfl ?_
          refine ps_st (S' := (123, [(4, .int 0), (0, .ref m0), (1, .int (nI x)), (3, .int 1)], [.int 1, .int (nI x)], M)) rfl rfl rfl ?_
          refine ps_st (S' := (124, [(4, .int 0), (0, .ref m0), (1, .int (nI x)), (3, .int 1)], [.int ((nI x) &&& 1)], M)) rfl rfl rfl ?_
          rw [nI_an (p := x) (k := 1) (x := 1) rfl]
          show pl _ _ _ (_, [(4, .int 0), (0, .ref m0), (1, .int (nI x)), (3, .int 1)], [.int (nI (aN x 1))], M) _
          refine ps_if (S1 := (170, [], [], M)) (S2 := (127, [(4, .int 0), (0, .ref m0), (1, .int (nI x)), (3, .int 1)], [], M)) rfl rfl rfl (fun c_124 => ?_) (fun c_124 => ?_)
          · have c_124 : (nI (aN x 1)) = 0 := of_decide_eq_true c_124
            have n_124 : aN x 1 = 0 := (eq_nI (p := aN x 1) (n := 0) (Nat.lt_of_le_of_lt (an_le _ _) (by decide)) (by decide)).mp c_124
            refine ps_st (S' := (171, [], [.int 0], M)) rfl rfl rfl ?_
            exact ps_ret rfl rfl (⟨congrArg (fun x => some (Value.int (nI x))) (show 0 = fitN mj c x 0 from by
                have e3 := has_0 x 1400
                have e4 := has_0 x 1024
                have e5 := has_0 c 512
                have e2 := sev_0 x
                have b1 := le1_one x
                have ha : ¬ absN mj x = 0 := fun h => absurd ((abs_0 mj x).mp h) (by omega)
                have b2 := le1_imh mj x
                have hi : imhN mj x = 0 := (imh_0 mj x).mpr (by omega)
                unfold fitN
                first | ((repeat first | rw [if_pos (by omega)] | rw [if_neg (by omega)]) <;> first | rfl | omega) | ((repeat' split) <;> first | rfl | (exfalso; omega) | omega)), rfl⟩)
          · have c_124 : ¬ ((nI (aN x 1)) = 0) := of_decide_eq_false c_124
            have n_124 : ¬ (aN x 1 = 0) := fun h9 => c_124 ((eq_nI (p := aN x 1) (n := 0) (Nat.lt_of_le_of_lt (an_le _ _) (by decide)) (by decide)).mpr h9)
            refine ps_st (S' := (128, [(4, .int 0), (0, .ref m0), (1, .int (nI x)), (3, .int 1)], [.int (nI x)], M)) rfl rfl rfl ?_
            refine ps_st (S' := (131, [(4, .int 0), (0, .ref m0), (1, .int (nI x)), (3, .int 1)], [.int 1024, .int (nI x)], M)) rfl rfl rfl ?_
            refine ps_st (S' := (132, [(4, .int 0), (0, .ref m0), (1, .int (nI x)), (3, .int 1)], [.int ((nI x) &&& 1024)], M)) rfl rfl rfl ?_
            rw [nI_an (p := x) (k := 1024) (x := 1024) rfl]
            show pl _ _ _ (_, [(4, .int 0), (0, .ref m0), (1, .int (nI x)), (3, .int 1)], [.int (nI (aN x 1024))], M) _
            refine ps_if (S1 := (170, [], [], M)) (S2 := (135, [(4, .int 0), (0, .ref m0), (1, .int (nI x)), (3, .int 1)], [], M)) rfl rfl rfl (fun c_132 => ?_) (fun c_132 => ?_)
            · exact absurd (of_decide_eq_true c_132) (show ¬ ((nI (aN x 1024)) = 0) from fun h9 => absurd ((eq_nI (p := aN x 1024) (n := 0) (Nat.lt_of_le_of_lt (an_le _ _) (by decide)) (by decide)).mp h9) (by omega))
            refine ps_st (S' := (136, [(4, .int 0), (0, .ref m0), (1, .int (nI x)), (3, .int 1)], [.int (nI x)], M)) rfl rfl rfl ?_
            refine ps_st (S' := (138, [(4, .int 0), (0, .ref m0), (1, .int (nI x)), (3, .int 1)], [.int 8, .int (nI x)], M)) rfl rfl rfl ?_
            refine ps_st (S' := (139, [(4, .int 0), (0, .ref m0), (1, .int (nI x)), (3, .int 1)], [.int ((nI x) &&& 8)], M)) rfl rfl rfl ?_
            rw [nI_an (p := x) (k := 8) (x := 8) rfl]
            show pl _ _ _ (_, [(4, .int 0), (0, .ref m0), (1, .int (nI x)), (3, .int 1)], [.int (nI (aN x 8))], M) _
            refine ps_if (S1 := (172, [(4, .int 0)], [], M)) (S2 := (142, [(4, .int 0), (0, .ref m0), (1, .int (nI x)), (3, .int 1)], [], M)) rfl rfl rfl (fun c_139 => ?_) (fun c_139 => ?_)
            · have c_139 : (nI (aN x 8)) = 0 := of_decide_eq_true c_139
              have n_139 : aN x 8 = 0 := (eq_nI (p := aN x 8) (n := 0) (Nat.lt_of_le_of_lt (an_le _ _) (by decide)) (by decide)).mp c_139
              refine ps_st (S' := (174, [(4, .int 0)], [.int 0], M)) rfl rfl rfl ?_
              refine ps_if (S1 := (181, [(4, .int 0)], [], M)) (S2 := (177, [(4, .int 0)], [], M)) rfl rfl rfl (fun c_174 => ?_) (fun c_174 => ?_)
              · exact absurd (of_decide_eq_true c_174) (by decide)
              refine ps_st (S' := (178, [(4, .int 0)], [.int 1], M)) rfl rfl rfl ?_
              refine ps_st (S' := (182, [], [.int 1], M)) rfl rfl rfl ?_
              exact ps_ret rfl rfl (⟨congrArg (fun x => some (Value.int (nI x))) (show 1 = fitN mj c x 0 from by
                  have e3 := has_0 x 1400
                  have e4 := has_0 x 1024
                  have e5 := has_0 c 512
                  have e2 := sev_0 x
                  have b1 := le1_one x
                  have ha : ¬ absN mj x = 0 := fun h => absurd ((abs_0 mj x).mp h) (by omega)
                  have b2 := le1_imh mj x
                  have hi : ¬ imhN mj x = 0 := fun h => absurd ((imh_0 mj x).mp h) (by omega)
                  unfold fitN
                  first | ((repeat first | rw [if_pos (by omega)] | rw [if_neg (by omega)]) <;> first | rfl | omega) | ((repeat' split) <;> first | rfl | (exfalso; omega) | omega)), rfl⟩)
            · have c_139 : ¬ ((nI (aN x 8)) = 0) := of_decide_eq_false c_139
              have n_139 : ¬ (aN x 8 = 0) := fun h9 => c_139 ((eq_nI (p := aN x 8) (n := 0) (Nat.lt_of_le_of_lt (an_le _ _) (by decide)) (by decide)).mpr h9)
              refine ps_st (S' := (170, [], [], M)) rfl rfl rfl ?_
              refine ps_st (S' := (171, [], [.int 0], M)) rfl rfl rfl ?_
              exact ps_ret rfl rfl (⟨congrArg (fun x => some (Value.int (nI x))) (show 0 = fitN mj c x 0 from by
                  have e3 := has_0 x 1400
                  have e4 := has_0 x 1024
                  have e5 := has_0 c 512
                  have e2 := sev_0 x
                  have b1 := le1_one x
                  have ha : ¬ absN mj x = 0 := fun h => absurd ((abs_0 mj x).mp h) (by omega)
                  have b2 := le1_imh mj x
                  have hi : imhN mj x = 0 := (imh_0 mj x).mpr (by omega)
                  unfold fitN
                  first | ((repeat first | rw [if_pos (by omega)] | rw [if_neg (by omega)]) <;> first | rfl | omega) | ((repeat' split) <;> first | rfl | (exfalso; omega) | omega)), rfl⟩)
        · have c_107 : ¬ ((nI (aN x 308)) = 0) := of_decide_eq_false c_107
          have n_107 : ¬ (aN x 308 = 0) := fun h9 => c_107 ((eq_nI (p := aN x 308) (n := 0) (Nat.lt_of_le_of_lt (an_le _ _) (by decide)) (by decide)).mpr h9)
          refine ps_st (S' := (111, [(4, .int 0), (0, .ref m0), (1, .int (nI x)), (3, .int 1)], [.int 0], M)) rfl rfl rfl ?_
          exact ps_ret rfl rfl (⟨congrArg (fun x => some (Value.int (nI x))) (show 0 = fitN mj c x 0 from by
              have e3 := has_0 x 1400
              have e4 := has_0 x 1024
              have e5 := has_0 c 512
              have e2 := sev_0 x
              have b1 := le1_one x
              have ha : ¬ absN mj x = 0 := fun h => absurd ((abs_0 mj x).mp h) (by omega)
              have b2 := le1_imh mj x
              have hi : imhN mj x = 0 := (imh_0 mj x).mpr (by omega)
              unfold fitN
              first | ((repeat first | rw [if_pos (by omega)] | rw [if_neg (by omega)]) <;> first | rfl | omega) | ((repeat' split) <;> first | rfl | (exfalso; omega) | omega)), rfl⟩)
      · have c_50 : ¬ ((nI mj) < 46) := of_decide_eq_false c_50
        have n_50 : ¬ (mj < 46) := fun h9 => c_50 ((lt_nI (p := mj) (n := 46) (by omega) (by decide)).mpr h9)
        refine ps_st (S' := (54, [(0, .ref m0), (1, .int (nI x)), (2, .int 0), (3, .int 1)], [.ref m0], M)) rfl rfl rfl ?_
        refine pr_int (j := 53) (S' := (57, [(0, .ref m0), (1, .int (nI x)), (2, .int 0), (3, .int 1)], [.int (nI mj)], M)) rfl hR rfl hi53 rfl ?_
        refine ps_st (S' := (59, [(0, .ref m0), (1, .int (nI x)), (2, .int 0), (3, .int 1)], [.int 60, .int (nI mj)], M)) rfl rfl rfl ?_
        refine ps_if2 (S1 := (74, [(0, .ref m0), (1, .int (nI x)), (3, .int 1)], [], M)) (S2 := (62, [(0, .ref m0), (1, .int (nI x)), (2, .int 0), (3, .int 1)], [], M)) rfl rfl rfl (fun c_59 => ?_) (fun c_59 => ?_)
        · have c_59 : 60 < (nI mj) := of_decide_eq_true c_59
          have n_59 : 60 < mj := (lt_nI (p := 60) (n := mj) (by decide) (by omega)).mp c_59
          refine ps_st (S' := (75, [(0, .ref m0), (1, .int (nI x)), (3, .int 1)], [.int 0], M)) rfl rfl rfl ?_
          refine ps_st (S' := (77, [(4, .int 0), (0, .ref m0), (1, .int (nI x)), (3, .int 1)], [], M)) rfl rfl rfl ?_
          refine ps_st (S' := (78, [(4, .int 0), (0, .ref m0), (1, .int (nI x)), (3, .int 1)], [.int 1], M)) rfl rfl rfl ?_
          refine ps_if (S1 := (102, [(4, .int 0), (0, .ref m0), (1, .int (nI x)), (3, .int 1)], [], M)) (S2 := (81, [(4, .int 0), (0, .ref m0), (1, .int (nI x)), (3, .int 1)], [], M)) rfl rfl rfl (fun c_78 => ?_) (fun c_78 => ?_)
          rotate_left
          · exact absurd (by decide) (of_decide_eq_false c_78)
          refine ps_st (S' := (103, [(4, .int 0), (0, .ref m0), (1, .int (nI x)), (3, .int 1)], [.int (nI x)], M)) rfl rfl rfl ?_
          refine ps_st (S' := (106, [(4, .int 0), (0, .ref m0), (1, .int (nI x)), (3, .int 1)], [.int 308, .int (nI x)], M)) rfl rfl rfl ?_
          refine ps_st (S' := (107, [(4, .int 0), (0, .ref m0), (1, .int (nI x)), (3, .int 1)], [.int ((nI x) &&& 308)], M)) rfl rfl rfl ?_
          rw [nI_an (p := x) (k := 308) (x := 308) rfl]
          show pl _ _ _ (_, [(4, .int 0), (0, .ref m0), (1, .int (nI x)), (3, .int 1)], [.int (nI (aN x 308))], M) _
          refine ps_if (S1 := (112, [(4, .int 0), (0, .ref m0), (1, .int (nI x)), (3, .int 1)], [], M)) (S2 := (110, [(4, .int 0), (0, .ref m0), (1, .int (nI x)), (3, .int 1)], [], M)) rfl rfl rfl (fun c_107 => ?_) (fun c_107 => ?_)
          · have c_107 : (nI (aN x 308)) = 0 := of_decide_eq_true c_107
            have n_107 : aN x 308 = 0 := (eq_nI (p := aN x 308) (n := 0) (Nat.lt_of_le_of_lt (an_le _ _) (by decide)) (by decide)).mp c_107
            refine ps_st (S' := (113, [(4, .int 0), (0, .ref m0), (1, .int (nI x)), (3, .int 1)], [.ref m0], M)) rfl rfl rfl ?_
            refine pr_int (j := 53) (S' := (116, [(4, .int 0), (0, .ref m0), (1, .int (nI x)), (3, .int 1)], [.int (nI mj)], M)) rfl hR rfl hi53 rfl ?_
            refine ps_st (S' := (118, [(4, .int 0), (0, .ref m0), (1, .int (nI x)), (3, .int 1)], [.int 52, .int (nI mj)], M)) rfl rfl rfl ?_
            refine ps_if2 (S1 := (145, [(4, .int 0), (0, .ref m0), (1, .int (nI x)), (3, .int 1)], [], M)) (S2 := (121, [(4, .int 0), (0, .ref m0), (1, .int (nI x)), (3, .int 1)], [], M)) rfl rfl rfl (fun c_118 => ?_) (fun c_118 => ?_)
            rotate_left
            · exact absurd ((le_nI (p := 52) (n := mj) (by decide) (by omega)).mpr (by omega)) (of_decide_eq_false c_118)
            refine ps_st (S' := (146, [(4, .int 0), (0, .ref m0), (1, .int (nI x)), (3, .int 1)], [.int (nI x)], M)) rfl rfl rfl ?_
            refine ps_st (S' := (147, [(4, .int 0), (0, .ref m0), (1, .int (nI x)), (3, .int 1)], [.int 1, .int (nI x)], M)) rfl rfl rfl ?_
            refine ps_st (S' := (148, [(4, .int 0), (0, .ref m0), (1, .int (nI x)), (3, .int 1)], [.int ((nI x) &&& 1)], M)) rfl rfl rfl ?_
            rw [nI_an (p := x) (k := 1) (x := 1) rfl]
            show pl _ _ _ (_, [(4, .int 0), (0, .ref m0), (1, .int (nI x)), (3, .int 1)], [.int (nI (aN x 1))], M) _
            refine ps_if (S1 := (155, [(4, .int 0), (0, .ref m0), (1, .int (nI x)), (3, .int 1)], [], M)) (S2 := (151, [(4, .int 0), (0, .ref m0), (1, .int (nI x)), (3, .int 1)], [], M)) rfl rfl rfl (fun c_148 => ?_) (fun c_148 => ?_)
            · have c_148 : (nI (aN x 1)) = 0 := of_decide_eq_true c_148
              have n_148 : aN x 1 = 0 := (eq_nI (p := aN x 1) (n := 0) (Nat.lt_of_le_of_lt (an_le _ _) (by decide)) (by decide)).mp c_148
              refine ps_st (S' := (156, [(1, .int (nI x)), (4, .int 0)], [.int 0], M)) rfl rfl rfl ?_
              refine ps_st (S' := (157, [(1, .int (nI x)), (4, .int 0)], [.int (nI x), .int 0], M)) rfl rfl rfl ?_
              refine ps_st (S' := (158, [(1, .int (nI x)), (4, .int 0)], [.int 2, .int (nI x), .int 0], M)) rfl rfl rfl ?_
              refine ps_st (S' := (159, [(1, .int (nI x)), (4, .int 0)], [.int ((nI x) &&& 2), .int 0], M)) rfl rfl rfl ?_
              rw [nI_an (p := x) (k := 2) (x := 2) rfl]
              show pl _ _ _ (_, [(1, .int (nI x)), (4, .int 0)], [.int (nI (aN x 2)), .int 0], M) _
              refine ps_if (S1 := (166, [(1, .int (nI x)), (4, .int 0)], [.int 0], M)) (S2 := (162, [(1, .int (nI x)), (4, .int 0)], [.int 0], M)) rfl rfl rfl (fun c_159 => ?_) (fun c_159 => ?_)
              · have c_159 : (nI (aN x 2)) = 0 := of_decide_eq_true c_159
                have n_159 : aN x 2 = 0 := (eq_nI (p := aN x 2) (n := 0) (Nat.lt_of_le_of_lt (an_le _ _) (by decide)) (by decide)).mp c_159
                refine ps_st (S' := (167, [(4, .int 0)], [.int 0, .int 0], M)) rfl rfl rfl ?_
                refine ps_if2 (S1 := (172, [(4, .int 0)], [], M)) (S2 := (170, [], [], M)) rfl rfl rfl (fun c_167 => ?_) (fun c_167 => ?_)
                · exact absurd (of_decide_eq_true c_167) (by decide)
                refine ps_st (S' := (171, [], [.int 0], M)) rfl rfl rfl ?_
                exact ps_ret rfl rfl (⟨congrArg (fun x => some (Value.int (nI x))) (show 0 = fitN mj c x 0 from by
                    have e3 := has_0 x 1400
                    have e4 := has_0 x 1024
                    have e5 := has_0 c 512
                    have e2 := sev_0 x
                    have b1 := le1_one x
                    have ha : ¬ absN mj x = 0 := fun h => absurd ((abs_0 mj x).mp h) (by omega)
                    have b2 := le1_imh mj x
                    have hi : imhN mj x = 0 := (imh_0 mj x).mpr (by omega)
                    unfold fitN
                    first | ((repeat first | rw [if_pos (by omega)] | rw [if_neg (by omega)]) <;> first | rfl | omega) | ((repeat' split) <;> first | rfl | (exfalso; omega) | omega)), rfl⟩)
              · have c_159 : ¬ ((nI (aN x 2)) = 0) := of_decide_eq_false c_159
                have n_159 : ¬ (aN x 2 = 0) := fun h9 => c_159 ((eq_nI (p := aN x 2) (n := 0) (Nat.lt_of_le_of_lt (an_le _ _) (by decide)) (by decide)).mpr h9)
                refine ps_st (S' := (163, [(1, .int (nI x)), (4, .int 0)], [.int 1, .int 0], M)) rfl rfl rfl ?_
                refine ps_st (S' := (167, [(4, .int 0)], [.int 1, .int 0], M)) rfl rfl rfl ?_
                refine ps_if2 (S1 := (172, [(4, .int 0)], [], M)) (S2 := (170, [], [], M)) rfl rfl rfl (fun c_167 => ?_) (fun c_167 => ?_)
                rotate_left
                · exact absurd (by decide) (of_decide_eq_false c_167)
                refine ps_st (S' := (174, [(4, .int 0)], [.int 0], M)) rfl rfl rfl ?_
                refine ps_if (S1 := (181, [(4, .int 0)], [], M)) (S2 := (177, [(4, .int 0)], [], M)) rfl rfl rfl (fun c_174 => ?_) (fun c_174 => ?_)
                · exact absurd (of_decide_eq_true c_174) (by decide)
                refine ps_st (S' := (178, [(4, .int 0)], [.int 1], M)) rfl rfl rfl ?_
                refine ps_st (S' := (182, [], [.int 1], M)) rfl rfl rfl ?_
                exact ps_ret rfl rfl (⟨congrArg (fun x => some (Value.int (nI x))) (show 1 = fitN mj c x 0 from by
                    have e3 := has_0 x 1400
                    have e4 := has_0 x 1024
                    have e5 := has_0 c 512
                    have e2 := sev_0 x
                    have b1 := le1_one x
                    have ha : ¬ absN mj x = 0 := fun h => absurd ((abs_0 mj x).mp h) (by omega)
                    have b2 := le1_imh mj x
                    have hi : ¬ imhN mj x = 0 := fun h => absurd ((imh_0 mj x).mp h) (by omega)
                    unfold fitN
                    first | ((repeat first | rw [if_pos (by omega)] | rw [if_neg (by omega)]) <;> first | rfl | omega) | ((repeat' split) <;> first | rfl | (exfalso; omega) | omega)), rfl⟩)
            · have c_148 : ¬ ((nI (aN x 1)) = 0) := of_decide_eq_false c_148
              have n_148 : ¬ (aN x 1 = 0) := fun h9 => c_148 ((eq_nI (p := aN x 1) (n := 0) (Nat.lt_of_le_of_lt (an_le _ _) (by decide)) (by decide)).mpr h9)
              refine ps_st (S' := (152, [(4, .int 0), (0, .ref m0), (1, .int (nI x)), (3, .int 1)], [.int 1], M)) rfl rfl rfl ?_
              refine ps_st (S' := (156, [(1, .int (nI x)), (4, .int 0)], [.int 1], M)) rfl rfl rfl ?_
              refine ps_st (S' := (157, [(1, .int (nI x)), (4, .int 0)], [.int (nI x), .int 1], M)) rfl rfl rfl ?_
              refine ps_st (S' := (158, [(1, .int (nI x)), (4, .int 0)], [.int 2, .int (nI x), .int 1], M)) rfl rfl rfl ?_
              refine ps_st (S' := (159, [(1, .int (nI x)), (4, .int 0)], [.int ((nI x) &&& 2), .int 1], M)) rfl rfl rfl ?_
              rw [nI_an (p := x) (k := 2) (x := 2) rfl]
              show pl _ _ _ (_, [(1, .int (nI x)), (4, .int 0)], [.int (nI (aN x 2)), .int 1], M) _
              refine ps_if (S1 := (166, [(1, .int (nI x)), (4, .int 0)], [.int 1], M)) (S2 := (162, [(1, .int (nI x)), (4, .int 0)], [.int 1], M)) rfl rfl rfl (fun c_159 => ?_) (fun c_159 => ?_)
              · have c_159 : (nI (aN x 2)) = 0 := of_decide_eq_true c_159
                have n_159 : aN x 2 = 0 := (eq_nI (p := aN x 2) (n := 0) (Nat.lt_of_le_of_lt (an_le _ _) (by decide)) (by decide)).mp c_159
                refine ps_st (S' := (167, [(4, .int 0)], [.int 0, .int 1], M)) rfl rfl rfl ?_
                refine ps_if2 (S1 := (172, [(4, .int 0)], [], M)) (S2 := (170, [], [], M)) rfl rfl rfl (fun c_167 => ?_) (fun c_167 => ?_)
                rotate_left
                · exact absurd (by decide) (of_decide_eq_false c_167)
                refine ps_st (S' := (174, [(4, .int 0)], [.int 0], M)) rfl rfl rfl ?_
                refine ps_if (S1 := (181, [(4, .int 0)], [], M)) (S2 := (177, [(4, .int 0)], [], M)) rfl rfl rfl (fun c_174 => ?_) (fun c_174 => ?_)
                · exact absurd (of_decide_eq_true c_174) (by decide)
                refine ps_st (S' := (178, [(4, .int 0)], [.int 1], M)) rfl rfl rfl ?_
                refine ps_st (S' := (182, [], [.int 1], M)) rfl rfl rfl ?_
                exact ps_ret rfl rfl (⟨congrArg (fun x => some (Value.int (nI x))) (show 1 = fitN mj c x 0 from by
                    have e3 := has_0 x 1400
                    have e4 := has_0 x 1024
                    have e5 := has_0 c 512
                    have e2 := sev_0 x
                    have b1 := le1_one x
                    have ha : ¬ absN mj x = 0 := fun h => absurd ((abs_0 mj x).mp h) (by omega)
                    have b2 := le1_imh mj x
                    have hi : ¬ imhN mj x = 0 := fun h => absurd ((imh_0 mj x).mp h) (by omega)
                    unfold fitN
                    first | ((repeat first | rw [if_pos (by omega)] | rw [if_neg (by omega)]) <;> first | rfl | omega) | ((repeat' split) <;> first | rfl | (exfalso; omega) | omega)), rfl⟩)
              · have c_159 : ¬ ((nI (aN x 2)) = 0) := of_decide_eq_false c_159
                have n_159 : ¬ (aN x 2 = 0) := fun h9 => c_159 ((eq_nI (p := aN x 2) (n := 0) (Nat.lt_of_le_of_lt (an_le _ _) (by decide)) (by decide)).mpr h9)
                refine ps_st (S' := (163, [(1, .int (nI x)), (4, .int 0)], [.int 1, .int 1], M)) rfl rfl rfl ?_
                refine ps_st (S' := (167, [(4, .int 0)], [.int 1, .int 1], M)) rfl rfl rfl ?_
                refine ps_if2 (S1 := (172, [(4, .int 0)], [], M)) (S2 := (170, [], [], M)) rfl rfl rfl (fun c_167 => ?_) (fun c_167 => ?_)
                · exact absurd (of_decide_eq_true c_167) (by decide)
                refine ps_st (S' := (171, [], [.int 0], M)) rfl rfl rfl ?_
                exact ps_ret rfl rfl (⟨congrArg (fun x => some (Value.int (nI x))) (show 0 = fitN mj c x 0 from by
                    have e3 := has_0 x 1400
                    have e4 := has_0 x 1024
                    have e5 := has_0 c 512
                    have e2 := sev_0 x
                    have b1 := le1_one x
                    have ha : ¬ absN mj x = 0 := fun h => absurd ((abs_0 mj x).mp h) (by omega)
                    have b2 := le1_imh mj x
                    have hi : imhN mj x = 0 := (imh_0 mj x).mpr (by omega)
                    unfold fitN
                    first | ((repeat first | rw [if_pos (by omega)] | rw [if_neg (by omega)]) <;> first | rfl | omega) | ((repeat' split) <;> first | rfl | (exfalso; omega) | omega)), rfl⟩)
          · have c_107 : ¬ ((nI (aN x 308)) = 0) := of_decide_eq_false c_107
            have n_107 : ¬ (aN x 308 = 0) := fun h9 => c_107 ((eq_nI (p := aN x 308) (n := 0) (Nat.lt_of_le_of_lt (an_le _ _) (by decide)) (by decide)).mpr h9)
            refine ps_st (S' := (111, [(4, .int 0), (0, .ref m0), (1, .int (nI x)), (3, .int 1)], [.int 0], M)) rfl rfl rfl ?_
            exact ps_ret rfl rfl (⟨congrArg (fun x => some (Value.int (nI x))) (show 0 = fitN mj c x 0 from by
                have e3 := has_0 x 1400
                have e4 := has_0 x 1024
                have e5 := has_0 c 512
                have e2 := sev_0 x
                have b1 := le1_one x
                have ha : ¬ absN mj x = 0 := fun h => absurd ((abs_0 mj x).mp h) (by omega)
                have b2 := le1_imh mj x
                have hi : imhN mj x = 0 := (imh_0 mj x).mpr (by omega)
                unfold fitN
                first | ((repeat first | rw [if_pos (by omega)] | rw [if_neg (by omega)]) <;> first | rfl | omega) | ((repeat' split) <;> first | rfl | (exfalso; omega) | omega)), rfl⟩)
        · have c_59 : ¬ (60 < (nI mj)) := of_decide_eq_false c_59
          have n_59 : ¬ (60 < mj) := fun h9 => c_59 ((lt_nI (p := 60) (n := mj) (by decide) (by omega)).mpr h9)
          refine ps_st (S' := (63, [(0, .ref m0), (1, .int (nI x)), (2, .int 0), (3, .int 1)], [.int (nI x)], M)) rfl rfl rfl ?_
          refine ps_st (S' := (66, [(0, .ref m0), (1, .int (nI x)), (2, .int 0), (3, .int 1)], [.int 2048, .int (nI x)], M)) rfl rfl rfl ?_
          refine ps_st (S' := (67, [(0, .ref m0), (1, .int (nI x)), (2, .int 0), (3, .int 1)], [.int ((nI x) &&& 2048)], M)) rfl rfl rfl ?_
          rw [nI_an (p := x) (k := 2048) (x := 2048) rfl]
          show pl _ _ _ (_, [(0, .ref m0), (1, .int (nI x)), (2, .int 0), (3, .int 1)], [.int (nI (aN x 2048))], M) _
          refine ps_if (S1 := (74, [(0, .ref m0), (1, .int (nI x)), (3, .int 1)], [], M)) (S2 := (70, [(0, .ref m0), (1, .int (nI x)), (3, .int 1)], [], M)) rfl rfl rfl (fun c_67 => ?_) (fun c_67 => ?_)
          · have c_67 : (nI (aN x 2048)) = 0 := of_decide_eq_true c_67
            have n_67 : aN x 2048 = 0 := (eq_nI (p := aN x 2048) (n := 0) (Nat.lt_of_le_of_lt (an_le _ _) (by decide)) (by decide)).mp c_67
            refine ps_st (S' := (75, [(0, .ref m0), (1, .int (nI x)), (3, .int 1)], [.int 0], M)) rfl rfl rfl ?_
            refine ps_st (S' := (77, [(4, .int 0), (0, .ref m0), (1, .int (nI x)), (3, .int 1)], [], M)) rfl rfl rfl ?_
            refine ps_st (S' := (78, [(4, .int 0), (0, .ref m0), (1, .int (nI x)), (3, .int 1)], [.int 1], M)) rfl rfl rfl ?_
            refine ps_if (S1 := (102, [(4, .int 0), (0, .ref m0), (1, .int (nI x)), (3, .int 1)], [], M)) (S2 := (81, [(4, .int 0), (0, .ref m0), (1, .int (nI x)), (3, .int 1)], [], M)) rfl rfl rfl (fun c_78 => ?_) (fun c_78 => ?_)
            rotate_left
            · exact absurd (by decide) (of_decide_eq_false c_78)
            refine ps_st (S' := (103, [(4, .int 0), (0, .ref m0), (1, .int (nI x)), (3, .int 1)], [.int (nI x)], M)) rfl rfl rfl ?_
            refine ps_st (S' := (106, [(4, .int 0), (0, .ref m0), (1, .int (nI x)), (3, .int 1)], [.int 308, .int (nI x)], M)) rfl rfl rfl ?_
            refine ps_st (S' := (107, [(4, .int 0), (0, .ref m0), (1, .int (nI x)), (3, .int 1)], [.int ((nI x) &&& 308)], M)) rfl rfl rfl ?_
            rw [nI_an (p := x) (k := 308) (x := 308) rfl]
            show pl _ _ _ (_, [(4, .int 0), (0, .ref m0), (1, .int (nI x)), (3, .int 1)], [.int (nI (aN x 308))], M) _
            refine ps_if (S1 := (112, [(4, .int 0), (0, .ref m0), (1, .int (nI x)), (3, .int 1)], [], M)) (S2 := (110, [(4, .int 0), (0, .ref m0), (1, .int (nI x)), (3, .int 1)], [], M)) rfl rfl rfl (fun c_107 => ?_) (fun c_107 => ?_)
            · have c_107 : (nI (aN x 308)) = 0 := of_decide_eq_true c_107
              have n_107 : aN x 308 = 0 := (eq_nI (p := aN x 308) (n := 0) (Nat.lt_of_le_of_lt (an_le _ _) (by decide)) (by decide)).mp c_107
              refine ps_st (S' := (113, [(4, .int 0), (0, .ref m0), (1, .int (nI x)), (3, .int 1)], [.ref m0], M)) rfl rfl rfl ?_
              refine pr_int (j := 53) (S' := (116, [(4, .int 0), (0, .ref m0), (1, .int (nI x)), (3, .int 1)], [.int (nI mj)], M)) rfl hR rfl hi53 rfl ?_
              refine ps_st (S' := (118, [(4, .int 0), (0, .ref m0), (1, .int (nI x)), (3, .int 1)], [.int 52, .int (nI mj)], M)) rfl rfl rfl ?_
              refine ps_if2 (S1 := (145, [(4, .int 0), (0, .ref m0), (1, .int (nI x)), (3, .int 1)], [], M)) (S2 := (121, [(4, .int 0), (0, .ref m0), (1, .int (nI x)), (3, .int 1)], [], M)) rfl rfl rfl (fun c_118 => ?_) (fun c_118 => ?_)
              · have c_118 : 52 ≤ (nI mj) := of_decide_eq_true c_118
                have n_118 : 52 ≤ mj := (le_nI (p := 52) (n := mj) (by decide) (by omega)).mp c_118
                refine ps_st (S' := (146, [(4, .int 0), (0, .ref m0), (1, .int (nI x)), (3, .int 1)], [.int (nI x)], M)) rfl rfl rfl ?_
                refine ps_st (S' := (147, [(4, .int 0), (0, .ref m0), (1, .int (nI x)), (3, .int 1)], [.int 1, .int (nI x)], M)) rfl rfl rfl ?_
                refine ps_st (S' := (148, [(4, .int 0), (0, .ref m0), (1, .int (nI x)), (3, .int 1)], [.int ((nI x) &&& 1)], M)) rfl rfl rfl ?_
                rw [nI_an (p := x) (k := 1) (x := 1) rfl]
                show pl _ _ _ (_, [(4, .int 0), (0, .ref m0), (1, .int (nI x)), (3, .int 1)], [.int (nI (aN x 1))], M) _
                refine ps_if (S1 := (155, [(4, .int 0), (0, .ref m0), (1, .int (nI x)), (3, .int 1)], [], M)) (S2 := (151, [(4, .int 0), (0, .ref m0), (1, .int (nI x)), (3, .int 1)], [], M)) rfl rfl rfl (fun c_148 => ?_) (fun c_148 => ?_)
                · have c_148 : (nI (aN x 1)) = 0 := of_decide_eq_true c_148
                  have n_148 : aN x 1 = 0 := (eq_nI (p := aN x 1) (n := 0) (Nat.lt_of_le_of_lt (an_le _ _) (by decide)) (by decide)).mp c_148
                  refine ps_st (S' := (156, [(1, .int (nI x)), (4, .int 0)], [.int 0], M)) rfl rfl rfl ?_
                  refine ps_st (S' := (157, [(1, .int (nI x)), (4, .int 0)], [.int (nI x), .int 0], M)) rfl rfl rfl ?_
                  refine ps_st (S' := (158, [(1, .int (nI x)), (4, .int 0)], [.int 2, .int (nI x), .int 0], M)) rfl rfl rfl ?_
                  refine ps_st (S' := (159, [(1, .int (nI x)), (4, .int 0)], [.int ((nI x) &&& 2), .int 0], M)) rfl rfl rfl ?_
                  rw [nI_an (p := x) (k := 2) (x := 2) rfl]
                  show pl _ _ _ (_, [(1, .int (nI x)), (4, .int 0)], [.int (nI (aN x 2)), .int 0], M) _
                  refine ps_if (S1 := (166, [(1, .int (nI x)), (4, .int 0)], [.int 0], M)) (S2 := (162, [(1, .int (nI x)), (4, .int 0)], [.int 0], M)) rfl rfl rfl (fun c_159 => ?_) (fun c_159 => ?_)
                  · have c_159 : (nI (aN x 2)) = 0 := of_decide_eq_true c_159
                    have n_159 : aN x 2 = 0 := (eq_nI (p := aN x 2) (n := 0) (Nat.lt_of_le_of_lt (an_le _ _) (by decide)) (by decide)).mp c_159
                    refine ps_st (S' := (167, [(4, .int 0)], [.int 0, .int 0], M)) rfl rfl rfl ?_
                    refine ps_if2 (S1 := (172, [(4, .int 0)], [], M)) (S2 := (170, [], [], M)) rfl rfl rfl (fun c_167 => ?_) (fun c_167 => ?_)
                    · exact absurd (of_decide_eq_true c_167) (by decide)
                    refine ps_st (S' := (171, [], [.int 0], M)) rfl rfl rfl ?_
                    exact ps_ret rfl rfl (⟨congrArg (fun x => some (Value.int (nI x))) (show 0 = fitN mj c x 0 from by
                        have e3 := has_0 x 1400
                        have e4 := has_0 x 1024
                        have e5 := has_0 c 512
                        have e2 := sev_0 x
                        have b1 := le1_one x
                        have ha : ¬ absN mj x = 0 := fun h => absurd ((abs_0 mj x).mp h) (by omega)
                        have b2 := le1_imh mj x
                        have hi : imhN mj x = 0 := (imh_0 mj x).mpr (by omega)
                        unfold fitN
                        first | ((repeat first | rw [if_pos (by omega)] | rw [if_neg (by omega)]) <;> first | rfl | omega) | ((repeat' split) <;> first | rfl | (exfalso; omega) | omega)), rfl⟩)
                  · have c_159 : ¬ ((nI (aN x 2)) = 0) := of_decide_eq_false c_159
                    have n_159 : ¬ (aN x 2 = 0) := fun h9 => c_159 ((eq_nI (p := aN x 2) (n := 0) (Nat.lt_of_le_of_lt (an_le _ _) (by decide)) (by decide)).mpr h9)
                    refine ps_st (S' := (163, [(1, .int (nI x)), (4, .int 0)], [.int 1, .int 0], M)) rfl rfl rfl ?_
                    refine ps_st (S' := (167, [(4, .int 0)], [.int 1, .int 0], M)) rfl rfl rfl ?_
                    refine ps_if2 (S1 := (172, [(4, .int 0)], [], M)) (S2 := (170, [], [], M)) rfl rfl rfl (fun c_167 => ?_) (fun c_167 => ?_)
                    rotate_left
                    · exact absurd (by decide) (of_decide_eq_false c_167)
                    refine ps_st (S' := (174, [(4, .int 0)], [.int 0], M)) rfl rfl rfl ?_
                    refine ps_if (S1 := (181, [(4, .int 0)], [], M)) (S2 := (177, [(4, .int 0)], [], M)) rfl rfl rfl (fun c_174 => ?_) (fun c_174 => ?_)
                    · exact absurd (of_decide_eq_true c_174) (by decide)
                    refine ps_st (S' := (178, [(4, .int 0)], [.int 1], M)) rfl rfl rfl ?_
                    refine ps_st (S' := (182, [], [.int 1], M)) rfl rfl rfl ?_
                    exact ps_ret rfl rfl (⟨congrArg (fun x => some (Value.int (nI x))) (show 1 = fitN mj c x 0 from by
                        have e3 := has_0 x 1400
                        have e4 := has_0 x 1024
                        have e5 := has_0 c 512
                        have e2 := sev_0 x
                        have b1 := le1_one x
                        have ha : ¬ absN mj x = 0 := fun h => absurd ((abs_0 mj x).mp h) (by omega)
                        have b2 := le1_imh mj x
                        have hi : ¬ imhN mj x = 0 := fun h => absurd ((imh_0 mj x).mp h) (by omega)
                        unfold fitN
                        first | ((repeat first | rw [if_pos (by omega)] | rw [if_neg (by omega)]) <;> first | rfl | omega) | ((repeat' split) <;> first | rfl | (exfalso; omega) | omega)), rfl⟩)
                · have c_148 : ¬ ((nI (aN x 1)) = 0) := of_decide_eq_false c_148
                  have n_148 : ¬ (aN x 1 = 0) := fun h9 => c_148 ((eq_nI (p := aN x 1) (n := 0) (Nat.lt_of_le_of_lt (an_le _ _) (by decide)) (by decide)).mpr h9)
                  refine ps_st (S' := (152, [(4, .int 0), (0, .ref m0), (1, .int (nI x)), (3, .int 1)], [.int 1], M)) rfl rfl rfl ?_
                  refine ps_st (S' := (156, [(1, .int (nI x)), (4, .int 0)], [.int 1], M)) rfl rfl rfl ?_
                  refine ps_st (S' := (157, [(1, .int (nI x)), (4, .int 0)], [.int (nI x), .int 1], M)) rfl rfl rfl ?_
                  refine ps_st (S' := (158, [(1, .int (nI x)), (4, .int 0)], [.int 2, .int (nI x), .int 1], M)) rfl rfl rfl ?_
                  refine ps_st (S' := (159, [(1, .int (nI x)), (4, .int 0)], [.int ((nI x) &&& 2), .int 1], M)) rfl rfl rfl ?_
                  rw [nI_an (p := x) (k := 2) (x := 2) rfl]
                  show pl _ _ _ (_, [(1, .int (nI x)), (4, .int 0)], [.int (nI (aN x 2)), .int 1], M) _
                  refine ps_if (S1 := (166, [(1, .int (nI x)), (4, .int 0)], [.int 1], M)) (S2 := (162, [(1, .int (nI x)), (4, .int 0)], [.int 1], M)) rfl rfl rfl (fun c_159 => ?_) (fun c_159 => ?_)
                  · have c_159 : (nI (aN x 2)) = 0 := of_decide_eq_true c_159
                    have n_159 : aN x 2 = 0 := (eq_nI (p := aN x 2) (n := 0) (Nat.lt_of_le_of_lt (an_le _ _) (by decide)) (by decide)).mp c_159
                    refine ps_st (S' := (167, [(4, .int 0)], [.int 0, .int 1], M)) rfl rfl rfl ?_
                    refine ps_if2 (S1 := (172, [(4, .int 0)], [], M)) (S2 := (170, [], [], M)) rfl rfl rfl (fun c_167 => ?_) (fun c_167 => ?_)
                    rotate_left
                    · exact absurd (by decide) (of_decide_eq_false c_167)
                    refine ps_st (S' := (174, [(4, .int 0)], [.int 0], M)) rfl rfl rfl ?_
                    refine ps_if (S1 := (181, [(4, .int 0)], [], M)) (S2 := (177, [(4, .int 0)], [], M)) rfl rfl rfl (fun c_174 => ?_) (fun c_174 => ?_)
                    · exact absurd (of_decide_eq_true c_174) (by decide)
                    refine ps_st (S' := (178, [(4, .int 0)], [.int 1], M)) rfl rfl rfl ?_
                    refine ps_st (S' := (182, [], [.int 1], M)) rfl rfl rfl ?_
                    exact ps_ret rfl rfl (⟨congrArg (fun x => some (Value.int (nI x))) (show 1 = fitN mj c x 0 from by
                        have e3 := has_0 x 1400
                        have e4 := has_0 x 1024
                        have e5 := has_0 c 512
                        have e2 := sev_0 x
                        have b1 := le1_one x
                        have ha : ¬ absN mj x = 0 := fun h => absurd ((abs_0 mj x).mp h) (by omega)
                        have b2 := le1_imh mj x
                        have hi : ¬ imhN mj x = 0 := fun h => absurd ((imh_0 mj x).mp h) (by omega)
                        unfold fitN
                        first | ((repeat first | rw [if_pos (by omega)] | rw [if_neg (by omega)]) <;> first | rfl | omega) | ((repeat' split) <;> first | rfl | (exfalso; omega) | omega)), rfl⟩)
                  · have c_159 : ¬ ((nI (aN x 2)) = 0) := of_decide_eq_false c_159
                    have n_159 : ¬ (aN x 2 = 0) := fun h9 => c_159 ((eq_nI (p := aN x 2) (n := 0) (Nat.lt_of_le_of_lt (an_le _ _) (by decide)) (by decide)).mpr h9)
                    refine ps_st (S' := (163, [(1, .int (nI x)), (4, .int 0)], [.int 1, .int 1], M)) rfl rfl rfl ?_
                    refine ps_st (S' := (167, [(4, .int 0)], [.int 1, .int 1], M)) rfl rfl rfl ?_
                    refine ps_if2 (S1 := (172, [(4, .int 0)], [], M)) (S2 := (170, [], [], M)) rfl rfl rfl (fun c_167 => ?_) (fun c_167 => ?_)
                    · exact absurd (of_decide_eq_true c_167) (by decide)
                    refine ps_st (S' := (171, [], [.int 0], M)) rfl rfl rfl ?_
                    exact ps_ret rfl rfl (⟨congrArg (fun x => some (Value.int (nI x))) (show 0 = fitN mj c x 0 from by
                        have e3 := has_0 x 1400
                        have e4 := has_0 x 1024
                        have e5 := has_0 c 512
                        have e2 := sev_0 x
                        have b1 := le1_one x
                        have ha : ¬ absN mj x = 0 := fun h => absurd ((abs_0 mj x).mp h) (by omega)
                        have b2 := le1_imh mj x
                        have hi : imhN mj x = 0 := (imh_0 mj x).mpr (by omega)
                        unfold fitN
                        first | ((repeat first | rw [if_pos (by omega)] | rw [if_neg (by omega)]) <;> first | rfl | omega) | ((repeat' split) <;> first | rfl | (exfalso; omega) | omega)), rfl⟩)
              · have c_118 : ¬ (52 ≤ (nI mj)) := of_decide_eq_false c_118
                have n_118 : ¬ (52 ≤ mj) := fun h9 => c_118 ((le_nI (p := 52) (n := mj) (by decide) (by omega)).mpr h9)
                refine ps_st (S' := (122, [(4, .int 0), (0, .ref m0), (1, .int (nI x)), (3, .int 1)], [.int (nI x)], M)) rfl rfl rfl ?_
                refine ps_st (S' := (123, [(4, .int 0), (0, .ref m0), (1, .int (nI x)), (3, .int 1)], [.int 1, .int (nI x)], M)) rfl rfl rfl ?_
                refine ps_st (S' := (124, [(4, .int 0), (0, .ref m0), (1, .int (nI x)), (3, .int 1)], [.int ((nI x) &&& 1)], M)) rfl rfl rfl ?_
                rw [nI_an (p := x) (k := 1) (x := 1) rfl]
                show pl _ _ _ (_, [(4, .int 0), (0, .ref m0), (1, .int (nI x)), (3, .int 1)], [.int (nI (aN x 1))], M) _
                refine ps_if (S1 := (170, [], [], M)) (S2 := (127, [(4, .int 0), (0, .ref m0), (1, .int (nI x)), (3, .int 1)], [], M)) rfl rfl rfl (fun c_124 => ?_) (fun c_124 => ?_)
                · have c_124 : (nI (aN x 1)) = 0 := of_decide_eq_true c_124
                  have n_124 : aN x 1 = 0 := (eq_nI (p := aN x 1) (n := 0) (Nat.lt_of_le_of_lt (an_le _ _) (by decide)) (by decide)).mp c_124
                  refine ps_st (S' := (171, [], [.int 0], M)) rfl rfl rfl ?_
                  exact ps_ret rfl rfl (⟨congrArg (fun x => some (Value.int (nI x))) (show 0 = fitN mj c x 0 from by
                      have e3 := has_0 x 1400
                      have e4 := has_0 x 1024
                      have e5 := has_0 c 512
                      have e2 := sev_0 x
                      have b1 := le1_one x
                      have ha : ¬ absN mj x = 0 := fun h => absurd ((abs_0 mj x).mp h) (by omega)
                      have b2 := le1_imh mj x
                      have hi : imhN mj x = 0 := (imh_0 mj x).mpr (by omega)
                      unfold fitN
                      first | ((repeat first | rw [if_pos (by omega)] | rw [if_neg (by omega)]) <;> first | rfl | omega) | ((repeat' split) <;> first | rfl | (exfalso; omega) | omega)), rfl⟩)
                · have c_124 : ¬ ((nI (aN x 1)) = 0) := of_decide_eq_false c_124
                  have n_124 : ¬ (aN x 1 = 0) := fun h9 => c_124 ((eq_nI (p := aN x 1) (n := 0) (Nat.lt_of_le_of_lt (an_le _ _) (by decide)) (by decide)).mpr h9)
                  refine ps_st (S' := (128, [(4, .int 0), (0, .ref m0), (1, .int (nI x)), (3, .int 1)], [.int (nI x)], M)) rfl rfl rfl ?_
                  refine ps_st (S' := (131, [(4, .int 0), (0, .ref m0), (1, .int (nI x)), (3, .int 1)], [.int 1024, .int (nI x)], M)) rfl rfl rfl ?_
                  refine ps_st (S' := (132, [(4, .int 0), (0, .ref m0), (1, .int (nI x)), (3, .int 1)], [.int ((nI x) &&& 1024)], M)) rfl rfl rfl ?_
                  rw [nI_an (p := x) (k := 1024) (x := 1024) rfl]
                  show pl _ _ _ (_, [(4, .int 0), (0, .ref m0), (1, .int (nI x)), (3, .int 1)], [.int (nI (aN x 1024))], M) _
                  refine ps_if (S1 := (170, [], [], M)) (S2 := (135, [(4, .int 0), (0, .ref m0), (1, .int (nI x)), (3, .int 1)], [], M)) rfl rfl rfl (fun c_132 => ?_) (fun c_132 => ?_)
                  · exact absurd (of_decide_eq_true c_132) (show ¬ ((nI (aN x 1024)) = 0) from fun h9 => absurd ((eq_nI (p := aN x 1024) (n := 0) (Nat.lt_of_le_of_lt (an_le _ _) (by decide)) (by decide)).mp h9) (by omega))
                  refine ps_st (S' := (136, [(4, .int 0), (0, .ref m0), (1, .int (nI x)), (3, .int 1)], [.int (nI x)], M)) rfl rfl rfl ?_
                  refine ps_st (S' := (138, [(4, .int 0), (0, .ref m0), (1, .int (nI x)), (3, .int 1)], [.int 8, .int (nI x)], M)) rfl rfl rfl ?_
                  refine ps_st (S' := (139, [(4, .int 0), (0, .ref m0), (1, .int (nI x)), (3, .int 1)], [.int ((nI x) &&& 8)], M)) rfl rfl rfl ?_
                  rw [nI_an (p := x) (k := 8) (x := 8) rfl]
                  show pl _ _ _ (_, [(4, .int 0), (0, .ref m0), (1, .int (nI x)), (3, .int 1)], [.int (nI (aN x 8))], M) _
                  refine ps_if (S1 := (172, [(4, .int 0)], [], M)) (S2 := (142, [(4, .int 0), (0, .ref m0), (1, .int (nI x)), (3, .int 1)], [], M)) rfl rfl rfl (fun c_139 => ?_) (fun c_139 => ?_)
                  · have c_139 : (nI (aN x 8)) = 0 := of_decide_eq_true c_139
                    have n_139 : aN x 8 = 0 := (eq_nI (p := aN x 8) (n := 0) (Nat.lt_of_le_of_lt (an_le _ _) (by decide)) (by decide)).mp c_139
                    refine ps_st (S' := (174, [(4, .int 0)], [.int 0], M)) rfl rfl rfl ?_
                    refine ps_if (S1 := (181, [(4, .int 0)], [], M)) (S2 := (177, [(4, .int 0)], [], M)) rfl rfl rfl (fun c_174 => ?_) (fun c_174 => ?_)
                    · exact absurd (of_decide_eq_true c_174) (by decide)
                    refine ps_st (S' := (178, [(4, .int 0)], [.int 1], M)) rfl rfl rfl ?_
                    refine ps_st (S' := (182, [], [.int 1], M)) rfl rfl rfl ?_
                    exact ps_ret rfl rfl (⟨congrArg (fun x => some (Value.int (nI x))) (show 1 = fitN mj c x 0 from by
                        have e3 := has_0 x 1400
                        have e4 := has_0 x 1024
                        have e5 := has_0 c 512
                        have e2 := sev_0 x
                        have b1 := le1_one x
                        have ha : ¬ absN mj x = 0 := fun h => absurd ((abs_0 mj x).mp h) (by omega)
                        have b2 := le1_imh mj x
                        have hi : ¬ imhN mj x = 0 := fun h => absurd ((imh_0 mj x).mp h) (by omega)
                        unfold fitN
                        first | ((repeat first | rw [if_pos (by omega)] | rw [if_neg (by omega)]) <;> first | rfl | omega) | ((repeat' split) <;> first | rfl | (exfalso; omega) | omega)), rfl⟩)
                  · have c_139 : ¬ ((nI (aN x 8)) = 0) := of_decide_eq_false c_139
                    have n_139 : ¬ (aN x 8 = 0) := fun h9 => c_139 ((eq_nI (p := aN x 8) (n := 0) (Nat.lt_of_le_of_lt (an_le _ _) (by decide)) (by decide)).mpr h9)
                    refine ps_st (S' := (170, [], [], M)) rfl rfl rfl ?_
                    refine ps_st (S' := (171, [], [.int 0], M)) rfl rfl rfl ?_
                    exact ps_ret rfl rfl (⟨congrArg (fun x => some (Value.int (nI x))) (show 0 = fitN mj c x 0 from by
                        have e3 := has_0 x 1400
                        have e4 := has_0 x 1024
                        have e5 := has_0 c 512
                        have e2 := sev_0 x
                        have b1 := le1_one x
                        have ha : ¬ absN mj x = 0 := fun h => absurd ((abs_0 mj x).mp h) (by omega)
                        have b2 := le1_imh mj x
                        have hi : imhN mj x = 0 := (imh_0 mj x).mpr (by omega)
                        unfold fitN
                        first | ((repeat first | rw [if_pos (by omega)] | rw [if_neg (by omega)]) <;> first | rfl | omega) | ((repeat' split) <;> first | rfl | (exfalso; omega) | omega)), rfl⟩)
            · have c_107 : ¬ ((nI (aN x 308)) = 0) := of_decide_eq_false c_107
              have n_107 : ¬ (aN x 308 = 0) := fun h9 => c_107 ((eq_nI (p := aN x 308) (n := 0) (Nat.lt_of_le_of_lt (an_le _ _) (by decide)) (by decide)).mpr h9)
              refine ps_st (S' := (111, [(4, .int 0), (0, .ref m0), (1, .int (nI x)), (3, .int 1)], [.int 0], M)) rfl rfl rfl ?_
              exact ps_ret rfl rfl (⟨congrArg (fun x => some (Value.int (nI x))) (show 0 = fitN mj c x 0 from by
                  have e3 := has_0 x 1400
                  have e4 := has_0 x 1024
                  have e5 := has_0 c 512
                  have e2 := sev_0 x
                  have b1 := le1_one x
                  have ha : ¬ absN mj x = 0 := fun h => absurd ((abs_0 mj x).mp h) (by omega)
                  have b2 := le1_imh mj x
                  have hi : imhN mj x = 0 := (imh_0 mj x).mpr (by omega)
                  unfold fitN
                  first | ((repeat first | rw [if_pos (by omega)] | rw [if_neg (by omega)]) <;> first | rfl | omega) | ((repeat' split) <;> first | rfl | (exfalso; omega) | omega)), rfl⟩)
          · have c_67 : ¬ ((nI (aN x 2048)) = 0) := of_decide_eq_false c_67
            have n_67 : ¬ (aN x 2048 = 0) := fun h9 => c_67 ((eq_nI (p := aN x 2048) (n := 0) (Nat.lt_of_le_of_lt (an_le _ _) (by decide)) (by decide)).mpr h9)
            refine ps_st (S' := (71, [(0, .ref m0), (1, .int (nI x)), (3, .int 1)], [.int 1], M)) rfl rfl rfl ?_
            refine ps_st (S' := (75, [(0, .ref m0), (1, .int (nI x)), (3, .int 1)], [.int 1], M)) rfl rfl rfl ?_
            refine ps_st (S' := (77, [(4, .int 1), (0, .ref m0), (1, .int (nI x)), (3, .int 1)], [], M)) rfl rfl rfl ?_
            refine ps_st (S' := (78, [(4, .int 1), (0, .ref m0), (1, .int (nI x)), (3, .int 1)], [.int 1], M)) rfl rfl rfl ?_
            refine ps_if (S1 := (102, [(4, .int 1), (0, .ref m0), (1, .int (nI x)), (3, .int 1)], [], M)) (S2 := (81, [(4, .int 1), (0, .ref m0), (1, .int (nI x)), (3, .int 1)], [], M)) rfl rfl rfl (fun c_78 => ?_) (fun c_78 => ?_)
            rotate_left
            · exact absurd (by decide) (of_decide_eq_false c_78)
            refine ps_st (S' := (103, [(4, .int 1), (0, .ref m0), (1, .int (nI x)), (3, .int 1)], [.int (nI x)], M)) rfl rfl rfl ?_
            refine ps_st (S' := (106, [(4, .int 1), (0, .ref m0), (1, .int (nI x)), (3, .int 1)], [.int 308, .int (nI x)], M)) rfl rfl rfl ?_
            refine ps_st (S' := (107, [(4, .int 1), (0, .ref m0), (1, .int (nI x)), (3, .int 1)], [.int ((nI x) &&& 308)], M)) rfl rfl rfl ?_
            rw [nI_an (p := x) (k := 308) (x := 308) rfl]
            show pl _ _ _ (_, [(4, .int 1), (0, .ref m0), (1, .int (nI x)), (3, .int 1)], [.int (nI (aN x 308))], M) _
            refine ps_if (S1 := (112, [(4, .int 1), (0, .ref m0), (1, .int (nI x)), (3, .int 1)], [], M)) (S2 := (110, [(4, .int 1), (0, .ref m0), (1, .int (nI x)), (3, .int 1)], [], M)) rfl rfl rfl (fun c_107 => ?_) (fun c_107 => ?_)
            · have c_107 : (nI (aN x 308)) = 0 := of_decide_eq_true c_107
              have n_107 : aN x 308 = 0 := (eq_nI (p := aN x 308) (n := 0) (Nat.lt_of_le_of_lt (an_le _ _) (by decide)) (by decide)).mp c_107
              refine ps_st (S' := (113, [(4, .int 1), (0, .ref m0), (1, .int (nI x)), (3, .int 1)], [.ref m0], M)) rfl rfl rfl ?_
              refine pr_int (j := 53) (S' := (116, [(4, .int 1), (0, .ref m0), (1, .int (nI x)), (3, .int 1)], [.int (nI mj)], M)) rfl hR rfl hi53 rfl ?_
              refine ps_st (S' := (118, [(4, .int 1), (0, .ref m0), (1, .int (nI x)), (3, .int 1)], [.int 52, .int (nI mj)], M)) rfl rfl rfl ?_
              refine ps_if2 (S1 := (145, [(4, .int 1), (0, .ref m0), (1, .int (nI x)), (3, .int 1)], [], M)) (S2 := (121, [(4, .int 1), (0, .ref m0), (1, .int (nI x)), (3, .int 1)], [], M)) rfl rfl rfl (fun c_118 => ?_) (fun c_118 => ?_)
              · have c_118 : 52 ≤ (nI mj) := of_decide_eq_true c_118
                have n_118 : 52 ≤ mj := (le_nI (p := 52) (n := mj) (by decide) (by omega)).mp c_118
                refine ps_st (S' := (146, [(4, .int 1), (0, .ref m0), (1, .int (nI x)), (3, .int 1)], [.int (nI x)], M)) rfl rfl rfl ?_
                refine ps_st (S' := (147, [(4, .int 1), (0, .ref m0), (1, .int (nI x)), (3, .int 1)], [.int 1, .int (nI x)], M)) rfl rfl rfl ?_
                refine ps_st (S' := (148, [(4, .int 1), (0, .ref m0), (1, .int (nI x)), (3, .int 1)], [.int ((nI x) &&& 1)], M)) rfl rfl rfl ?_
                rw [nI_an (p := x) (k := 1) (x := 1) rfl]
                show pl _ _ _ (_, [(4, .int 1), (0, .ref m0), (1, .int (nI x)), (3, .int 1)], [.int (nI (aN x 1))], M) _
                refine ps_if (S1 := (155, [(4, .int 1), (0, .ref m0), (1, .int (nI x)), (3, .int 1)], [], M)) (S2 := (151, [(4, .int 1), (0, .ref m0), (1, .int (nI x)), (3, .int 1)], [], M)) rfl rfl rfl (fun c_148 => ?_) (fun c_148 => ?_)
                · have c_148 : (nI (aN x 1)) = 0 := of_decide_eq_true c_148
                  have n_148 : aN x 1 = 0 := (eq_nI (p := aN x 1) (n := 0) (Nat.lt_of_le_of_lt (an_le _ _) (by decide)) (by decide)).mp c_148
                  refine ps_st (S' := (156, [(1, .int (nI x)), (4, .int 1)], [.int 0], M)) rfl rfl rfl ?_
                  refine ps_st (S' := (157, [(1, .int (nI x)), (4, .int 1)], [.int (nI x), .int 0], M)) rfl rfl rfl ?_
                  refine ps_st (S' := (158, [(1, .int (nI x)), (4, .int 1)], [.int 2, .int (nI x), .int 0], M)) rfl rfl rfl ?_
                  refine ps_st (S' := (159, [(1, .int (nI x)), (4, .int 1)], [.int ((nI x) &&& 2), .int 0], M)) rfl rfl rfl ?_
                  rw [nI_an (p := x) (k := 2) (x := 2) rfl]
                  show pl _ _ _ (_, [(1, .int (nI x)), (4, .int 1)], [.int (nI (aN x 2)), .int 0], M) _
                  refine ps_if (S1 := (166, [(1, .int (nI x)), (4, .int 1)], [.int 0], M)) (S2 := (162, [(1, .int (nI x)), (4, .int 1)], [.int 0], M)) rfl rfl rfl (fun c_159 => ?_) (fun c_159 => ?_)
                  · have c_159 : (nI (aN x 2)) = 0 := of_decide_eq_true c_159
                    have n_159 : aN x 2 = 0 := (eq_nI (p := aN x 2) (n := 0) (Nat.lt_of_le_of_lt (an_le _ _) (by decide)) (by decide)).mp c_159
                    refine ps_st (S' := (167, [(4, .int 1)], [.int 0, .int 0], M)) rfl rfl rfl ?_
                    refine ps_if2 (S1 := (172, [(4, .int 1)], [], M)) (S2 := (170, [], [], M)) rfl rfl rfl (fun c_167 => ?_) (fun c_167 => ?_)
                    · exact absurd (of_decide_eq_true c_167) (by decide)
                    refine ps_st (S' := (171, [], [.int 0], M)) rfl rfl rfl ?_
                    exact ps_ret rfl rfl (⟨congrArg (fun x => some (Value.int (nI x))) (show 0 = fitN mj c x 0 from by
                        have e3 := has_0 x 1400
                        have e4 := has_0 x 1024
                        have e5 := has_0 c 512
                        have e2 := sev_0 x
                        have b1 := le1_one x
                        have ha : absN mj x = 0 := (abs_0 mj x).mpr (by omega)
                        have b2 := le1_imh mj x
                        have hi : imhN mj x = 0 := (imh_0 mj x).mpr (by omega)
                        unfold fitN
                        first | ((repeat first | rw [if_pos (by omega)] | rw [if_neg (by omega)]) <;> first | rfl | omega) | ((repeat' split) <;> first | rfl | (exfalso; omega) | omega)), rfl⟩)
                  · have c_159 : ¬ ((nI (aN x 2)) = 0) := of_decide_eq_false c_159
                    have n_159 : ¬ (aN x 2 = 0) := fun h9 => c_159 ((eq_nI (p := aN x 2) (n := 0) (Nat.lt_of_le_of_lt (an_le _ _) (by decide)) (by decide)).mpr h9)
                    refine ps_st (S' := (163, [(1, .int (nI x)), (4, .int 1)], [.int 1, .int 0], M)) rfl rfl rfl ?_
                    refine ps_st (S' := (167, [(4, .int 1)], [.int 1, .int 0], M)) rfl rfl rfl ?_
                    refine ps_if2 (S1 := (172, [(4, .int 1)], [], M)) (S2 := (170, [], [], M)) rfl rfl rfl (fun c_167 => ?_) (fun c_167 => ?_)
                    rotate_left
                    · exact absurd (by decide) (of_decide_eq_false c_167)
                    refine ps_st (S' := (174, [(4, .int 1)], [.int 1], M)) rfl rfl rfl ?_
                    refine ps_if (S1 := (181, [(4, .int 1)], [], M)) (S2 := (177, [(4, .int 1)], [], M)) rfl rfl rfl (fun c_174 => ?_) (fun c_174 => ?_)
                    rotate_left
                    · exact absurd (by decide) (of_decide_eq_false c_174)
                    refine ps_st (S' := (182, [], [.int 0], M)) rfl rfl rfl ?_
                    exact ps_ret rfl rfl (⟨congrArg (fun x => some (Value.int (nI x))) (show 0 = fitN mj c x 0 from by
                        have e3 := has_0 x 1400
                        have e4 := has_0 x 1024
                        have e5 := has_0 c 512
                        have e2 := sev_0 x
                        have b1 := le1_one x
                        have ha : absN mj x = 0 := (abs_0 mj x).mpr (by omega)
                        have b2 := le1_imh mj x
                        have hi : ¬ imhN mj x = 0 := fun h => absurd ((imh_0 mj x).mp h) (by omega)
                        unfold fitN
                        first | ((repeat first | rw [if_pos (by omega)] | rw [if_neg (by omega)]) <;> first | rfl | omega) | ((repeat' split) <;> first | rfl | (exfalso; omega) | omega)), rfl⟩)
                · have c_148 : ¬ ((nI (aN x 1)) = 0) := of_decide_eq_false c_148
                  have n_148 : ¬ (aN x 1 = 0) := fun h9 => c_148 ((eq_nI (p := aN x 1) (n := 0) (Nat.lt_of_le_of_lt (an_le _ _) (by decide)) (by decide)).mpr h9)
                  refine ps_st (S' := (152, [(4, .int 1), (0, .ref m0), (1, .int (nI x)), (3, .int 1)], [.int 1], M)) rfl rfl rfl ?_
                  refine ps_st (S' := (156, [(1, .int (nI x)), (4, .int 1)], [.int 1], M)) rfl rfl rfl ?_
                  refine ps_st (S' := (157, [(1, .int (nI x)), (4, .int 1)], [.int (nI x), .int 1], M)) rfl rfl rfl ?_
                  refine ps_st (S' := (158, [(1, .int (nI x)), (4, .int 1)], [.int 2, .int (nI x), .int 1], M)) rfl rfl rfl ?_
                  refine ps_st (S' := (159, [(1, .int (nI x)), (4, .int 1)], [.int ((nI x) &&& 2), .int 1], M)) rfl rfl rfl ?_
                  rw [nI_an (p := x) (k := 2) (x := 2) rfl]
                  show pl _ _ _ (_, [(1, .int (nI x)), (4, .int 1)], [.int (nI (aN x 2)), .int 1], M) _
                  refine ps_if (S1 := (166, [(1, .int (nI x)), (4, .int 1)], [.int 1], M)) (S2 := (162, [(1, .int (nI x)), (4, .int 1)], [.int 1], M)) rfl rfl rfl (fun c_159 => ?_) (fun c_159 => ?_)
                  · have c_159 : (nI (aN x 2)) = 0 := of_decide_eq_true c_159
                    have n_159 : aN x 2 = 0 := (eq_nI (p := aN x 2) (n := 0) (Nat.lt_of_le_of_lt (an_le _ _) (by decide)) (by decide)).mp c_159
                    refine ps_st (S' := (167, [(4, .int 1)], [.int 0, .int 1], M)) rfl rfl rfl ?_
                    refine ps_if2 (S1 := (172, [(4, .int 1)], [], M)) (S2 := (170, [], [], M)) rfl rfl rfl (fun c_167 => ?_) (fun c_167 => ?_)
                    rotate_left
                    · exact absurd (by decide) (of_decide_eq_false c_167)
                    refine ps_st (S' := (174, [(4, .int 1)], [.int 1], M)) rfl rfl rfl ?_
                    refine ps_if (S1 := (181, [(4, .int 1)], [], M)) (S2 := (177, [(4, .int 1)], [], M)) rfl rfl rfl (fun c_174 => ?_) (fun c_174 => ?_)
                    rotate_left
                    · exact absurd (by decide) (of_decide_eq_false c_174)
                    refine ps_st (S' := (182, [], [.int 0], M)) rfl rfl rfl ?_
                    exact ps_ret rfl rfl (⟨congrArg (fun x => some (Value.int (nI x))) (show 0 = fitN mj c x 0 from by
                        have e3 := has_0 x 1400
                        have e4 := has_0 x 1024
                        have e5 := has_0 c 512
                        have e2 := sev_0 x
                        have b1 := le1_one x
                        have ha : absN mj x = 0 := (abs_0 mj x).mpr (by omega)
                        have b2 := le1_imh mj x
                        have hi : ¬ imhN mj x = 0 := fun h => absurd ((imh_0 mj x).mp h) (by omega)
                        unfold fitN
                        first | ((repeat first | rw [if_pos (by omega)] | rw [if_neg (by omega)]) <;> first | rfl | omega) | ((repeat' split) <;> first | rfl | (exfalso; omega) | omega)), rfl⟩)
                  · have c_159 : ¬ ((nI (aN x 2)) = 0) := of_decide_eq_false c_159
                    have n_159 : ¬ (aN x 2 = 0) := fun h9 => c_159 ((eq_nI (p := aN x 2) (n := 0) (Nat.lt_of_le_of_lt (an_le _ _) (by decide)) (by decide)).mpr h9)
                    refine ps_st (S' := (163, [(1, .int (nI x)), (4, .int 1)], [.int 1, .int 1], M)) rfl rfl rfl ?_
                    refine ps_st (S' := (167, [(4, .int 1)], [.int 1, .int 1], M)) rfl rfl rfl ?_
                    refine ps_if2 (S1 := (172, [(4, .int 1)], [], M)) (S2 := (170, [], [], M)) rfl rfl rfl (fun c_167 => ?_) (fun c_167 => ?_)
                    · exact absurd (of_decide_eq_true c_167) (by decide)
                    refine ps_st (S' := (171, [], [.int 0], M)) rfl rfl rfl ?_
                    exact ps_ret rfl rfl (⟨congrArg (fun x => some (Value.int (nI x))) (show 0 = fitN mj c x 0 from by
                        have e3 := has_0 x 1400
                        have e4 := has_0 x 1024
                        have e5 := has_0 c 512
                        have e2 := sev_0 x
                        have b1 := le1_one x
                        have ha : absN mj x = 0 := (abs_0 mj x).mpr (by omega)
                        have b2 := le1_imh mj x
                        have hi : imhN mj x = 0 := (imh_0 mj x).mpr (by omega)
                        unfold fitN
                        first | ((repeat first | rw [if_pos (by omega)] | rw [if_neg (by omega)]) <;> first | rfl | omega) | ((repeat' split) <;> first | rfl | (exfalso; omega) | omega)), rfl⟩)
              · have c_118 : ¬ (52 ≤ (nI mj)) := of_decide_eq_false c_118
                have n_118 : ¬ (52 ≤ mj) := fun h9 => c_118 ((le_nI (p := 52) (n := mj) (by decide) (by omega)).mpr h9)
                refine ps_st (S' := (122, [(4, .int 1), (0, .ref m0), (1, .int (nI x)), (3, .int 1)], [.int (nI x)], M)) rfl rfl rfl ?_
                refine ps_st (S' := (123, [(4, .int 1), (0, .ref m0), (1, .int (nI x)), (3, .int 1)], [.int 1, .int (nI x)], M)) rfl rfl rfl ?_
                refine ps_st (S' := (124, [(4, .int 1), (0, .ref m0), (1, .int (nI x)), (3, .int 1)], [.int ((nI x) &&& 1)], M)) rfl rfl rfl ?_
                rw [nI_an (p := x) (k := 1) (x := 1) rfl]
                show pl _ _ _ (_, [(4, .int 1), (0, .ref m0), (1, .int (nI x)), (3, .int 1)], [.int (nI (aN x 1))], M) _
                refine ps_if (S1 := (170, [], [], M)) (S2 := (127, [(4, .int 1), (0, .ref m0), (1, .int (nI x)), (3, .int 1)], [], M)) rfl rfl rfl (fun c_124 => ?_) (fun c_124 => ?_)
                · have c_124 : (nI (aN x 1)) = 0 := of_decide_eq_true c_124
                  have n_124 : aN x 1 = 0 := (eq_nI (p := aN x 1) (n := 0) (Nat.lt_of_le_of_lt (an_le _ _) (by decide)) (by decide)).mp c_124
                  refine ps_st (S' := (171, [], [.int 0], M)) rfl rfl rfl ?_
                  exact ps_ret rfl rfl (⟨congrArg (fun x => some (Value.int (nI x))) (show 0 = fitN mj c x 0 from by
                      have e3 := has_0 x 1400
                      have e4 := has_0 x 1024
                      have e5 := has_0 c 512
                      have e2 := sev_0 x
                      have b1 := le1_one x
                      have ha : absN mj x = 0 := (abs_0 mj x).mpr (by omega)
                      have b2 := le1_imh mj x
                      have hi : imhN mj x = 0 := (imh_0 mj x).mpr (by omega)
                      unfold fitN
                      first | ((repeat first | rw [if_pos (by omega)] | rw [if_neg (by omega)]) <;> first | rfl | omega) | ((repeat' split) <;> first | rfl | (exfalso; omega) | omega)), rfl⟩)
                · have c_124 : ¬ ((nI (aN x 1)) = 0) := of_decide_eq_false c_124
                  have n_124 : ¬ (aN x 1 = 0) := fun h9 => c_124 ((eq_nI (p := aN x 1) (n := 0) (Nat.lt_of_le_of_lt (an_le _ _) (by decide)) (by decide)).mpr h9)
                  refine ps_st (S' := (128, [(4, .int 1), (0, .ref m0), (1, .int (nI x)), (3, .int 1)], [.int (nI x)], M)) rfl rfl rfl ?_
                  refine ps_st (S' := (131, [(4, .int 1), (0, .ref m0), (1, .int (nI x)), (3, .int 1)], [.int 1024, .int (nI x)], M)) rfl rfl rfl ?_
                  refine ps_st (S' := (132, [(4, .int 1), (0, .ref m0), (1, .int (nI x)), (3, .int 1)], [.int ((nI x) &&& 1024)], M)) rfl rfl rfl ?_
                  rw [nI_an (p := x) (k := 1024) (x := 1024) rfl]
                  show pl _ _ _ (_, [(4, .int 1), (0, .ref m0), (1, .int (nI x)), (3, .int 1)], [.int (nI (aN x 1024))], M) _
                  refine ps_if (S1 := (170, [], [], M)) (S2 := (135, [(4, .int 1), (0, .ref m0), (1, .int (nI x)), (3, .int 1)], [], M)) rfl rfl rfl (fun c_132 => ?_) (fun c_132 => ?_)
                  · exact absurd (of_decide_eq_true c_132) (show ¬ ((nI (aN x 1024)) = 0) from fun h9 => absurd ((eq_nI (p := aN x 1024) (n := 0) (Nat.lt_of_le_of_lt (an_le _ _) (by decide)) (by decide)).mp h9) (by omega))
                  refine ps_st (S' := (136, [(4, .int 1), (0, .ref m0), (1, .int (nI x)), (3, .int 1)], [.int (nI x)], M)) rfl rfl rfl ?_
                  refine ps_st (S' := (138, [(4, .int 1), (0, .ref m0), (1, .int (nI x)), (3, .int 1)], [.int 8, .int (nI x)], M)) rfl rfl rfl ?_
                  refine ps_st (S' := (139, [(4, .int 1), (0, .ref m0), (1, .int (nI x)), (3, .int 1)], [.int ((nI x) &&& 8)], M)) rfl rfl rfl ?_
                  rw [nI_an (p := x) (k := 8) (x := 8) rfl]
                  show pl _ _ _ (_, [(4, .int 1), (0, .ref m0), (1, .int (nI x)), (3, .int 1)], [.int (nI (aN x 8))], M) _
                  refine ps_if (S1 := (172, [(4, .int 1)], [], M)) (S2 := (142, [(4, .int 1), (0, .ref m0), (1, .int (nI x)), (3, .int 1)], [], M)) rfl rfl rfl (fun c_139 => ?_) (fun c_139 => ?_)
                  · have c_139 : (nI (aN x 8)) = 0 := of_decide_eq_true c_139
                    have n_139 : aN x 8 = 0 := (eq_nI (p := aN x 8) (n := 0) (Nat.lt_of_le_of_lt (an_le _ _) (by decide)) (by decide)).mp c_139
                    refine ps_st (S' := (174, [(4, .int 1)], [.int 1], M)) rfl rfl rfl ?_
                    refine ps_if (S1 := (181, [(4, .int 1)], [], M)) (S2 := (177, [(4, .int 1)], [], M)) rfl rfl rfl (fun c_174 => ?_) (fun c_174 => ?_)
                    rotate_left
                    · exact absurd (by decide) (of_decide_eq_false c_174)
                    refine ps_st (S' := (182, [], [.int 0], M)) rfl rfl rfl ?_
                    exact ps_ret rfl rfl (⟨congrArg (fun x => some (Value.int (nI x))) (show 0 = fitN mj c x 0 from by
                        have e3 := has_0 x 1400
                        have e4 := has_0 x 1024
                        have e5 := has_0 c 512
                        have e2 := sev_0 x
                        have b1 := le1_one x
                        have ha : absN mj x = 0 := (abs_0 mj x).mpr (by omega)
                        have b2 := le1_imh mj x
                        have hi : ¬ imhN mj x = 0 := fun h => absurd ((imh_0 mj x).mp h) (by omega)
                        unfold fitN
                        first | ((repeat first | rw [if_pos (by omega)] | rw [if_neg (by omega)]) <;> first | rfl | omega) | ((repeat' split) <;> first | rfl | (exfalso; omega) | omega)), rfl⟩)
                  · have c_139 : ¬ ((nI (aN x 8)) = 0) := of_decide_eq_false c_139
                    have n_139 : ¬ (aN x 8 = 0) := fun h9 => c_139 ((eq_nI (p := aN x 8) (n := 0) (Nat.lt_of_le_of_lt (an_le _ _) (by decide)) (by decide)).mpr h9)
                    refine ps_st (S' := (170, [], [], M)) rfl rfl rfl ?_
                    refine ps_st (S' := (171, [], [.int 0], M)) rfl rfl rfl ?_
                    exact ps_ret rfl rfl (⟨congrArg (fun x => some (Value.int (nI x))) (show 0 = fitN mj c x 0 from by
                        have e3 := has_0 x 1400
                        have e4 := has_0 x 1024
                        have e5 := has_0 c 512
                        have e2 := sev_0 x
                        have b1 := le1_one x
                        have ha : absN mj x = 0 := (abs_0 mj x).mpr (by omega)
                        have b2 := le1_imh mj x
                        have hi : imhN mj x = 0 := (imh_0 mj x).mpr (by omega)
                        unfold fitN
                        first | ((repeat first | rw [if_pos (by omega)] | rw [if_neg (by omega)]) <;> first | rfl | omega) | ((repeat' split) <;> first | rfl | (exfalso; omega) | omega)), rfl⟩)
            · have c_107 : ¬ ((nI (aN x 308)) = 0) := of_decide_eq_false c_107
              have n_107 : ¬ (aN x 308 = 0) := fun h9 => c_107 ((eq_nI (p := aN x 308) (n := 0) (Nat.lt_of_le_of_lt (an_le _ _) (by decide)) (by decide)).mpr h9)
              refine ps_st (S' := (111, [(4, .int 1), (0, .ref m0), (1, .int (nI x)), (3, .int 1)], [.int 0], M)) rfl rfl rfl ?_
              exact ps_ret rfl rfl (⟨congrArg (fun x => some (Value.int (nI x))) (show 0 = fitN mj c x 0 from by
                  have e3 := has_0 x 1400
                  have e4 := has_0 x 1024
                  have e5 := has_0 c 512
                  have e2 := sev_0 x
                  have b1 := le1_one x
                  have ha : absN mj x = 0 := (abs_0 mj x).mpr (by omega)
                  have b2 := le1_imh mj x
                  have hi : imhN mj x = 0 := (imh_0 mj x).mpr (by omega)
                  unfold fitN
                  first | ((repeat first | rw [if_pos (by omega)] | rw [if_neg (by omega)]) <;> first | rfl | omega) | ((repeat' split) <;> first | rfl | (exfalso; omega) | omega)), rfl⟩)
set_option maxHeartbeats 8000000 in
theorem rd_fit10 {g : xe_G} {m0 : Nat} {q : Nat → Nat} {z : Nat × Nat} {I : rI} {R : rR} {M : mi_H} {mj x c : Nat} (hR : RS g m0 q z I R M) (hi53 : I 53 = some (nI mj))  (hmj : mj < 65536) (hx : x < 65536) (hc : aN c 512 = 0) : pt (mT g) 209 [.ref m0, .int (nI x), .int 1, .int 0] M (fun v M' => (v = some (.int (nI (fitN mj c x 1))) ∧ M = M')) := by
  refine pt_in (b := mb_209 g) rfl (fun kf => ?_)
  show pl (mT g) kf (mb_209 g).2 (0, [(0, .ref m0), (1, .int (nI x)), (2, .int 1), (3, .int 0)], [], M) _
  refine ps_st (S' := (1, [(0, .ref m0), (1, .int (nI x)), (2, .int 1), (3, .int 0)], [.int 1], M)) rfl rfl rfl ?_
  refine ps_if (S1 := (28, [(0, .ref m0), (1, .int (nI x)), (2, .int 1), (3, .int 0)], [], M)) (S2 := (4, [(0, .ref m0), (1, .int (nI x)), (2, .int 1), (3, .int 0)], [], M)) rfl rfl rfl (fun c_1 => ?_) (fun c_1 => ?_)
  · exact absurd (of_decide_eq_true c_1) (by decide)
  refine ps_st (S' := (5, [(0, .ref m0), (1, .int (nI x)), (2, .int 1), (3, .int 0)], [.int (nI x)], M)) rfl rfl rfl ?_
  refine ps_st (S' := (6, [(0, .ref m0), (1, .int (nI x)), (2, .int 1), (3, .int 0)], [.int 1, .int (nI x)], M)) rfl rfl rfl ?_
  refine ps_st (S' := (7, [(0, .ref m0), (1, .int (nI x)), (2, .int 1), (3, .int 0)], [.int 2, .int 1, .int (nI x)], M)) rfl rfl rfl ?_
  refine ps_st (S' := (8, [(0, .ref m0), (1, .int (nI x)), (2, .int 1), (3, .int 0)], [.int 4, .int 2, .int 1, .int (nI x)], M)) rfl rfl rfl ?_
  refine pl_call (a := [.int (nI x), .int 1, .int 2, .int 4]) (rest := []) rfl rfl rfl (rd_several (x := x)) (fun v1 M2 q3 => ?_)
  obtain ⟨rfl, rfl⟩ := q3
  show pl _ _ _ (11, [(0, .ref m0), (1, .int (nI x)), (2, .int 1), (3, .int 0)], [.int (nI (sevN x))], M) _
  refine ps_if (S1 := (26, [], [], M)) (S2 := (14, [(0, .ref m0), (1, .int (nI x)), (2, .int 1), (3, .int 0)], [], M)) rfl rfl rfl (fun c_11 => ?_) (fun c_11 => ?_)
  · have c_11 : ¬ (nI (sevN x)) = 0 := of_decide_eq_true c_11
    have n_11 : ¬ (sevN x = 0) := fun h9 => c_11 ((eq_nI (p := sevN x) (n := 0) (Nat.lt_trans (le1_sev _) (by decide)) (by decide)).mpr h9)
    refine ps_st (S' := (27, [], [.int 0], M)) rfl rfl rfl ?_
    exact ps_ret rfl rfl (⟨congrArg (fun x => some (Value.int (nI x))) (show 0 = fitN mj c x 1 from by
        have e3 := has_0 x 1400
        have e4 := has_0 x 1024
        have e5 := has_0 c 512
        have e2 := sev_0 x
        have b1 := le1_one x
        unfold fitN
        first | ((repeat first | rw [if_pos (by omega)] | rw [if_neg (by omega)]) <;> first | rfl | omega) | ((repeat' split) <;> first | rfl | (exfalso; omega) | omega)), rfl⟩)
  · have c_11 : ¬ (¬ (nI (sevN x)) = 0) := of_decide_eq_false c_11
    have n_11 : sevN x = 0 := (eq_nI (p := sevN x) (n := 0) (Nat.lt_trans (le1_sev _) (by decide)) (by decide)).mp (Decidable.not_not.mp c_11)
    refine ps_st (S' := (15, [(0, .ref m0), (1, .int (nI x)), (2, .int 1), (3, .int 0)], [.int (nI x)], M)) rfl rfl rfl ?_
    refine ps_st (S' := (18, [(0, .ref m0), (1, .int (nI x)), (2, .int 1), (3, .int 0)], [.int 1400, .int (nI x)], M)) rfl rfl rfl ?_
    refine ps_st (S' := (19, [(0, .ref m0), (1, .int (nI x)), (2, .int 1), (3, .int 0)], [.int ((nI x) &&& 1400)], M)) rfl rfl rfl ?_
    rw [nI_an (p := x) (k := 1400) (x := 1400) rfl]
    show pl _ _ _ (_, [(0, .ref m0), (1, .int (nI x)), (2, .int 1), (3, .int 0)], [.int (nI (aN x 1400))], M) _
    refine ps_if (S1 := (26, [], [], M)) (S2 := (22, [(0, .ref m0), (1, .int (nI x)), (2, .int 1), (3, .int 0)], [], M)) rfl rfl rfl (fun c_19 => ?_) (fun c_19 => ?_)
    · have c_19 : ¬ (nI (aN x 1400)) = 0 := of_decide_eq_true c_19
      have n_19 : ¬ (aN x 1400 = 0) := fun h9 => c_19 ((eq_nI (p := aN x 1400) (n := 0) (Nat.lt_of_le_of_lt (an_le _ _) (by decide)) (by decide)).mpr h9)
      refine ps_st (S' := (27, [], [.int 0], M)) rfl rfl rfl ?_
      exact ps_ret rfl rfl (⟨congrArg (fun x => some (Value.int (nI x))) (show 0 = fitN mj c x 1 from by
          have e3 := has_0 x 1400
          have e4 := has_0 x 1024
          have e5 := has_0 c 512
          have e2 := sev_0 x
          have b1 := le1_one x
          unfold fitN
          first | ((repeat first | rw [if_pos (by omega)] | rw [if_neg (by omega)]) <;> first | rfl | omega) | ((repeat' split) <;> first | rfl | (exfalso; omega) | omega)), rfl⟩)
    · have c_19 : ¬ (¬ (nI (aN x 1400)) = 0) := of_decide_eq_false c_19
      have n_19 : aN x 1400 = 0 := (eq_nI (p := aN x 1400) (n := 0) (Nat.lt_of_le_of_lt (an_le _ _) (by decide)) (by decide)).mp (Decidable.not_not.mp c_19)
      refine ps_st (S' := (23, [(0, .ref m0), (1, .int (nI x)), (2, .int 1), (3, .int 0)], [.int 1], M)) rfl rfl rfl ?_
      refine ps_st (S' := (27, [], [.int 1], M)) rfl rfl rfl ?_
      exact ps_ret rfl rfl (⟨congrArg (fun x => some (Value.int (nI x))) (show 1 = fitN mj c x 1 from by
          have e3 := has_0 x 1400
          have e4 := has_0 x 1024
          have e5 := has_0 c 512
          have e2 := sev_0 x
          have b1 := le1_one x
          unfold fitN
          first | ((repeat first | rw [if_pos (by omega)] | rw [if_neg (by omega)]) <;> first | rfl | omega) | ((repeat' split) <;> first | rfl | (exfalso; omega) | omega)), rfl⟩)
set_option maxHeartbeats 8000000 in
theorem rd_fit11 {g : xe_G} {m0 : Nat} {q : Nat → Nat} {z : Nat × Nat} {I : rI} {R : rR} {M : mi_H} {mj x c : Nat} (hR : RS g m0 q z I R M) (hi53 : I 53 = some (nI mj))  (hmj : mj < 65536) (hx : x < 65536) (hc : ¬ aN c 512 = 0) : pt (mT g) 209 [.ref m0, .int (nI x), .int 1, .int 1] M (fun v M' => (v = some (.int (nI (fitN mj c x 1))) ∧ M = M')) := by
  refine pt_in (b := mb_209 g) rfl (fun kf => ?_)
  show pl (mT g) kf (mb_209 g).2 (0, [(0, .ref m0), (1, .int (nI x)), (2, .int 1), (3, .int 1)], [], M) _
  refine ps_st (S' := (1, [(0, .ref m0), (1, .int (nI x)), (2, .int 1), (3, .int 1)], [.int 1], M)) rfl rfl rfl ?_
  refine ps_if (S1 := (28, [(0, .ref m0), (1, .int (nI x)), (2, .int 1), (3, .int 1)], [], M)) (S2 := (4, [(0, .ref m0), (1, .int (nI x)), (2, .int 1), (3, .int 1)], [], M)) rfl rfl rfl (fun c_1 => ?_) (fun c_1 => ?_)
  · exact absurd (of_decide_eq_true c_1) (by decide)
  refine ps_st (S' := (5, [(0, .ref m0), (1, .int (nI x)), (2, .int 1), (3, .int 1)], [.int (nI x)], M)) rfl rfl rfl ?_
  refine ps_st (S' := (6, [(0, .ref m0), (1, .int (nI x)), (2, .int 1), (3, .int 1)], [.int 1, .int (nI x)], M)) rfl rfl rfl ?_
  refine ps_st (S' := (7, [(0, .ref m0), (1, .int (nI x)), (2, .int 1), (3, .int 1)], [.int 2, .int 1, .int (nI x)], M)) rfl rfl rfl ?_
  refine ps_st (S' := (8, [(0, .ref m0), (1, .int (nI x)), (2, .int 1), (3, .int 1)], [.int 4, .int 2, .int 1, .int (nI x)], M)) rfl rfl rfl ?_
  refine pl_call (a := [.int (nI x), .int 1, .int 2, .int 4]) (rest := []) rfl rfl rfl (rd_several (x := x)) (fun v1 M2 q3 => ?_)
  obtain ⟨rfl, rfl⟩ := q3
  show pl _ _ _ (11, [(0, .ref m0), (1, .int (nI x)), (2, .int 1), (3, .int 1)], [.int (nI (sevN x))], M) _
  refine ps_if (S1 := (26, [], [], M)) (S2 := (14, [(0, .ref m0), (1, .int (nI x)), (2, .int 1), (3, .int 1)], [], M)) rfl rfl rfl (fun c_11 => ?_) (fun c_11 => ?_)
  · have c_11 : ¬ (nI (sevN x)) = 0 := of_decide_eq_true c_11
    have n_11 : ¬ (sevN x = 0) := fun h9 => c_11 ((eq_nI (p := sevN x) (n := 0) (Nat.lt_trans (le1_sev _) (by decide)) (by decide)).mpr h9)
    refine ps_st (S' := (27, [], [.int 0], M)) rfl rfl rfl ?_
    exact ps_ret rfl rfl (⟨congrArg (fun x => some (Value.int (nI x))) (show 0 = fitN mj c x 1 from by
        have e3 := has_0 x 1400
        have e4 := has_0 x 1024
        have e5 := has_0 c 512
        have e2 := sev_0 x
        have b1 := le1_one x
        unfold fitN
        first | ((repeat first | rw [if_pos (by omega)] | rw [if_neg (by omega)]) <;> first | rfl | omega) | ((repeat' split) <;> first | rfl | (exfalso; omega) | omega)), rfl⟩)
  · have c_11 : ¬ (¬ (nI (sevN x)) = 0) := of_decide_eq_false c_11
    have n_11 : sevN x = 0 := (eq_nI (p := sevN x) (n := 0) (Nat.lt_trans (le1_sev _) (by decide)) (by decide)).mp (Decidable.not_not.mp c_11)
    refine ps_st (S' := (15, [(0, .ref m0), (1, .int (nI x)), (2, .int 1), (3, .int 1)], [.int (nI x)], M)) rfl rfl rfl ?_
    refine ps_st (S' := (18, [(0, .ref m0), (1, .int (nI x)), (2, .int 1), (3, .int 1)], [.int 1400, .int (nI x)], M)) rfl rfl rfl ?_
    refine ps_st (S' := (19, [(0, .ref m0), (1, .int (nI x)), (2, .int 1), (3, .int 1)], [.int ((nI x) &&& 1400)], M)) rfl rfl rfl ?_
    rw [nI_an (p := x) (k := 1400) (x := 1400) rfl]
    show pl _ _ _ (_, [(0, .ref m0), (1, .int (nI x)), (2, .int 1), (3, .int 1)], [.int (nI (aN x 1400))], M) _
    refine ps_if (S1 := (26, [], [], M)) (S2 := (22, [(0, .ref m0), (1, .int (nI x)), (2, .int 1), (3, .int 1)], [], M)) rfl rfl rfl (fun c_19 => ?_) (fun c_19 => ?_)
    · have c_19 : ¬ (nI (aN x 1400)) = 0 := of_decide_eq_true c_19
      have n_19 : ¬ (aN x 1400 = 0) := fun h9 => c_19 ((eq_nI (p := aN x 1400) (n := 0) (Nat.lt_of_le_of_lt (an_le _ _) (by decide)) (by decide)).mpr h9)
      refine ps_st (S' := (27, [], [.int 0], M)) rfl rfl rfl ?_
      exact ps_ret rfl rfl (⟨congrArg (fun x => some (Value.int (nI x))) (show 0 = fitN mj c x 1 from by
          have e3 := has_0 x 1400
          have e4 := has_0 x 1024
          have e5 := has_0 c 512
          have e2 := sev_0 x
          have b1 := le1_one x
          unfold fitN
          first | ((repeat first | rw [if_pos (by omega)] | rw [if_neg (by omega)]) <;> first | rfl | omega) | ((repeat' split) <;> first | rfl | (exfalso; omega) | omega)), rfl⟩)
    · have c_19 : ¬ (¬ (nI (aN x 1400)) = 0) := of_decide_eq_false c_19
      have n_19 : aN x 1400 = 0 := (eq_nI (p := aN x 1400) (n := 0) (Nat.lt_of_le_of_lt (an_le _ _) (by decide)) (by decide)).mp (Decidable.not_not.mp c_19)
      refine ps_st (S' := (23, [(0, .ref m0), (1, .int (nI x)), (2, .int 1), (3, .int 1)], [.int 1], M)) rfl rfl rfl ?_
      refine ps_st (S' := (27, [], [.int 1], M)) rfl rfl rfl ?_
      exact ps_ret rfl rfl (⟨congrArg (fun x => some (Value.int (nI x))) (show 1 = fitN mj c x 1 from by
          have e3 := has_0 x 1400
          have e4 := has_0 x 1024
          have e5 := has_0 c 512
          have e2 := sev_0 x
          have b1 := le1_one x
          unfold fitN
          first | ((repeat first | rw [if_pos (by omega)] | rw [if_neg (by omega)]) <;> first | rfl | omega) | ((repeat' split) <;> first | rfl | (exfalso; omega) | omega)), rfl⟩)
set_option maxHeartbeats 8000000 in
theorem rd_checkClass {g : xe_G} {m0 : Nat} {q : Nat → Nat} {z : Nat × Nat} {I : rI} {R : rR} {M : mi_H} {n : Nat} {f : Nat → Int32} {tx : List (List Nat)} {cN : Nat} {A : Nat → Nat} {N mj : Nat} {E : List (Nat × Nat)} {hA s3 : Nat} (hR : RS g m0 q z I R M) (hi54 : I 54 = some (nI hA)) (hi11 : I 11 = some (nI s3)) (hi51 : I 51 = some 0) (hi52 : I 52 = some (nI N)) (hi53 : I 53 = some (nI mj)) (hF : FK n f I R) (hY : SYT tx cN A I R) (hP : RPV f n E tx N I R) (hEP : EP f n E) (hN : N < 65536) (hmj : mj < 65536) (hs3 : s3 < tx.length ∧ tx.getD s3 [] = ltx 27) (hCP : CP f n E) (hin : hA + 8 + 2 * by2 f (hA + 6) ≤ n) : pt (mT g) 188 [.ref m0] M (fun v M' => (∃  (I' : rI) (R' : rR), (ccS f n E hA = none) ∧ v = some (.int 1) ∧ RS g m0 q z I' R' M' ∧ eqI [47, 48, 58, 59, 60, 61] I I' ∧ eqR [] R R' ∧ I' 58 = some (nI (by2 f hA)) ∧ I' 61 = some (nI (by2 f (hA + 6)))) ∨ (∃ (e : Nat × Nat) (I' : rI) (R' : rR), (ccS f n E hA = some e) ∧ v = some (.int 0) ∧ RS g m0 q z I' R' M' ∧ eqI [47, 48, 58, 59, 60, 61] I I' ∧ eqR [] R R' ∧ I' 47 = some (nI e.1) ∧ I' 48 = some (nI e.2))) := by
  refine pt_in (b := mb_188 g) rfl (fun kf => ?_)
  show pl (mT g) kf (mb_188 g).2 (0, [(0, .ref m0)], [], M) _
  have hEI : eqI [47, 48, 58, 59, 60, 61] I I := eqI.rf
  have hER : eqR [] R R := eqR.rf
  have hn := hF.1
  have htl := hY.1.2.2.1
  have LL : ∀ (kf : Nat), (∀ (i : Nat) (M1 : mi_H) (I1 : rI) (R1 : rR), (RS g m0 q z I1 R1 M1) → (eqI [47, 48, 58, 59, 60, 61] I I1) → (eqR [] R R1) → (I1 54 = some (nI hA)) → (I1 11 = some (nI s3)) → (I1 51 = some 0) → (I1 52 = some (nI N)) → (I1 53 = some (nI mj)) → (I1 58 = some (nI (by2 f hA))) → (FK n f I1 R1) → (SYT tx cN A I1 R1) → (RPV f n E tx N I1 R1) → (hdS f n E hA = none) → (i ≤ by2 f (hA + 6)) → (ifS f n E (hA + 8) (by2 f (hA + 6) - i) i = ifS f n E (hA + 8) (by2 f (hA + 6)) 0) → (∀ j, j < i → ¬ plnN f n E (by2 f (hA + 8 + 2 * j)) = 0) →  pl (mT g) kf (mb_188 g).2 (242, [(0, .ref m0), (4, .int (nI (by2 f (hA + 6)))), (5, .int (nI i))], [], M1) (fun v M' => (∃  (I' : rI) (R' : rR), (ccS f n E hA = none) ∧ v = some (.int 1) ∧ RS g m0 q z I' R' M' ∧ eqI [47, 48, 58, 59, 60, 61] I I' ∧ eqR [] R R' ∧ I' 58 = some (nI (by2 f hA)) ∧ I' 61 = some (nI (by2 f (hA + 6)))) ∨ (∃ (e : Nat × Nat) (I' : rI) (R' : rR), (ccS f n E hA = some e) ∧ v = some (.int 0) ∧ RS g m0 q z I' R' M' ∧ eqI [47, 48, 58, 59, 60, 61] I I' ∧ eqR [] R R' ∧ I' 47 = some (nI e.1) ∧ I' 48 = some (nI e.2)))) ∧ (∀ (i j : Nat) (M1 : mi_H) (I1 : rI) (R1 : rR), (RS g m0 q z I1 R1 M1) → (eqI [47, 48, 58, 59, 60, 61] I I1) → (eqR [] R R1) → (I1 54 = some (nI hA)) → (I1 11 = some (nI s3)) → (I1 51 = some 0) → (I1 52 = some (nI N)) → (I1 53 = some (nI mj)) → (I1 58 = some (nI (by2 f hA))) → (FK n f I1 R1) → (SYT tx cN A I1 R1) → (RPV f n E tx N I1 R1) → (hdS f n E hA = none) → (i < by2 f (hA + 6)) → (j ≤ i) → (ifS f n E (hA + 8) (by2 f (hA + 6) - i) i = ifS f n E (hA + 8) (by2 f (hA + 6)) 0) → (¬ plnN f n E (by2 f (hA + 8 + 2 * i)) = 0) → (∀ j, j < i → ¬ plnN f n E (by2 f (hA + 8 + 2 * j)) = 0) → (dupN f n E (hA + 8) (by2 f (hA + 8 + 2 * i)) (i - j) j = dupN f n E (hA + 8) (by2 f (hA + 8 + 2 * i)) i 0) →  pl (mT g) kf (mb_188 g).2 (288, [(0, .ref m0), (4, .int (nI (by2 f (hA + 6)))), (5, .int (nI i)), (6, .int (nI (hA + 8 + 2 * i))), (7, .int (nI j))], [], M1) (fun v M' => (∃  (I' : rI) (R' : rR), (ccS f n E hA = none) ∧ v = some (.int 1) ∧ RS g m0 q z I' R' M' ∧ eqI [47, 48, 58, 59, 60, 61] I I' ∧ eqR [] R R' ∧ I' 58 = some (nI (by2 f hA)) ∧ I' 61 = some (nI (by2 f (hA + 6)))) ∨ (∃ (e : Nat × Nat) (I' : rI) (R' : rR), (ccS f n E hA = some e) ∧ v = some (.int 0) ∧ RS g m0 q z I' R' M' ∧ eqI [47, 48, 58, 59, 60, 61] I I' ∧ eqR [] R R' ∧ I' 47 = some (nI e.1) ∧ I' 48 = some (nI e.2)))) := by
    intro kf
    induction kf with
    | zero => exact ⟨by intros; exact pl_0, by intros; exact pl_0⟩
    | succ kf ih =>
      refine ⟨?_, ?_⟩
      · skip
        intro i M1 I1 R1 hR1 hEI1 hER1 hl54 hl11 hl51 hl52 hl53 hl58 hF1 hY1 hP1 hh hi hs hq
        have hn := hF1.1
        have hu9 := by2_lt f (hA + 6)
        have htl := hY1.1.2.2.1
        refine ps_st1 (S' := (244, [(0, .ref m0), (4, .int (nI (by2 f (hA + 6)))), (5, .int (nI i))], [.int (nI i)], M1)) rfl rfl rfl ?_
        refine ps_st (S' := (246, [(0, .ref m0), (4, .int (nI (by2 f (hA + 6)))), (5, .int (nI i))], [.int (nI (by2 f (hA + 6))), .int (nI i)], M1)) rfl rfl rfl ?_
        refine ps_if2 (S1 := (349, [(0, .ref m0), (4, .int (nI (by2 f (hA + 6)))), (5, .int (nI i))], [], M1)) (S2 := (249, [(0, .ref m0), (4, .int (nI (by2 f (hA + 6)))), (5, .int (nI i))], [], M1)) rfl rfl rfl (fun c_246 => ?_) (fun c_246 => ?_)
        · have c_246 : (nI (by2 f (hA + 6))) ≤ (nI i) := of_decide_eq_true c_246
          have n_246 : by2 f (hA + 6) ≤ i := (le_nI (p := by2 f (hA + 6)) (n := i) (Nat.lt_trans (by2_lt _ _) (by decide)) (by omega)).mp c_246
          refine ps_st (S' := (350, [(0, .ref m0), (4, .int (nI (by2 f (hA + 6)))), (5, .int (nI i))], [.ref m0], M1)) rfl rfl rfl ?_
          refine ps_st (S' := (352, [(0, .ref m0), (4, .int (nI (by2 f (hA + 6)))), (5, .int (nI i))], [.int (nI (by2 f (hA + 6))), .ref m0], M1)) rfl rfl rfl ?_
          refine pr_put (j := 61) rfl hR1 rfl (fun M1 I2 hR3 hi4 hI5 => ?_)
          have hi6 := (hI5 54 (by decide)).trans hl54
          have hi7 := (hI5 11 (by decide)).trans hl11
          have hi8 := (hI5 51 (by decide)).trans hl51
          have hi9 := (hI5 52 (by decide)).trans hl52
          have hi10 := (hI5 53 (by decide)).trans hl53
          have hi12 := (hI5 58 (by decide)).trans hl58
          have hF_13 := hF1.mono (pIx hI5 (by decide)) (fun _ _ => rfl)
          have hY_14 := hY1.mono (pIx hI5 (by decide)) (fun _ _ => rfl)
          have hP_15 := hP1.mono (pIx hI5 (by decide)) (fun _ _ => rfl)
          have hEI16 := hEI1.put hI5 (by decide)
          show pl _ _ _ (355, [(0, .ref m0), (4, .int (nI (by2 f (hA + 6)))), (5, .int (nI i))], [], M1) _
          refine ps_st (S' := (356, [(0, .ref m0), (4, .int (nI (by2 f (hA + 6)))), (5, .int (nI i))], [.int 1], M1)) rfl rfl rfl ?_
          exact ps_ret rfl rfl (Or.inl ⟨I2, R1, by
              unfold ccS
              rw [hh]
              dsimp only
              rw [← hs, show by2 f (hA + 6) - i = 0 by omega]
              rfl, rfl, hR3, hEI16, hER1, hi12, hi4⟩)
        · have c_246 : ¬ ((nI (by2 f (hA + 6))) ≤ (nI i)) := of_decide_eq_false c_246
          have n_246 : ¬ (by2 f (hA + 6) ≤ i) := fun h9 => c_246 ((le_nI (p := by2 f (hA + 6)) (n := i) (Nat.lt_trans (by2_lt _ _) (by decide)) (by omega)).mpr h9)
          refine ps_st (S' := (250, [(0, .ref m0), (4, .int (nI (by2 f (hA + 6)))), (5, .int (nI i))], [.ref m0], M1)) rfl rfl rfl ?_
          refine pr_int (j := 54) (S' := (253, [(0, .ref m0), (4, .int (nI (by2 f (hA + 6)))), (5, .int (nI i))], [.int (nI hA)], M1)) rfl hR1 rfl hl54 rfl ?_
          refine ps_st (S' := (255, [(0, .ref m0), (4, .int (nI (by2 f (hA + 6)))), (5, .int (nI i))], [.int 8, .int (nI hA)], M1)) rfl rfl rfl ?_
          refine ps_st (S' := (256, [(0, .ref m0), (4, .int (nI (by2 f (hA + 6)))), (5, .int (nI i))], [.int ((nI hA) + 8)], M1)) rfl rfl rfl ?_
          rw [nI_add1 (p := hA) (k := 8) (x := 8) rfl (by omega)]
          show pl _ _ _ (_, [(0, .ref m0), (4, .int (nI (by2 f (hA + 6)))), (5, .int (nI i))], [.int (nI (hA + 8))], M1) _
          refine ps_st (S' := (257, [(0, .ref m0), (4, .int (nI (by2 f (hA + 6)))), (5, .int (nI i))], [.int 2, .int (nI (hA + 8))], M1)) rfl rfl rfl ?_
          refine ps_st (S' := (259, [(0, .ref m0), (4, .int (nI (by2 f (hA + 6)))), (5, .int (nI i))], [.int (nI i), .int 2, .int (nI (hA + 8))], M1)) rfl rfl rfl ?_
          refine ps_st (S' := (260, [(0, .ref m0), (4, .int (nI (by2 f (hA + 6)))), (5, .int (nI i))], [.int (2 * (nI i)), .int (nI (hA + 8))], M1)) rfl rfl rfl ?_
          rw [nI_mul1 (p := 2) (k := i) (x := 2) (y := (nI i)) rfl rfl (by omega)]
          show pl _ _ _ (_, [(0, .ref m0), (4, .int (nI (by2 f (hA + 6)))), (5, .int (nI i))], [.int (nI (2 * i)), .int (nI (hA + 8))], M1) _
          refine ps_st (S' := (261, [(0, .ref m0), (4, .int (nI (by2 f (hA + 6)))), (5, .int (nI i))], [.int ((nI (hA + 8)) + (nI (2 * i)))], M1)) rfl rfl rfl ?_
          rw [nI_add1 (p := hA + 8) (k := 2 * i) (x := (nI (2 * i))) rfl (by omega)]
          show pl _ _ _ (_, [(0, .ref m0), (4, .int (nI (by2 f (hA + 6)))), (5, .int (nI i))], [.int (nI (hA + 8 + 2 * i))], M1) _
          refine ps_st (S' := (263, [(6, .int (nI (hA + 8 + 2 * i))), (0, .ref m0), (4, .int (nI (by2 f (hA + 6)))), (5, .int (nI i))], [], M1)) rfl rfl rfl ?_
          refine ps_st (S' := (264, [(6, .int (nI (hA + 8 + 2 * i))), (0, .ref m0), (4, .int (nI (by2 f (hA + 6)))), (5, .int (nI i))], [.ref m0], M1)) rfl rfl rfl ?_
          refine ps_st (S' := (265, [(6, .int (nI (hA + 8 + 2 * i))), (0, .ref m0), (4, .int (nI (by2 f (hA + 6)))), (5, .int (nI i))], [.ref m0, .ref m0], M1)) rfl rfl rfl ?_
          refine ps_st (S' := (267, [(6, .int (nI (hA + 8 + 2 * i))), (0, .ref m0), (4, .int (nI (by2 f (hA + 6)))), (5, .int (nI i))], [.int (nI (hA + 8 + 2 * i)), .ref m0, .ref m0], M1)) rfl rfl rfl ?_
          refine pl_call (a := [.ref m0, .int (nI (hA + 8 + 2 * i))]) (rest := [.ref m0]) rfl rfl rfl (rd_u2 (n := n) (f := f) (p := (hA + 8 + 2 * i)) hR1 hF1 (by omega)) (fun v17 M18 q19 => ?_)
          obtain ⟨rfl, rfl⟩ := q19
          show pl _ _ _ (270, [(6, .int (nI (hA + 8 + 2 * i))), (0, .ref m0), (4, .int (nI (by2 f (hA + 6)))), (5, .int (nI i))], [.int (nI (by2 f (hA + 8 + 2 * i))), .ref m0], M1) _
          have hu_267 := by2_lt f (hA + 8 + 2 * i)
          refine pl_call (a := [.ref m0, .int (nI (by2 f (hA + 8 + 2 * i)))]) (rest := []) rfl rfl rfl (rd_plainClass (n := n) (f := f) (tx := tx) (cN := cN) (A := A) (N := N) (mj := mj) (E := E) (k := (by2 f (hA + 8 + 2 * i))) hR1 hl51 hl52 hl53 hF1 hY1 hP1 (hEP) (hN) (hmj) (by2_lt _ _) (hCP)) (fun v20 M21 q22 => ?_)
          obtain ⟨rfl, rfl⟩ := q22
          show pl _ _ _ (273, [(6, .int (nI (hA + 8 + 2 * i))), (0, .ref m0), (4, .int (nI (by2 f (hA + 6)))), (5, .int (nI i))], [.int (nI (plnN f n E (by2 f (hA + 8 + 2 * i))))], M1) _
          refine ps_if (S1 := (285, [(6, .int (nI (hA + 8 + 2 * i))), (0, .ref m0), (4, .int (nI (by2 f (hA + 6)))), (5, .int (nI i))], [], M1)) (S2 := (276, [(6, .int (nI (hA + 8 + 2 * i))), (0, .ref m0), (4, .int (nI (by2 f (hA + 6)))), (5, .int (nI i))], [], M1)) rfl rfl rfl (fun c_273 => ?_) (fun c_273 => ?_)
          · have c_273 : ¬ (nI (plnN f n E (by2 f (hA + 8 + 2 * i)))) = 0 := of_decide_eq_true c_273
            have n_273 : ¬ (plnN f n E (by2 f (hA + 8 + 2 * i)) = 0) := fun h9 => c_273 ((eq_nI (p := plnN f n E (by2 f (hA + 8 + 2 * i))) (n := 0) (Nat.lt_trans (le1_pln _ _ _ _) (by decide)) (by decide)).mpr h9)
            refine ps_st (S' := (286, [(6, .int (nI (hA + 8 + 2 * i))), (0, .ref m0), (4, .int (nI (by2 f (hA + 6)))), (5, .int (nI i))], [.int 0], M1)) rfl rfl rfl ?_
            refine ps_st (S' := (288, [(0, .ref m0), (4, .int (nI (by2 f (hA + 6)))), (5, .int (nI i)), (6, .int (nI (hA + 8 + 2 * i))), (7, .int 0)], [], M1)) rfl rfl rfl ?_
            exact ih.2 (i) (0) M1 I1 R1 hR1 hEI1 hER1 hl54 hl11 hl51 hl52 hl53 hl58 hF1 hY1 hP1 (hh) (by omega) (by omega) (hs) (by omega) (hq) (rfl)
          · have c_273 : ¬ (¬ (nI (plnN f n E (by2 f (hA + 8 + 2 * i)))) = 0) := of_decide_eq_false c_273
            have n_273 : plnN f n E (by2 f (hA + 8 + 2 * i)) = 0 := (eq_nI (p := plnN f n E (by2 f (hA + 8 + 2 * i))) (n := 0) (Nat.lt_trans (le1_pln _ _ _ _) (by decide)) (by decide)).mp (Decidable.not_not.mp c_273)
            refine ps_st (S' := (277, [(6, .int (nI (hA + 8 + 2 * i))), (0, .ref m0), (4, .int (nI (by2 f (hA + 6)))), (5, .int (nI i))], [.ref m0], M1)) rfl rfl rfl ?_
            refine ps_st (S' := (279, [(6, .int (nI (hA + 8 + 2 * i))), (0, .ref m0), (4, .int (nI (by2 f (hA + 6)))), (5, .int (nI i))], [.int 18, .ref m0], M1)) rfl rfl rfl ?_
            refine ps_st (S' := (281, [(6, .int (nI (hA + 8 + 2 * i))), (0, .ref m0), (4, .int (nI (by2 f (hA + 6)))), (5, .int (nI i))], [.int (nI (hA + 8 + 2 * i)), .int 18, .ref m0], M1)) rfl rfl rfl ?_
            refine pl_call (a := [.ref m0, .int 18, .int (nI (hA + 8 + 2 * i))]) (rest := []) rfl rfl rfl (rd_wrong (x1 := 18) (x2 := (nI (hA + 8 + 2 * i))) hR1) (fun v23 M24 q25 => ?_)
            obtain ⟨I26, R27, rfl, hR28, hI29, hX30, hi31, hi32⟩ := q25
            have hi33 := (hI29 54 (by decide)).trans hl54
            have hi34 := (hI29 11 (by decide)).trans hl11
            have hi35 := (hI29 51 (by decide)).trans hl51
            have hi36 := (hI29 52 (by decide)).trans hl52
            have hi37 := (hI29 53 (by decide)).trans hl53
            have hi38 := (hI29 58 (by decide)).trans hl58
            have hF_39 := hF1.mono (cIx hI29 (by decide)) (cRx hX30 (by decide))
            have hY_40 := hY1.mono (cIx hI29 (by decide)) (cRx hX30 (by decide))
            have hP_41 := hP1.mono (cIx hI29 (by decide)) (cRx hX30 (by decide))
            have hEI42 := hEI1.tr hI29 (by decide)
            have hER43 := hER1.tr hX30 (by decide)
            show pl _ _ _ (284, [(6, .int (nI (hA + 8 + 2 * i))), (0, .ref m0), (4, .int (nI (by2 f (hA + 6)))), (5, .int (nI i))], [.int 0], M24) _
            exact ps_ret rfl rfl (Or.inr ⟨(18, hA + 8 + 2 * i), I26, R27, by
                unfold ccS
                rw [hh]
                dsimp only
                rw [← hs, ifS_st (i := i) (by omega), if_pos (by omega)], rfl, hR28, hEI42, hER43, hi31, hi32⟩)
      · skip
        intro i j M1 I1 R1 hR1 hEI1 hER1 hl54 hl11 hl51 hl52 hl53 hl58 hF1 hY1 hP1 hh hi hj hs hp hq hd
        have hn := hF1.1
        have hu9 := by2_lt f (hA + 6)
        have htl := hY1.1.2.2.1
        refine ps_st1 (S' := (290, [(0, .ref m0), (4, .int (nI (by2 f (hA + 6)))), (5, .int (nI i)), (6, .int (nI (hA + 8 + 2 * i))), (7, .int (nI j))], [.int (nI j)], M1)) rfl rfl rfl ?_
        refine ps_st (S' := (292, [(0, .ref m0), (4, .int (nI (by2 f (hA + 6)))), (5, .int (nI i)), (6, .int (nI (hA + 8 + 2 * i))), (7, .int (nI j))], [.int (nI i), .int (nI j)], M1)) rfl rfl rfl ?_
        refine ps_if2 (S1 := (343, [(0, .ref m0), (4, .int (nI (by2 f (hA + 6)))), (5, .int (nI i)), (6, .int (nI (hA + 8 + 2 * i))), (7, .int (nI j))], [], M1)) (S2 := (295, [(0, .ref m0), (4, .int (nI (by2 f (hA + 6)))), (5, .int (nI i)), (6, .int (nI (hA + 8 + 2 * i))), (7, .int (nI j))], [], M1)) rfl rfl rfl (fun c_292 => ?_) (fun c_292 => ?_)
        · have c_292 : (nI i) ≤ (nI j) := of_decide_eq_true c_292
          have n_292 : i ≤ j := (le_nI (p := i) (n := j) (by omega) (by omega)).mp c_292
          refine ps_st (S' := (346, [(5, .int ((nI i) + 1)), (0, .ref m0), (4, .int (nI (by2 f (hA + 6)))), (6, .int (nI (hA + 8 + 2 * i))), (7, .int (nI j))], [], M1)) rfl rfl rfl ?_
          rw [nI_add1 (p := i) (k := 1) (x := 1) rfl (by omega)]
          show pl _ _ _ (_, [(5, .int (nI (i + 1))), (0, .ref m0), (4, .int (nI (by2 f (hA + 6)))), (6, .int (nI (hA + 8 + 2 * i))), (7, .int (nI j))], [], M1) _
          refine ps_st (S' := (242, [(0, .ref m0), (4, .int (nI (by2 f (hA + 6)))), (5, .int (nI (i + 1)))], [], M1)) rfl rfl rfl ?_
          exact ih.1 (i + 1) M1 I1 R1 hR1 hEI1 hER1 hl54 hl11 hl51 hl52 hl53 hl58 hF1 hY1 hP1 (hh) (by omega) (by
              rw [← hs, ifS_st (i := i) (by omega), if_neg (by omega), if_neg (by rw [← hd, show i - j = 0 by omega]; exact fun h => h rfl)]) (by
              intro j9 h9
              by_cases e9 : j9 = i
              · rw [e9]; exact hp
              · exact hq j9 (by omega))
        · have c_292 : ¬ ((nI i) ≤ (nI j)) := of_decide_eq_false c_292
          have n_292 : ¬ (i ≤ j) := fun h9 => c_292 ((le_nI (p := i) (n := j) (by omega) (by omega)).mpr h9)
          have hplj := pln_in (hq j (by omega))
          have hcpj := hCP _ hplj.1
          have hpli := pln_in hp
          have hcpi := hCP _ hpli.1
          refine ps_st (S' := (296, [(0, .ref m0), (4, .int (nI (by2 f (hA + 6)))), (5, .int (nI i)), (6, .int (nI (hA + 8 + 2 * i))), (7, .int (nI j))], [.ref m0], M1)) rfl rfl rfl ?_
          refine ps_st (S' := (297, [(0, .ref m0), (4, .int (nI (by2 f (hA + 6)))), (5, .int (nI i)), (6, .int (nI (hA + 8 + 2 * i))), (7, .int (nI j))], [.ref m0, .ref m0], M1)) rfl rfl rfl ?_
          refine ps_st (S' := (298, [(0, .ref m0), (4, .int (nI (by2 f (hA + 6)))), (5, .int (nI i)), (6, .int (nI (hA + 8 + 2 * i))), (7, .int (nI j))], [.ref m0, .ref m0, .ref m0], M1)) rfl rfl rfl ?_
          refine pr_int (j := 54) (S' := (301, [(0, .ref m0), (4, .int (nI (by2 f (hA + 6)))), (5, .int (nI i)), (6, .int (nI (hA + 8 + 2 * i))), (7, .int (nI j))], [.int (nI hA), .ref m0, .ref m0], M1)) rfl hR1 rfl hl54 rfl ?_
          refine ps_st (S' := (303, [(0, .ref m0), (4, .int (nI (by2 f (hA + 6)))), (5, .int (nI i)), (6, .int (nI (hA + 8 + 2 * i))), (7, .int (nI j))], [.int 8, .int (nI hA), .ref m0, .ref m0], M1)) rfl rfl rfl ?_
          refine ps_st (S' := (304, [(0, .ref m0), (4, .int (nI (by2 f (hA + 6)))), (5, .int (nI i)), (6, .int (nI (hA + 8 + 2 * i))), (7, .int (nI j))], [.int ((nI hA) + 8), .ref m0, .ref m0], M1)) rfl rfl rfl ?_
          rw [nI_add1 (p := hA) (k := 8) (x := 8) rfl (by omega)]
          show pl _ _ _ (_, [(0, .ref m0), (4, .int (nI (by2 f (hA + 6)))), (5, .int (nI i)), (6, .int (nI (hA + 8 + 2 * i))), (7, .int (nI j))], [.int (nI (hA + 8)), .ref m0, .ref m0], M1) _
          refine ps_st (S' := (305, [(0, .ref m0), (4, .int (nI (by2 f (hA + 6)))), (5, .int (nI i)), (6, .int (nI (hA + 8 + 2 * i))), (7, .int (nI j))], [.int 2, .int (nI (hA + 8)), .ref m0, .ref m0], M1)) rfl rfl rfl ?_
          refine ps_st (S' := (307, [(0, .ref m0), (4, .int (nI (by2 f (hA + 6)))), (5, .int (nI i)), (6, .int (nI (hA + 8 + 2 * i))), (7, .int (nI j))], [.int (nI j), .int 2, .int (nI (hA + 8)), .ref m0, .ref m0], M1)) rfl rfl rfl ?_
          refine ps_st (S' := (308, [(0, .ref m0), (4, .int (nI (by2 f (hA + 6)))), (5, .int (nI i)), (6, .int (nI (hA + 8 + 2 * i))), (7, .int (nI j))], [.int (2 * (nI j)), .int (nI (hA + 8)), .ref m0, .ref m0], M1)) rfl rfl rfl ?_
          rw [nI_mul1 (p := 2) (k := j) (x := 2) (y := (nI j)) rfl rfl (by omega)]
          show pl _ _ _ (_, [(0, .ref m0), (4, .int (nI (by2 f (hA + 6)))), (5, .int (nI i)), (6, .int (nI (hA + 8 + 2 * i))), (7, .int (nI j))], [.int (nI (2 * j)), .int (nI (hA + 8)), .ref m0, .ref m0], M1) _
          refine ps_st (S' := (309, [(0, .ref m0), (4, .int (nI (by2 f (hA + 6)))), (5, .int (nI i)), (6, .int (nI (hA + 8 + 2 * i))), (7, .int (nI j))], [.int ((nI (hA + 8)) + (nI (2 * j))), .ref m0, .ref m0], M1)) rfl rfl rfl ?_
          rw [nI_add1 (p := hA + 8) (k := 2 * j) (x := (nI (2 * j))) rfl (by omega)]
          show pl _ _ _ (_, [(0, .ref m0), (4, .int (nI (by2 f (hA + 6)))), (5, .int (nI i)), (6, .int (nI (hA + 8 + 2 * i))), (7, .int (nI j))], [.int (nI (hA + 8 + 2 * j)), .ref m0, .ref m0], M1) _
          refine pl_call (a := [.ref m0, .int (nI (hA + 8 + 2 * j))]) (rest := [.ref m0]) rfl rfl rfl (rd_u2 (n := n) (f := f) (p := (hA + 8 + 2 * j)) hR1 hF1 (by omega)) (fun v44 M45 q46 => ?_)
          obtain ⟨rfl, rfl⟩ := q46
          show pl _ _ _ (312, [(0, .ref m0), (4, .int (nI (by2 f (hA + 6)))), (5, .int (nI i)), (6, .int (nI (hA + 8 + 2 * i))), (7, .int (nI j))], [.int (nI (by2 f (hA + 8 + 2 * j))), .ref m0], M1) _
          have hu_309 := by2_lt f (hA + 8 + 2 * j)
          refine pl_call (a := [.ref m0, .int (nI (by2 f (hA + 8 + 2 * j)))]) (rest := []) rfl rfl rfl (rd_className (n := n) (f := f) (tx := tx) (cN := cN) (A := A) (N := N) (mj := mj) (E := E) (k := (by2 f (hA + 8 + 2 * j))) hR1 hl51 hl52 hl53 hF1 hY1 hP1 (hEP) (hN) (hmj) (by omega)) (fun v47 M48 q49 => ?_)
          obtain ⟨s50, q312_s, rfl, rfl⟩ := q49
          show pl _ _ _ (315, [(0, .ref m0), (4, .int (nI (by2 f (hA + 6)))), (5, .int (nI i)), (6, .int (nI (hA + 8 + 2 * i))), (7, .int (nI j))], [.int (nI s50)], M1) _
          have hsl_312 := q312_s.1
          have htl_312 := hY1.1.2.2.1
          refine ps_st (S' := (316, [(0, .ref m0), (4, .int (nI (by2 f (hA + 6)))), (5, .int (nI i)), (6, .int (nI (hA + 8 + 2 * i))), (7, .int (nI j))], [.ref m0, .int (nI s50)], M1)) rfl rfl rfl ?_
          refine ps_st (S' := (317, [(0, .ref m0), (4, .int (nI (by2 f (hA + 6)))), (5, .int (nI i)), (6, .int (nI (hA + 8 + 2 * i))), (7, .int (nI j))], [.ref m0, .ref m0, .int (nI s50)], M1)) rfl rfl rfl ?_
          refine ps_st (S' := (319, [(0, .ref m0), (4, .int (nI (by2 f (hA + 6)))), (5, .int (nI i)), (6, .int (nI (hA + 8 + 2 * i))), (7, .int (nI j))], [.int (nI (hA + 8 + 2 * i)), .ref m0, .ref m0, .int (nI s50)], M1)) rfl rfl rfl ?_
          refine pl_call (a := [.ref m0, .int (nI (hA + 8 + 2 * i))]) (rest := [.ref m0, .int (nI s50)]) rfl rfl rfl (rd_u2 (n := n) (f := f) (p := (hA + 8 + 2 * i)) hR1 hF1 (by omega)) (fun v51 M52 q53 => ?_)
          obtain ⟨rfl, rfl⟩ := q53
          show pl _ _ _ (322, [(0, .ref m0), (4, .int (nI (by2 f (hA + 6)))), (5, .int (nI i)), (6, .int (nI (hA + 8 + 2 * i))), (7, .int (nI j))], [.int (nI (by2 f (hA + 8 + 2 * i))), .ref m0, .int (nI s50)], M1) _
          have hu_319 := by2_lt f (hA + 8 + 2 * i)
          refine pl_call (a := [.ref m0, .int (nI (by2 f (hA + 8 + 2 * i)))]) (rest := [.int (nI s50)]) rfl rfl rfl (rd_className (n := n) (f := f) (tx := tx) (cN := cN) (A := A) (N := N) (mj := mj) (E := E) (k := (by2 f (hA + 8 + 2 * i))) hR1 hl51 hl52 hl53 hF1 hY1 hP1 (hEP) (hN) (hmj) (by omega)) (fun v54 M55 q56 => ?_)
          obtain ⟨s57, q322_s, rfl, rfl⟩ := q56
          show pl _ _ _ (325, [(0, .ref m0), (4, .int (nI (by2 f (hA + 6)))), (5, .int (nI i)), (6, .int (nI (hA + 8 + 2 * i))), (7, .int (nI j))], [.int (nI s57), .int (nI s50)], M1) _
          have hsl_322 := q322_s.1
          have htl_322 := hY1.1.2.2.1
          have hsm := sm_sym (k := fi f E (by2 f (hA + 8 + 2 * j))) (m := fi f E (by2 f (hA + 8 + 2 * i))) hY1 q312_s q322_s (by omega) (by omega)
          refine ps_if2 (S1 := (337, [(0, .ref m0), (4, .int (nI (by2 f (hA + 6)))), (5, .int (nI i)), (6, .int (nI (hA + 8 + 2 * i))), (7, .int (nI j))], [], M1)) (S2 := (328, [(0, .ref m0), (4, .int (nI (by2 f (hA + 6)))), (5, .int (nI i)), (6, .int (nI (hA + 8 + 2 * i))), (7, .int (nI j))], [], M1)) rfl rfl rfl (fun c_325 => ?_) (fun c_325 => ?_)
          · have c_325 : ¬ (nI s50) = (nI s57) := of_decide_eq_true c_325
            have n_325 : ¬ (s50 = s57) := fun h9 => c_325 ((eq_nI (p := s50) (n := s57) (by omega) (by omega)).mpr h9)
            refine ps_st (S' := (340, [(7, .int ((nI j) + 1)), (0, .ref m0), (4, .int (nI (by2 f (hA + 6)))), (5, .int (nI i)), (6, .int (nI (hA + 8 + 2 * i)))], [], M1)) rfl rfl rfl ?_
            rw [nI_add1 (p := j) (k := 1) (x := 1) rfl (by omega)]
            show pl _ _ _ (_, [(7, .int (nI (j + 1))), (0, .ref m0), (4, .int (nI (by2 f (hA + 6)))), (5, .int (nI i)), (6, .int (nI (hA + 8 + 2 * i)))], [], M1) _
            refine ps_st (S' := (288, [(0, .ref m0), (4, .int (nI (by2 f (hA + 6)))), (5, .int (nI i)), (6, .int (nI (hA + 8 + 2 * i))), (7, .int (nI (j + 1)))], [], M1)) rfl rfl rfl ?_
            exact ih.2 (i) (j + 1) M1 I1 R1 hR1 hEI1 hER1 hl54 hl11 hl51 hl52 hl53 hl58 hF1 hY1 hP1 (hh) (hi) (by omega) (hs) (hp) (hq) (by
                rw [← hd, dupN_st (j := j) (by omega), if_pos (by omega)])
          · have c_325 : ¬ (¬ (nI s50) = (nI s57)) := of_decide_eq_false c_325
            have n_325 : s50 = s57 := (eq_nI (p := s50) (n := s57) (by omega) (by omega)).mp (Decidable.not_not.mp c_325)
            refine ps_st (S' := (329, [(0, .ref m0), (4, .int (nI (by2 f (hA + 6)))), (5, .int (nI i)), (6, .int (nI (hA + 8 + 2 * i))), (7, .int (nI j))], [.ref m0], M1)) rfl rfl rfl ?_
            refine ps_st (S' := (331, [(0, .ref m0), (4, .int (nI (by2 f (hA + 6)))), (5, .int (nI i)), (6, .int (nI (hA + 8 + 2 * i))), (7, .int (nI j))], [.int 18, .ref m0], M1)) rfl rfl rfl ?_
            refine ps_st (S' := (333, [(0, .ref m0), (4, .int (nI (by2 f (hA + 6)))), (5, .int (nI i)), (6, .int (nI (hA + 8 + 2 * i))), (7, .int (nI j))], [.int (nI (hA + 8 + 2 * i)), .int 18, .ref m0], M1)) rfl rfl rfl ?_
            refine pl_call (a := [.ref m0, .int 18, .int (nI (hA + 8 + 2 * i))]) (rest := []) rfl rfl rfl (rd_wrong (x1 := 18) (x2 := (nI (hA + 8 + 2 * i))) hR1) (fun v58 M59 q60 => ?_)
            obtain ⟨I61, R62, rfl, hR63, hI64, hX65, hi66, hi67⟩ := q60
            have hi68 := (hI64 54 (by decide)).trans hl54
            have hi69 := (hI64 11 (by decide)).trans hl11
            have hi70 := (hI64 51 (by decide)).trans hl51
            have hi71 := (hI64 52 (by decide)).trans hl52
            have hi72 := (hI64 53 (by decide)).trans hl53
            have hi73 := (hI64 58 (by decide)).trans hl58
            have hF_74 := hF1.mono (cIx hI64 (by decide)) (cRx hX65 (by decide))
            have hY_75 := hY1.mono (cIx hI64 (by decide)) (cRx hX65 (by decide))
            have hP_76 := hP1.mono (cIx hI64 (by decide)) (cRx hX65 (by decide))
            have hEI77 := hEI1.tr hI64 (by decide)
            have hER78 := hER1.tr hX65 (by decide)
            show pl _ _ _ (336, [(0, .ref m0), (4, .int (nI (by2 f (hA + 6)))), (5, .int (nI i)), (6, .int (nI (hA + 8 + 2 * i))), (7, .int (nI j))], [.int 0], M59) _
            exact ps_ret rfl rfl (Or.inr ⟨(18, hA + 8 + 2 * i), I61, R62, by
                unfold ccS
                rw [hh]
                dsimp only
                rw [← hs, ifS_st (i := i) (by omega), if_neg (by omega), if_pos (by rw [← hd, dupN_st (j := j) (by omega), if_neg (by omega)]; decide)], rfl, hR63, hEI77, hER78, hi66, hi67⟩)
  refine ps_st (S' := (1, [(0, .ref m0)], [.ref m0], M)) rfl rfl rfl ?_
  refine ps_st (S' := (2, [(0, .ref m0)], [.ref m0, .ref m0], M)) rfl rfl rfl ?_
  refine pr_int (j := 54) (S' := (5, [(0, .ref m0)], [.int (nI hA), .ref m0], M)) rfl hR rfl hi54 rfl ?_
  refine pl_call (a := [.ref m0, .int (nI hA)]) (rest := []) rfl rfl rfl (rd_u2 (n := n) (f := f) (p := hA) hR hF (by omega)) (fun v79 M80 q81 => ?_)
  obtain ⟨rfl, rfl⟩ := q81
  show pl _ _ _ (8, [(0, .ref m0)], [.int (nI (by2 f hA))], M) _
  have hu_5 := by2_lt f hA
  refine ps_st (S' := (9, [(1, .int (nI (by2 f hA))), (0, .ref m0)], [], M)) rfl rfl rfl ?_
  refine ps_st (S' := (10, [(1, .int (nI (by2 f hA))), (0, .ref m0)], [.ref m0], M)) rfl rfl rfl ?_
  refine ps_st (S' := (11, [(1, .int (nI (by2 f hA))), (0, .ref m0)], [.int (nI (by2 f hA)), .ref m0], M)) rfl rfl rfl ?_
  refine pr_put (j := 58) rfl hR rfl (fun M82 I83 hR84 hi85 hI86 => ?_)
  have hi87 := (hI86 54 (by decide)).trans hi54
  have hi88 := (hI86 11 (by decide)).trans hi11
  have hi89 := (hI86 51 (by decide)).trans hi51
  have hi90 := (hI86 52 (by decide)).trans hi52
  have hi91 := (hI86 53 (by decide)).trans hi53
  have hF_92 := hF.mono (pIx hI86 (by decide)) (fun _ _ => rfl)
  have hY_93 := hY.mono (pIx hI86 (by decide)) (fun _ _ => rfl)
  have hP_94 := hP.mono (pIx hI86 (by decide)) (fun _ _ => rfl)
  have hEI95 := hEI.put hI86 (by decide)
  show pl _ _ _ (14, [(1, .int (nI (by2 f hA))), (0, .ref m0)], [], M82) _
  refine ps_st (S' := (15, [(1, .int (nI (by2 f hA))), (0, .ref m0)], [.int (nI (by2 f hA))], M82)) rfl rfl rfl ?_
  refine ps_st (S' := (18, [(1, .int (nI (by2 f hA))), (0, .ref m0)], [.int 512, .int (nI (by2 f hA))], M82)) rfl rfl rfl ?_
  refine ps_st (S' := (19, [(1, .int (nI (by2 f hA))), (0, .ref m0)], [.int ((nI (by2 f hA)) &&& 512)], M82)) rfl rfl rfl ?_
  rw [nI_an (p := by2 f hA) (k := 512) (x := 512) rfl]
  show pl _ _ _ (_, [(1, .int (nI (by2 f hA))), (0, .ref m0)], [.int (nI (aN (by2 f hA) 512))], M82) _
  refine ps_if (S1 := (26, [(1, .int (nI (by2 f hA))), (0, .ref m0)], [], M82)) (S2 := (22, [(1, .int (nI (by2 f hA))), (0, .ref m0)], [], M82)) rfl rfl rfl (fun c_19 => ?_) (fun c_19 => ?_)
  · have c_19 : (nI (aN (by2 f hA) 512)) = 0 := of_decide_eq_true c_19
    have n_19 : aN (by2 f hA) 512 = 0 := (eq_nI (p := aN (by2 f hA) 512) (n := 0) (Nat.lt_of_le_of_lt (an_le _ _) (by decide)) (by decide)).mp c_19
    refine ps_st (S' := (27, [(0, .ref m0), (1, .int (nI (by2 f hA)))], [.int 0], M82)) rfl rfl rfl ?_
    refine ps_st (S' := (28, [(2, .int 0), (0, .ref m0), (1, .int (nI (by2 f hA)))], [], M82)) rfl rfl rfl ?_
    refine ps_st (S' := (29, [(2, .int 0), (0, .ref m0), (1, .int (nI (by2 f hA)))], [.int (nI (by2 f hA))], M82)) rfl rfl rfl ?_
    refine ps_st (S' := (32, [(2, .int 0), (0, .ref m0), (1, .int (nI (by2 f hA)))], [.int 32768, .int (nI (by2 f hA))], M82)) rfl rfl rfl ?_
    refine ps_st (S' := (33, [(2, .int 0), (0, .ref m0), (1, .int (nI (by2 f hA)))], [.int ((nI (by2 f hA)) &&& 32768)], M82)) rfl rfl rfl ?_
    rw [nI_an (p := by2 f hA) (k := 32768) (x := 32768) rfl]
    show pl _ _ _ (_, [(2, .int 0), (0, .ref m0), (1, .int (nI (by2 f hA)))], [.int (nI (aN (by2 f hA) 32768))], M82) _
    refine ps_if (S1 := (82, [(0, .ref m0), (1, .int (nI (by2 f hA))), (2, .int 0)], [], M82)) (S2 := (36, [(2, .int 0), (0, .ref m0), (1, .int (nI (by2 f hA)))], [], M82)) rfl rfl rfl (fun c_33 => ?_) (fun c_33 => ?_)
    · have c_33 : ¬ (nI (aN (by2 f hA) 32768)) = 0 := of_decide_eq_true c_33
      have n_33 : ¬ (aN (by2 f hA) 32768 = 0) := fun h9 => c_33 ((eq_nI (p := aN (by2 f hA) 32768) (n := 0) (Nat.lt_of_le_of_lt (an_le _ _) (by decide)) (by decide)).mpr h9)
      refine ps_st (S' := (83, [(0, .ref m0), (1, .int (nI (by2 f hA))), (2, .int 0)], [.int 0], M82)) rfl rfl rfl ?_
      refine ps_if (S1 := (110, [(0, .ref m0)], [], M82)) (S2 := (86, [(0, .ref m0), (1, .int (nI (by2 f hA))), (2, .int 0)], [], M82)) rfl rfl rfl (fun c_83 => ?_) (fun c_83 => ?_)
      rotate_left
      · exact absurd (by decide) (of_decide_eq_false c_83)
      refine ps_st (S' := (111, [(0, .ref m0)], [.ref m0], M82)) rfl rfl rfl ?_
      refine ps_st (S' := (113, [(0, .ref m0)], [.int 15, .ref m0], M82)) rfl rfl rfl ?_
      refine ps_st (S' := (114, [(0, .ref m0)], [.ref m0, .int 15, .ref m0], M82)) rfl rfl rfl ?_
      refine pr_int (j := 54) (S' := (117, [(0, .ref m0)], [.int (nI hA), .int 15, .ref m0], M82)) rfl hR84 rfl hi87 rfl ?_
      refine pl_call (a := [.ref m0, .int 15, .int (nI hA)]) (rest := []) rfl rfl rfl (rd_wrong (x1 := 15) (x2 := (nI hA)) hR84) (fun v96 M97 q98 => ?_)
      obtain ⟨I99, R100, rfl, hR101, hI102, hX103, hi104, hi105⟩ := q98
      have hi106 := (hI102 54 (by decide)).trans hi87
      have hi107 := (hI102 11 (by decide)).trans hi88
      have hi108 := (hI102 51 (by decide)).trans hi89
      have hi109 := (hI102 52 (by decide)).trans hi90
      have hi110 := (hI102 53 (by decide)).trans hi91
      have hi111 := (hI102 58 (by decide)).trans hi85
      have hF_112 := hF_92.mono (cIx hI102 (by decide)) (cRx hX103 (by decide))
      have hY_113 := hY_93.mono (cIx hI102 (by decide)) (cRx hX103 (by decide))
      have hP_114 := hP_94.mono (cIx hI102 (by decide)) (cRx hX103 (by decide))
      have hEI115 := hEI95.tr hI102 (by decide)
      have hER116 := hER.tr hX103 (by decide)
      show pl _ _ _ (120, [(0, .ref m0)], [.int 0], M97) _
      exact ps_ret rfl rfl (Or.inr ⟨(15, hA), I99, R100, by
          have ec := cfl_0 (by2 f hA)
          have eh := has_0 (by2 f hA) 512
          unfold ccS
          rw [show hdS f n E hA = some (15, hA) by unfold hdS; first | ((repeat first | rw [if_pos (by omega)] | rw [if_neg (by omega)]) <;> first | rfl | omega) | ((repeat' split) <;> first | rfl | (exfalso; omega) | omega)], rfl, hR101, hEI115, hER116, hi104, hi105⟩)
    · have c_33 : ¬ (¬ (nI (aN (by2 f hA) 32768)) = 0) := of_decide_eq_false c_33
      have n_33 : aN (by2 f hA) 32768 = 0 := (eq_nI (p := aN (by2 f hA) 32768) (n := 0) (Nat.lt_of_le_of_lt (an_le _ _) (by decide)) (by decide)).mp (Decidable.not_not.mp c_33)
      refine ps_st (S' := (37, [(2, .int 0), (0, .ref m0), (1, .int (nI (by2 f hA)))], [.int 0], M82)) rfl rfl rfl ?_
      refine ps_if (S1 := (59, [(2, .int 0), (0, .ref m0), (1, .int (nI (by2 f hA)))], [], M82)) (S2 := (40, [(2, .int 0), (0, .ref m0), (1, .int (nI (by2 f hA)))], [], M82)) rfl rfl rfl (fun c_37 => ?_) (fun c_37 => ?_)
      rotate_left
      · exact absurd (by decide) (of_decide_eq_false c_37)
      refine ps_st (S' := (60, [(2, .int 0), (0, .ref m0), (1, .int (nI (by2 f hA)))], [.int (nI (by2 f hA))], M82)) rfl rfl rfl ?_
      refine ps_st (S' := (63, [(2, .int 0), (0, .ref m0), (1, .int (nI (by2 f hA)))], [.int 8192, .int (nI (by2 f hA))], M82)) rfl rfl rfl ?_
      refine ps_st (S' := (64, [(2, .int 0), (0, .ref m0), (1, .int (nI (by2 f hA)))], [.int ((nI (by2 f hA)) &&& 8192)], M82)) rfl rfl rfl ?_
      rw [nI_an (p := by2 f hA) (k := 8192) (x := 8192) rfl]
      show pl _ _ _ (_, [(2, .int 0), (0, .ref m0), (1, .int (nI (by2 f hA)))], [.int (nI (aN (by2 f hA) 8192))], M82) _
      refine ps_if (S1 := (82, [(0, .ref m0), (1, .int (nI (by2 f hA))), (2, .int 0)], [], M82)) (S2 := (67, [(2, .int 0), (0, .ref m0), (1, .int (nI (by2 f hA)))], [], M82)) rfl rfl rfl (fun c_64 => ?_) (fun c_64 => ?_)
      · have c_64 : ¬ (nI (aN (by2 f hA) 8192)) = 0 := of_decide_eq_true c_64
        have n_64 : ¬ (aN (by2 f hA) 8192 = 0) := fun h9 => c_64 ((eq_nI (p := aN (by2 f hA) 8192) (n := 0) (Nat.lt_of_le_of_lt (an_le _ _) (by decide)) (by decide)).mpr h9)
        refine ps_st (S' := (83, [(0, .ref m0), (1, .int (nI (by2 f hA))), (2, .int 0)], [.int 0], M82)) rfl rfl rfl ?_
        refine ps_if (S1 := (110, [(0, .ref m0)], [], M82)) (S2 := (86, [(0, .ref m0), (1, .int (nI (by2 f hA))), (2, .int 0)], [], M82)) rfl rfl rfl (fun c_83 => ?_) (fun c_83 => ?_)
        rotate_left
        · exact absurd (by decide) (of_decide_eq_false c_83)
        refine ps_st (S' := (111, [(0, .ref m0)], [.ref m0], M82)) rfl rfl rfl ?_
        refine ps_st (S' := (113, [(0, .ref m0)], [.int 15, .ref m0], M82)) rfl rfl rfl ?_
        refine ps_st (S' := (114, [(0, .ref m0)], [.ref m0, .int 15, .ref m0], M82)) rfl rfl rfl ?_
        refine pr_int (j := 54) (S' := (117, [(0, .ref m0)], [.int (nI hA), .int 15, .ref m0], M82)) rfl hR84 rfl hi87 rfl ?_
        refine pl_call (a := [.ref m0, .int 15, .int (nI hA)]) (rest := []) rfl rfl rfl (rd_wrong (x1 := 15) (x2 := (nI hA)) hR84) (fun v117 M118 q119 => ?_)
        obtain ⟨I120, R121, rfl, hR122, hI123, hX124, hi125, hi126⟩ := q119
        have hi127 := (hI123 54 (by decide)).trans hi87
        have hi128 := (hI123 11 (by decide)).trans hi88
        have hi129 := (hI123 51 (by decide)).trans hi89
        have hi130 := (hI123 52 (by decide)).trans hi90
        have hi131 := (hI123 53 (by decide)).trans hi91
        have hi132 := (hI123 58 (by decide)).trans hi85
        have hF_133 := hF_92.mono (cIx hI123 (by decide)) (cRx hX124 (by decide))
        have hY_134 := hY_93.mono (cIx hI123 (by decide)) (cRx hX124 (by decide))
        have hP_135 := hP_94.mono (cIx hI123 (by decide)) (cRx hX124 (by decide))
        have hEI136 := hEI95.tr hI123 (by decide)
        have hER137 := hER.tr hX124 (by decide)
        show pl _ _ _ (120, [(0, .ref m0)], [.int 0], M118) _
        exact ps_ret rfl rfl (Or.inr ⟨(15, hA), I120, R121, by
            have ec := cfl_0 (by2 f hA)
            have eh := has_0 (by2 f hA) 512
            unfold ccS
            rw [show hdS f n E hA = some (15, hA) by unfold hdS; first | ((repeat first | rw [if_pos (by omega)] | rw [if_neg (by omega)]) <;> first | rfl | omega) | ((repeat' split) <;> first | rfl | (exfalso; omega) | omega)], rfl, hR122, hEI136, hER137, hi125, hi126⟩)
      · have c_64 : ¬ (¬ (nI (aN (by2 f hA) 8192)) = 0) := of_decide_eq_false c_64
        have n_64 : aN (by2 f hA) 8192 = 0 := (eq_nI (p := aN (by2 f hA) 8192) (n := 0) (Nat.lt_of_le_of_lt (an_le _ _) (by decide)) (by decide)).mp (Decidable.not_not.mp c_64)
        refine ps_st (S' := (68, [(2, .int 0), (0, .ref m0), (1, .int (nI (by2 f hA)))], [.int (nI (by2 f hA))], M82)) rfl rfl rfl ?_
        refine ps_st (S' := (70, [(2, .int 0), (0, .ref m0), (1, .int (nI (by2 f hA)))], [.int 16, .int (nI (by2 f hA))], M82)) rfl rfl rfl ?_
        refine ps_st (S' := (71, [(2, .int 0), (0, .ref m0), (1, .int (nI (by2 f hA)))], [.int ((nI (by2 f hA)) &&& 16)], M82)) rfl rfl rfl ?_
        rw [nI_an (p := by2 f hA) (k := 16) (x := 16) rfl]
        show pl _ _ _ (_, [(2, .int 0), (0, .ref m0), (1, .int (nI (by2 f hA)))], [.int (nI (aN (by2 f hA) 16))], M82) _
        refine ps_if (S1 := (121, [(0, .ref m0), (2, .int 0)], [], M82)) (S2 := (74, [(2, .int 0), (0, .ref m0), (1, .int (nI (by2 f hA)))], [], M82)) rfl rfl rfl (fun c_71 => ?_) (fun c_71 => ?_)
        · have c_71 : (nI (aN (by2 f hA) 16)) = 0 := of_decide_eq_true c_71
          have n_71 : aN (by2 f hA) 16 = 0 := (eq_nI (p := aN (by2 f hA) 16) (n := 0) (Nat.lt_of_le_of_lt (an_le _ _) (by decide)) (by decide)).mp c_71
          refine ps_st (S' := (122, [(0, .ref m0), (2, .int 0)], [.ref m0], M82)) rfl rfl rfl ?_
          refine ps_st (S' := (123, [(0, .ref m0), (2, .int 0)], [.ref m0, .ref m0], M82)) rfl rfl rfl ?_
          refine ps_st (S' := (124, [(0, .ref m0), (2, .int 0)], [.ref m0, .ref m0, .ref m0], M82)) rfl rfl rfl ?_
          refine pr_int (j := 54) (S' := (127, [(0, .ref m0), (2, .int 0)], [.int (nI hA), .ref m0, .ref m0], M82)) rfl hR84 rfl hi87 rfl ?_
          refine ps_st (S' := (128, [(0, .ref m0), (2, .int 0)], [.int 2, .int (nI hA), .ref m0, .ref m0], M82)) rfl rfl rfl ?_
          refine ps_st (S' := (129, [(0, .ref m0), (2, .int 0)], [.int ((nI hA) + 2), .ref m0, .ref m0], M82)) rfl rfl rfl ?_
          rw [nI_add1 (p := hA) (k := 2) (x := 2) rfl (by omega)]
          show pl _ _ _ (_, [(0, .ref m0), (2, .int 0)], [.int (nI (hA + 2)), .ref m0, .ref m0], M82) _
          refine pl_call (a := [.ref m0, .int (nI (hA + 2))]) (rest := [.ref m0]) rfl rfl rfl (rd_u2 (n := n) (f := f) (p := (hA + 2)) hR84 hF_92 (by omega)) (fun v138 M139 q140 => ?_)
          obtain ⟨rfl, rfl⟩ := q140
          show pl _ _ _ (132, [(0, .ref m0), (2, .int 0)], [.int (nI (by2 f (hA + 2))), .ref m0], M82) _
          have hu_129 := by2_lt f (hA + 2)
          refine pl_call (a := [.ref m0, .int (nI (by2 f (hA + 2)))]) (rest := []) rfl rfl rfl (rd_plainClass (n := n) (f := f) (tx := tx) (cN := cN) (A := A) (N := N) (mj := mj) (E := E) (k := (by2 f (hA + 2))) hR84 hi89 hi90 hi91 hF_92 hY_93 hP_94 (hEP) (hN) (hmj) (by2_lt _ _) (hCP)) (fun v141 M142 q143 => ?_)
          obtain ⟨rfl, rfl⟩ := q143
          show pl _ _ _ (135, [(0, .ref m0), (2, .int 0)], [.int (nI (plnN f n E (by2 f (hA + 2))))], M82) _
          refine ps_if (S1 := (151, [(0, .ref m0), (2, .int 0)], [], M82)) (S2 := (138, [(0, .ref m0), (2, .int 0)], [], M82)) rfl rfl rfl (fun c_135 => ?_) (fun c_135 => ?_)
          · have c_135 : ¬ (nI (plnN f n E (by2 f (hA + 2)))) = 0 := of_decide_eq_true c_135
            have n_135 : ¬ (plnN f n E (by2 f (hA + 2)) = 0) := fun h9 => c_135 ((eq_nI (p := plnN f n E (by2 f (hA + 2))) (n := 0) (Nat.lt_trans (le1_pln _ _ _ _) (by decide)) (by decide)).mpr h9)
            have hpl2 := pln_in (f := f) (n := n) (E := E) (k := by2 f (hA + 2)) (by omega)
            have hcp2 := hCP (by2 f (hA + 2)) hpl2.1
            refine ps_st (S' := (152, [(0, .ref m0), (2, .int 0)], [.ref m0], M82)) rfl rfl rfl ?_
            refine ps_st (S' := (153, [(0, .ref m0), (2, .int 0)], [.ref m0, .ref m0], M82)) rfl rfl rfl ?_
            refine ps_st (S' := (154, [(0, .ref m0), (2, .int 0)], [.ref m0, .ref m0, .ref m0], M82)) rfl rfl rfl ?_
            refine ps_st (S' := (155, [(0, .ref m0), (2, .int 0)], [.ref m0, .ref m0, .ref m0, .ref m0], M82)) rfl rfl rfl ?_
            refine pr_int (j := 54) (S' := (158, [(0, .ref m0), (2, .int 0)], [.int (nI hA), .ref m0, .ref m0, .ref m0], M82)) rfl hR84 rfl hi87 rfl ?_
            refine ps_st (S' := (159, [(0, .ref m0), (2, .int 0)], [.int 2, .int (nI hA), .ref m0, .ref m0, .ref m0], M82)) rfl rfl rfl ?_
            refine ps_st (S' := (160, [(0, .ref m0), (2, .int 0)], [.int ((nI hA) + 2), .ref m0, .ref m0, .ref m0], M82)) rfl rfl rfl ?_
            rw [nI_add1 (p := hA) (k := 2) (x := 2) rfl (by omega)]
            show pl _ _ _ (_, [(0, .ref m0), (2, .int 0)], [.int (nI (hA + 2)), .ref m0, .ref m0, .ref m0], M82) _
            refine pl_call (a := [.ref m0, .int (nI (hA + 2))]) (rest := [.ref m0, .ref m0]) rfl rfl rfl (rd_u2 (n := n) (f := f) (p := (hA + 2)) hR84 hF_92 (by omega)) (fun v144 M145 q146 => ?_)
            obtain ⟨rfl, rfl⟩ := q146
            show pl _ _ _ (163, [(0, .ref m0), (2, .int 0)], [.int (nI (by2 f (hA + 2))), .ref m0, .ref m0], M82) _
            have hu_160 := by2_lt f (hA + 2)
            refine pl_call (a := [.ref m0, .int (nI (by2 f (hA + 2)))]) (rest := [.ref m0]) rfl rfl rfl (rd_className (n := n) (f := f) (tx := tx) (cN := cN) (A := A) (N := N) (mj := mj) (E := E) (k := (by2 f (hA + 2))) hR84 hi89 hi90 hi91 hF_92 hY_93 hP_94 (hEP) (hN) (hmj) (by omega)) (fun v147 M148 q149 => ?_)
            obtain ⟨s150, q163_s, rfl, rfl⟩ := q149
            show pl _ _ _ (166, [(0, .ref m0), (2, .int 0)], [.int (nI s150), .ref m0], M82) _
            have hsl_163 := q163_s.1
            have htl_163 := hY_93.1.2.2.1
            refine pr_put (j := 59) rfl hR84 rfl (fun M151 I152 hR153 hi154 hI155 => ?_)
            have hi156 := (hI155 54 (by decide)).trans hi87
            have hi157 := (hI155 11 (by decide)).trans hi88
            have hi158 := (hI155 51 (by decide)).trans hi89
            have hi159 := (hI155 52 (by decide)).trans hi90
            have hi160 := (hI155 53 (by decide)).trans hi91
            have hi161 := (hI155 58 (by decide)).trans hi85
            have hF_162 := hF_92.mono (pIx hI155 (by decide)) (fun _ _ => rfl)
            have hY_163 := hY_93.mono (pIx hI155 (by decide)) (fun _ _ => rfl)
            have hP_164 := hP_94.mono (pIx hI155 (by decide)) (fun _ _ => rfl)
            have hEI165 := hEI95.put hI155 (by decide)
            show pl _ _ _ (169, [(0, .ref m0), (2, .int 0)], [], M151) _
            refine ps_st (S' := (170, [(0, .ref m0), (2, .int 0)], [.ref m0], M151)) rfl rfl rfl ?_
            refine ps_st (S' := (171, [(0, .ref m0), (2, .int 0)], [.ref m0, .ref m0], M151)) rfl rfl rfl ?_
            refine pr_int (j := 54) (S' := (174, [(0, .ref m0), (2, .int 0)], [.int (nI hA), .ref m0], M151)) rfl hR153 rfl hi156 rfl ?_
            refine ps_st (S' := (175, [(0, .ref m0), (2, .int 0)], [.int 4, .int (nI hA), .ref m0], M151)) rfl rfl rfl ?_
            refine ps_st (S' := (176, [(0, .ref m0), (2, .int 0)], [.int ((nI hA) + 4), .ref m0], M151)) rfl rfl rfl ?_
            rw [nI_add1 (p := hA) (k := 4) (x := 4) rfl (by omega)]
            show pl _ _ _ (_, [(0, .ref m0), (2, .int 0)], [.int (nI (hA + 4)), .ref m0], M151) _
            refine pl_call (a := [.ref m0, .int (nI (hA + 4))]) (rest := []) rfl rfl rfl (rd_u2 (n := n) (f := f) (p := (hA + 4)) hR153 hF_162 (by omega)) (fun v166 M167 q168 => ?_)
            obtain ⟨rfl, rfl⟩ := q168
            show pl _ _ _ (179, [(0, .ref m0), (2, .int 0)], [.int (nI (by2 f (hA + 4)))], M151) _
            have hu_176 := by2_lt f (hA + 4)
            refine ps_st (S' := (180, [(3, .int (nI (by2 f (hA + 4)))), (0, .ref m0), (2, .int 0)], [], M151)) rfl rfl rfl ?_
            refine ps_st (S' := (181, [(3, .int (nI (by2 f (hA + 4)))), (0, .ref m0), (2, .int 0)], [.ref m0], M151)) rfl rfl rfl ?_
            refine ps_st (S' := (182, [(3, .int (nI (by2 f (hA + 4)))), (0, .ref m0), (2, .int 0)], [.int (nI (by2 f (hA + 4))), .ref m0], M151)) rfl rfl rfl ?_
            refine pl_call (a := [.ref m0, .int (nI (by2 f (hA + 4)))]) (rest := []) rfl rfl rfl (rd_plainClass (n := n) (f := f) (tx := tx) (cN := cN) (A := A) (N := N) (mj := mj) (E := E) (k := (by2 f (hA + 4))) hR153 hi158 hi159 hi160 hF_162 hY_163 hP_164 (hEP) (hN) (hmj) (by2_lt _ _) (hCP)) (fun v169 M170 q171 => ?_)
            obtain ⟨rfl, rfl⟩ := q171
            show pl _ _ _ (185, [(3, .int (nI (by2 f (hA + 4)))), (0, .ref m0), (2, .int 0)], [.int (nI (plnN f n E (by2 f (hA + 4))))], M151) _
            refine ps_if (S1 := (204, [(0, .ref m0)], [], M151)) (S2 := (188, [(3, .int (nI (by2 f (hA + 4)))), (0, .ref m0), (2, .int 0)], [], M151)) rfl rfl rfl (fun c_185 => ?_) (fun c_185 => ?_)
            · have c_185 : (nI (plnN f n E (by2 f (hA + 4)))) = 0 := of_decide_eq_true c_185
              have n_185 : plnN f n E (by2 f (hA + 4)) = 0 := (eq_nI (p := plnN f n E (by2 f (hA + 4))) (n := 0) (Nat.lt_trans (le1_pln _ _ _ _) (by decide)) (by decide)).mp c_185
              refine ps_st (S' := (205, [(0, .ref m0)], [.ref m0], M151)) rfl rfl rfl ?_
              refine ps_st (S' := (207, [(0, .ref m0)], [.int 17, .ref m0], M151)) rfl rfl rfl ?_
              refine ps_st (S' := (208, [(0, .ref m0)], [.ref m0, .int 17, .ref m0], M151)) rfl rfl rfl ?_
              refine pr_int (j := 54) (S' := (211, [(0, .ref m0)], [.int (nI hA), .int 17, .ref m0], M151)) rfl hR153 rfl hi156 rfl ?_
              refine ps_st (S' := (212, [(0, .ref m0)], [.int 4, .int (nI hA), .int 17, .ref m0], M151)) rfl rfl rfl ?_
              refine ps_st (S' := (213, [(0, .ref m0)], [.int ((nI hA) + 4), .int 17, .ref m0], M151)) rfl rfl rfl ?_
              rw [nI_add1 (p := hA) (k := 4) (x := 4) rfl (by omega)]
              show pl _ _ _ (_, [(0, .ref m0)], [.int (nI (hA + 4)), .int 17, .ref m0], M151) _
              refine pl_call (a := [.ref m0, .int 17, .int (nI (hA + 4))]) (rest := []) rfl rfl rfl (rd_wrong (x1 := 17) (x2 := (nI (hA + 4))) hR153) (fun v172 M173 q174 => ?_)
              obtain ⟨I175, R176, rfl, hR177, hI178, hX179, hi180, hi181⟩ := q174
              have hi182 := (hI178 54 (by decide)).trans hi156
              have hi183 := (hI178 11 (by decide)).trans hi157
              have hi184 := (hI178 51 (by decide)).trans hi158
              have hi185 := (hI178 52 (by decide)).trans hi159
              have hi186 := (hI178 53 (by decide)).trans hi160
              have hi187 := (hI178 58 (by decide)).trans hi161
              have hi188 := (hI178 59 (by decide)).trans hi154
              have hF_189 := hF_162.mono (cIx hI178 (by decide)) (cRx hX179 (by decide))
              have hY_190 := hY_163.mono (cIx hI178 (by decide)) (cRx hX179 (by decide))
              have hP_191 := hP_164.mono (cIx hI178 (by decide)) (cRx hX179 (by decide))
              have hEI192 := hEI165.tr hI178 (by decide)
              have hER193 := hER.tr hX179 (by decide)
              show pl _ _ _ (216, [(0, .ref m0)], [.int 0], M173) _
              exact ps_ret rfl rfl (Or.inr ⟨(17, hA + 4), I175, R176, by
                  have ec := cfl_0 (by2 f hA)
                  have eh := has_0 (by2 f hA) 512
                  unfold ccS
                  rw [show hdS f n E hA = some (17, hA + 4) by unfold hdS; first | ((repeat first | rw [if_pos (by omega)] | rw [if_neg (by omega)]) <;> first | rfl | omega) | ((repeat' split) <;> first | rfl | (exfalso; omega) | omega)], rfl, hR177, hEI192, hER193, hi180, hi181⟩)
            · have c_185 : ¬ ((nI (plnN f n E (by2 f (hA + 4)))) = 0) := of_decide_eq_false c_185
              have n_185 : ¬ (plnN f n E (by2 f (hA + 4)) = 0) := fun h9 => c_185 ((eq_nI (p := plnN f n E (by2 f (hA + 4))) (n := 0) (Nat.lt_trans (le1_pln _ _ _ _) (by decide)) (by decide)).mpr h9)
              have hpl4 := pln_in (f := f) (n := n) (E := E) (k := by2 f (hA + 4)) (by omega)
              have hcp4 := hCP (by2 f (hA + 4)) hpl4.1
              refine ps_st (S' := (189, [(3, .int (nI (by2 f (hA + 4)))), (0, .ref m0), (2, .int 0)], [.int 0], M151)) rfl rfl rfl ?_
              refine ps_if (S1 := (217, [(0, .ref m0), (3, .int (nI (by2 f (hA + 4))))], [], M151)) (S2 := (192, [(3, .int (nI (by2 f (hA + 4)))), (0, .ref m0), (2, .int 0)], [], M151)) rfl rfl rfl (fun c_189 => ?_) (fun c_189 => ?_)
              rotate_left
              · exact absurd (by decide) (of_decide_eq_false c_189)
              refine ps_st (S' := (218, [(0, .ref m0), (3, .int (nI (by2 f (hA + 4))))], [.ref m0], M151)) rfl rfl rfl ?_
              refine ps_st (S' := (219, [(0, .ref m0), (3, .int (nI (by2 f (hA + 4))))], [.ref m0, .ref m0], M151)) rfl rfl rfl ?_
              refine ps_st (S' := (220, [(0, .ref m0), (3, .int (nI (by2 f (hA + 4))))], [.int (nI (by2 f (hA + 4))), .ref m0, .ref m0], M151)) rfl rfl rfl ?_
              refine pl_call (a := [.ref m0, .int (nI (by2 f (hA + 4)))]) (rest := [.ref m0]) rfl rfl rfl (rd_className (n := n) (f := f) (tx := tx) (cN := cN) (A := A) (N := N) (mj := mj) (E := E) (k := (by2 f (hA + 4))) hR153 hi158 hi159 hi160 hF_162 hY_163 hP_164 (hEP) (hN) (hmj) (by omega)) (fun v194 M195 q196 => ?_)
              obtain ⟨s197, q220_s, rfl, rfl⟩ := q196
              show pl _ _ _ (223, [(0, .ref m0), (3, .int (nI (by2 f (hA + 4))))], [.int (nI s197), .ref m0], M151) _
              have hsl_220 := q220_s.1
              have htl_220 := hY_163.1.2.2.1
              refine pr_put (j := 60) rfl hR153 rfl (fun M198 I199 hR200 hi201 hI202 => ?_)
              have hi203 := (hI202 54 (by decide)).trans hi156
              have hi204 := (hI202 11 (by decide)).trans hi157
              have hi205 := (hI202 51 (by decide)).trans hi158
              have hi206 := (hI202 52 (by decide)).trans hi159
              have hi207 := (hI202 53 (by decide)).trans hi160
              have hi208 := (hI202 58 (by decide)).trans hi161
              have hi209 := (hI202 59 (by decide)).trans hi154
              have hF_210 := hF_162.mono (pIx hI202 (by decide)) (fun _ _ => rfl)
              have hY_211 := hY_163.mono (pIx hI202 (by decide)) (fun _ _ => rfl)
              have hP_212 := hP_164.mono (pIx hI202 (by decide)) (fun _ _ => rfl)
              have hEI213 := hEI165.put hI202 (by decide)
              show pl _ _ _ (226, [(0, .ref m0), (3, .int (nI (by2 f (hA + 4))))], [], M198) _
              have hh : hdS f n E hA = none := by
                have ec := cfl_0 (by2 f hA)
                have eh := has_0 (by2 f hA) 512
                unfold hdS
                first | ((repeat first | rw [if_pos (by omega)] | rw [if_neg (by omega)]) <;> first | rfl | omega) | ((repeat' split) <;> first | rfl | (exfalso; omega) | omega)
              refine ps_st (S' := (227, [(0, .ref m0), (3, .int (nI (by2 f (hA + 4))))], [.ref m0], M198)) rfl rfl rfl ?_
              refine ps_st (S' := (228, [(0, .ref m0), (3, .int (nI (by2 f (hA + 4))))], [.ref m0, .ref m0], M198)) rfl rfl rfl ?_
              refine pr_int (j := 54) (S' := (231, [(0, .ref m0), (3, .int (nI (by2 f (hA + 4))))], [.int (nI hA), .ref m0], M198)) rfl hR200 rfl hi203 rfl ?_
              refine ps_st (S' := (233, [(0, .ref m0), (3, .int (nI (by2 f (hA + 4))))], [.int 6, .int (nI hA), .ref m0], M198)) rfl rfl rfl ?_
              refine ps_st (S' := (234, [(0, .ref m0), (3, .int (nI (by2 f (hA + 4))))], [.int ((nI hA) + 6), .ref m0], M198)) rfl rfl rfl ?_
              rw [nI_add1 (p := hA) (k := 6) (x := 6) rfl (by omega)]
              show pl _ _ _ (_, [(0, .ref m0), (3, .int (nI (by2 f (hA + 4))))], [.int (nI (hA + 6)), .ref m0], M198) _
              refine pl_call (a := [.ref m0, .int (nI (hA + 6))]) (rest := []) rfl rfl rfl (rd_u2 (n := n) (f := f) (p := (hA + 6)) hR200 hF_210 (by omega)) (fun v214 M215 q216 => ?_)
              obtain ⟨rfl, rfl⟩ := q216
              show pl _ _ _ (237, [(0, .ref m0), (3, .int (nI (by2 f (hA + 4))))], [.int (nI (by2 f (hA + 6)))], M198) _
              have hu_234 := by2_lt f (hA + 6)
              refine ps_st (S' := (239, [(4, .int (nI (by2 f (hA + 6)))), (0, .ref m0), (3, .int (nI (by2 f (hA + 4))))], [], M198)) rfl rfl rfl ?_
              refine ps_st (S' := (240, [(4, .int (nI (by2 f (hA + 6)))), (0, .ref m0), (3, .int (nI (by2 f (hA + 4))))], [.int 0], M198)) rfl rfl rfl ?_
              refine ps_st (S' := (242, [(0, .ref m0), (4, .int (nI (by2 f (hA + 6)))), (5, .int 0)], [], M198)) rfl rfl rfl ?_
              exact (LL kf).1 (0) M198 I199 R hR200 hEI213 hER hi203 hi204 hi205 hi206 hi207 hi208 hF_210 hY_211 hP_212 (hh) (by omega) (rfl) (fun j hj => by omega)
          · have c_135 : ¬ (¬ (nI (plnN f n E (by2 f (hA + 2)))) = 0) := of_decide_eq_false c_135
            have n_135 : plnN f n E (by2 f (hA + 2)) = 0 := (eq_nI (p := plnN f n E (by2 f (hA + 2))) (n := 0) (Nat.lt_trans (le1_pln _ _ _ _) (by decide)) (by decide)).mp (Decidable.not_not.mp c_135)
            refine ps_st (S' := (139, [(0, .ref m0), (2, .int 0)], [.ref m0], M82)) rfl rfl rfl ?_
            refine ps_st (S' := (141, [(0, .ref m0), (2, .int 0)], [.int 16, .ref m0], M82)) rfl rfl rfl ?_
            refine ps_st (S' := (142, [(0, .ref m0), (2, .int 0)], [.ref m0, .int 16, .ref m0], M82)) rfl rfl rfl ?_
            refine pr_int (j := 54) (S' := (145, [(0, .ref m0), (2, .int 0)], [.int (nI hA), .int 16, .ref m0], M82)) rfl hR84 rfl hi87 rfl ?_
            refine ps_st (S' := (146, [(0, .ref m0), (2, .int 0)], [.int 2, .int (nI hA), .int 16, .ref m0], M82)) rfl rfl rfl ?_
            refine ps_st (S' := (147, [(0, .ref m0), (2, .int 0)], [.int ((nI hA) + 2), .int 16, .ref m0], M82)) rfl rfl rfl ?_
            rw [nI_add1 (p := hA) (k := 2) (x := 2) rfl (by omega)]
            show pl _ _ _ (_, [(0, .ref m0), (2, .int 0)], [.int (nI (hA + 2)), .int 16, .ref m0], M82) _
            refine pl_call (a := [.ref m0, .int 16, .int (nI (hA + 2))]) (rest := []) rfl rfl rfl (rd_wrong (x1 := 16) (x2 := (nI (hA + 2))) hR84) (fun v217 M218 q219 => ?_)
            obtain ⟨I220, R221, rfl, hR222, hI223, hX224, hi225, hi226⟩ := q219
            have hi227 := (hI223 54 (by decide)).trans hi87
            have hi228 := (hI223 11 (by decide)).trans hi88
            have hi229 := (hI223 51 (by decide)).trans hi89
            have hi230 := (hI223 52 (by decide)).trans hi90
            have hi231 := (hI223 53 (by decide)).trans hi91
            have hi232 := (hI223 58 (by decide)).trans hi85
            have hF_233 := hF_92.mono (cIx hI223 (by decide)) (cRx hX224 (by decide))
            have hY_234 := hY_93.mono (cIx hI223 (by decide)) (cRx hX224 (by decide))
            have hP_235 := hP_94.mono (cIx hI223 (by decide)) (cRx hX224 (by decide))
            have hEI236 := hEI95.tr hI223 (by decide)
            have hER237 := hER.tr hX224 (by decide)
            show pl _ _ _ (150, [(0, .ref m0), (2, .int 0)], [.int 0], M218) _
            exact ps_ret rfl rfl (Or.inr ⟨(16, hA + 2), I220, R221, by
                have ec := cfl_0 (by2 f hA)
                have eh := has_0 (by2 f hA) 512
                unfold ccS
                rw [show hdS f n E hA = some (16, hA + 2) by unfold hdS; first | ((repeat first | rw [if_pos (by omega)] | rw [if_neg (by omega)]) <;> first | rfl | omega) | ((repeat' split) <;> first | rfl | (exfalso; omega) | omega)], rfl, hR222, hEI236, hER237, hi225, hi226⟩)
        · have c_71 : ¬ ((nI (aN (by2 f hA) 16)) = 0) := of_decide_eq_false c_71
          have n_71 : ¬ (aN (by2 f hA) 16 = 0) := fun h9 => c_71 ((eq_nI (p := aN (by2 f hA) 16) (n := 0) (Nat.lt_of_le_of_lt (an_le _ _) (by decide)) (by decide)).mpr h9)
          refine ps_st (S' := (75, [(2, .int 0), (0, .ref m0), (1, .int (nI (by2 f hA)))], [.int (nI (by2 f hA))], M82)) rfl rfl rfl ?_
          refine ps_st (S' := (78, [(2, .int 0), (0, .ref m0), (1, .int (nI (by2 f hA)))], [.int 1024, .int (nI (by2 f hA))], M82)) rfl rfl rfl ?_
          refine ps_st (S' := (79, [(2, .int 0), (0, .ref m0), (1, .int (nI (by2 f hA)))], [.int ((nI (by2 f hA)) &&& 1024)], M82)) rfl rfl rfl ?_
          rw [nI_an (p := by2 f hA) (k := 1024) (x := 1024) rfl]
          show pl _ _ _ (_, [(2, .int 0), (0, .ref m0), (1, .int (nI (by2 f hA)))], [.int (nI (aN (by2 f hA) 1024))], M82) _
          refine ps_if (S1 := (121, [(0, .ref m0), (2, .int 0)], [], M82)) (S2 := (82, [(0, .ref m0), (1, .int (nI (by2 f hA))), (2, .int 0)], [], M82)) rfl rfl rfl (fun c_79 => ?_) (fun c_79 => ?_)
          · have c_79 : (nI (aN (by2 f hA) 1024)) = 0 := of_decide_eq_true c_79
            have n_79 : aN (by2 f hA) 1024 = 0 := (eq_nI (p := aN (by2 f hA) 1024) (n := 0) (Nat.lt_of_le_of_lt (an_le _ _) (by decide)) (by decide)).mp c_79
            refine ps_st (S' := (122, [(0, .ref m0), (2, .int 0)], [.ref m0], M82)) rfl rfl rfl ?_
            refine ps_st (S' := (123, [(0, .ref m0), (2, .int 0)], [.ref m0, .ref m0], M82)) rfl rfl rfl ?_
            refine ps_st (S' := (124, [(0, .ref m0), (2, .int 0)], [.ref m0, .ref m0, .ref m0], M82)) rfl rfl rfl ?_
            refine pr_int (j := 54) (S' := (127, [(0, .ref m0), (2, .int 0)], [.int (nI hA), .ref m0, .ref m0], M82)) rfl hR84 rfl hi87 rfl ?_
            refine ps_st (S' := (128, [(0, .ref m0), (2, .int 0)], [.int 2, .int (nI hA), .ref m0, .ref m0], M82)) rfl rfl rfl ?_
            refine ps_st (S' := (129, [(0, .ref m0), (2, .int 0)], [.int ((nI hA) + 2), .ref m0, .ref m0], M82)) rfl rfl rfl ?_
            rw [nI_add1 (p := hA) (k := 2) (x := 2) rfl (by omega)]
            show pl _ _ _ (_, [(0, .ref m0), (2, .int 0)], [.int (nI (hA + 2)), .ref m0, .ref m0], M82) _
            refine pl_call (a := [.ref m0, .int (nI (hA + 2))]) (rest := [.ref m0]) rfl rfl rfl (rd_u2 (n := n) (f := f) (p := (hA + 2)) hR84 hF_92 (by omega)) (fun v238 M239 q240 => ?_)
            obtain ⟨rfl, rfl⟩ := q240
            show pl _ _ _ (132, [(0, .ref m0), (2, .int 0)], [.int (nI (by2 f (hA + 2))), .ref m0], M82) _
            have hu_129 := by2_lt f (hA + 2)
            refine pl_call (a := [.ref m0, .int (nI (by2 f (hA + 2)))]) (rest := []) rfl rfl rfl (rd_plainClass (n := n) (f := f) (tx := tx) (cN := cN) (A := A) (N := N) (mj := mj) (E := E) (k := (by2 f (hA + 2))) hR84 hi89 hi90 hi91 hF_92 hY_93 hP_94 (hEP) (hN) (hmj) (by2_lt _ _) (hCP)) (fun v241 M242 q243 => ?_)
            obtain ⟨rfl, rfl⟩ := q243
            show pl _ _ _ (135, [(0, .ref m0), (2, .int 0)], [.int (nI (plnN f n E (by2 f (hA + 2))))], M82) _
            refine ps_if (S1 := (151, [(0, .ref m0), (2, .int 0)], [], M82)) (S2 := (138, [(0, .ref m0), (2, .int 0)], [], M82)) rfl rfl rfl (fun c_135 => ?_) (fun c_135 => ?_)
            · have c_135 : ¬ (nI (plnN f n E (by2 f (hA + 2)))) = 0 := of_decide_eq_true c_135
              have n_135 : ¬ (plnN f n E (by2 f (hA + 2)) = 0) := fun h9 => c_135 ((eq_nI (p := plnN f n E (by2 f (hA + 2))) (n := 0) (Nat.lt_trans (le1_pln _ _ _ _) (by decide)) (by decide)).mpr h9)
              have hpl2 := pln_in (f := f) (n := n) (E := E) (k := by2 f (hA + 2)) (by omega)
              have hcp2 := hCP (by2 f (hA + 2)) hpl2.1
              refine ps_st (S' := (152, [(0, .ref m0), (2, .int 0)], [.ref m0], M82)) rfl rfl rfl ?_
              refine ps_st (S' := (153, [(0, .ref m0), (2, .int 0)], [.ref m0, .ref m0], M82)) rfl rfl rfl ?_
              refine ps_st (S' := (154, [(0, .ref m0), (2, .int 0)], [.ref m0, .ref m0, .ref m0], M82)) rfl rfl rfl ?_
              refine ps_st (S' := (155, [(0, .ref m0), (2, .int 0)], [.ref m0, .ref m0, .ref m0, .ref m0], M82)) rfl rfl rfl ?_
              refine pr_int (j := 54) (S' := (158, [(0, .ref m0), (2, .int 0)], [.int (nI hA), .ref m0, .ref m0, .ref m0], M82)) rfl hR84 rfl hi87 rfl ?_
              refine ps_st (S' := (159, [(0, .ref m0), (2, .int 0)], [.int 2, .int (nI hA), .ref m0, .ref m0, .ref m0], M82)) rfl rfl rfl ?_
              refine ps_st (S' := (160, [(0, .ref m0), (2, .int 0)], [.int ((nI hA) + 2), .ref m0, .ref m0, .ref m0], M82)) rfl rfl rfl ?_
              rw [nI_add1 (p := hA) (k := 2) (x := 2) rfl (by omega)]
              show pl _ _ _ (_, [(0, .ref m0), (2, .int 0)], [.int (nI (hA + 2)), .ref m0, .ref m0, .ref m0], M82) _
              refine pl_call (a := [.ref m0, .int (nI (hA + 2))]) (rest := [.ref m0, .ref m0]) rfl rfl rfl (rd_u2 (n := n) (f := f) (p := (hA + 2)) hR84 hF_92 (by omega)) (fun v244 M245 q246 => ?_)
              obtain ⟨rfl, rfl⟩ := q246
              show pl _ _ _ (163, [(0, .ref m0), (2, .int 0)], [.int (nI (by2 f (hA + 2))), .ref m0, .ref m0], M82) _
              have hu_160 := by2_lt f (hA + 2)
              refine pl_call (a := [.ref m0, .int (nI (by2 f (hA + 2)))]) (rest := [.ref m0]) rfl rfl rfl (rd_className (n := n) (f := f) (tx := tx) (cN := cN) (A := A) (N := N) (mj := mj) (E := E) (k := (by2 f (hA + 2))) hR84 hi89 hi90 hi91 hF_92 hY_93 hP_94 (hEP) (hN) (hmj) (by omega)) (fun v247 M248 q249 => ?_)
              obtain ⟨s250, q163_s, rfl, rfl⟩ := q249
              show pl _ _ _ (166, [(0, .ref m0), (2, .int 0)], [.int (nI s250), .ref m0], M82) _
              have hsl_163 := q163_s.1
              have htl_163 := hY_93.1.2.2.1
              refine pr_put (j := 59) rfl hR84 rfl (fun M251 I252 hR253 hi254 hI255 => ?_)
              have hi256 := (hI255 54 (by decide)).trans hi87
              have hi257 := (hI255 11 (by decide)).trans hi88
              have hi258 := (hI255 51 (by decide)).trans hi89
              have hi259 := (hI255 52 (by decide)).trans hi90
              have hi260 := (hI255 53 (by decide)).trans hi91
              have hi261 := (hI255 58 (by decide)).trans hi85
              have hF_262 := hF_92.mono (pIx hI255 (by decide)) (fun _ _ => rfl)
              have hY_263 := hY_93.mono (pIx hI255 (by decide)) (fun _ _ => rfl)
              have hP_264 := hP_94.mono (pIx hI255 (by decide)) (fun _ _ => rfl)
              have hEI265 := hEI95.put hI255 (by decide)
              show pl _ _ _ (169, [(0, .ref m0), (2, .int 0)], [], M251) _
              refine ps_st (S' := (170, [(0, .ref m0), (2, .int 0)], [.ref m0], M251)) rfl rfl rfl ?_
              refine ps_st (S' := (171, [(0, .ref m0), (2, .int 0)], [.ref m0, .ref m0], M251)) rfl rfl rfl ?_
              refine pr_int (j := 54) (S' := (174, [(0, .ref m0), (2, .int 0)], [.int (nI hA), .ref m0], M251)) rfl hR253 rfl hi256 rfl ?_
              refine ps_st (S' := (175, [(0, .ref m0), (2, .int 0)], [.int 4, .int (nI hA), .ref m0], M251)) rfl rfl rfl ?_
              refine ps_st (S' := (176, [(0, .ref m0), (2, .int 0)], [.int ((nI hA) + 4), .ref m0], M251)) rfl rfl rfl ?_
              rw [nI_add1 (p := hA) (k := 4) (x := 4) rfl (by omega)]
              show pl _ _ _ (_, [(0, .ref m0), (2, .int 0)], [.int (nI (hA + 4)), .ref m0], M251) _
              refine pl_call (a := [.ref m0, .int (nI (hA + 4))]) (rest := []) rfl rfl rfl (rd_u2 (n := n) (f := f) (p := (hA + 4)) hR253 hF_262 (by omega)) (fun v266 M267 q268 => ?_)
              obtain ⟨rfl, rfl⟩ := q268
              show pl _ _ _ (179, [(0, .ref m0), (2, .int 0)], [.int (nI (by2 f (hA + 4)))], M251) _
              have hu_176 := by2_lt f (hA + 4)
              refine ps_st (S' := (180, [(3, .int (nI (by2 f (hA + 4)))), (0, .ref m0), (2, .int 0)], [], M251)) rfl rfl rfl ?_
              refine ps_st (S' := (181, [(3, .int (nI (by2 f (hA + 4)))), (0, .ref m0), (2, .int 0)], [.ref m0], M251)) rfl rfl rfl ?_
              refine ps_st (S' := (182, [(3, .int (nI (by2 f (hA + 4)))), (0, .ref m0), (2, .int 0)], [.int (nI (by2 f (hA + 4))), .ref m0], M251)) rfl rfl rfl ?_
              refine pl_call (a := [.ref m0, .int (nI (by2 f (hA + 4)))]) (rest := []) rfl rfl rfl (rd_plainClass (n := n) (f := f) (tx := tx) (cN := cN) (A := A) (N := N) (mj := mj) (E := E) (k := (by2 f (hA + 4))) hR253 hi258 hi259 hi260 hF_262 hY_263 hP_264 (hEP) (hN) (hmj) (by2_lt _ _) (hCP)) (fun v269 M270 q271 => ?_)
              obtain ⟨rfl, rfl⟩ := q271
              show pl _ _ _ (185, [(3, .int (nI (by2 f (hA + 4)))), (0, .ref m0), (2, .int 0)], [.int (nI (plnN f n E (by2 f (hA + 4))))], M251) _
              refine ps_if (S1 := (204, [(0, .ref m0)], [], M251)) (S2 := (188, [(3, .int (nI (by2 f (hA + 4)))), (0, .ref m0), (2, .int 0)], [], M251)) rfl rfl rfl (fun c_185 => ?_) (fun c_185 => ?_)
              · have c_185 : (nI (plnN f n E (by2 f (hA + 4)))) = 0 := of_decide_eq_true c_185
                have n_185 : plnN f n E (by2 f (hA + 4)) = 0 := (eq_nI (p := plnN f n E (by2 f (hA + 4))) (n := 0) (Nat.lt_trans (le1_pln _ _ _ _) (by decide)) (by decide)).mp c_185
                refine ps_st (S' := (205, [(0, .ref m0)], [.ref m0], M251)) rfl rfl rfl ?_
                refine ps_st (S' := (207, [(0, .ref m0)], [.int 17, .ref m0], M251)) rfl rfl rfl ?_
                refine ps_st (S' := (208, [(0, .ref m0)], [.ref m0, .int 17, .ref m0], M251)) rfl rfl rfl ?_
                refine pr_int (j := 54) (S' := (211, [(0, .ref m0)], [.int (nI hA), .int 17, .ref m0], M251)) rfl hR253 rfl hi256 rfl ?_
                refine ps_st (S' := (212, [(0, .ref m0)], [.int 4, .int (nI hA), .int 17, .ref m0], M251)) rfl rfl rfl ?_
                refine ps_st (S' := (213, [(0, .ref m0)], [.int ((nI hA) + 4), .int 17, .ref m0], M251)) rfl rfl rfl ?_
                rw [nI_add1 (p := hA) (k := 4) (x := 4) rfl (by omega)]
                show pl _ _ _ (_, [(0, .ref m0)], [.int (nI (hA + 4)), .int 17, .ref m0], M251) _
                refine pl_call (a := [.ref m0, .int 17, .int (nI (hA + 4))]) (rest := []) rfl rfl rfl (rd_wrong (x1 := 17) (x2 := (nI (hA + 4))) hR253) (fun v272 M273 q274 => ?_)
                obtain ⟨I275, R276, rfl, hR277, hI278, hX279, hi280, hi281⟩ := q274
                have hi282 := (hI278 54 (by decide)).trans hi256
                have hi283 := (hI278 11 (by decide)).trans hi257
                have hi284 := (hI278 51 (by decide)).trans hi258
                have hi285 := (hI278 52 (by decide)).trans hi259
                have hi286 := (hI278 53 (by decide)).trans hi260
                have hi287 := (hI278 58 (by decide)).trans hi261
                have hi288 := (hI278 59 (by decide)).trans hi254
                have hF_289 := hF_262.mono (cIx hI278 (by decide)) (cRx hX279 (by decide))
                have hY_290 := hY_263.mono (cIx hI278 (by decide)) (cRx hX279 (by decide))
                have hP_291 := hP_264.mono (cIx hI278 (by decide)) (cRx hX279 (by decide))
                have hEI292 := hEI265.tr hI278 (by decide)
                have hER293 := hER.tr hX279 (by decide)
                show pl _ _ _ (216, [(0, .ref m0)], [.int 0], M273) _
                exact ps_ret rfl rfl (Or.inr ⟨(17, hA + 4), I275, R276, by
                    have ec := cfl_0 (by2 f hA)
                    have eh := has_0 (by2 f hA) 512
                    unfold ccS
                    rw [show hdS f n E hA = some (17, hA + 4) by unfold hdS; first | ((repeat first | rw [if_pos (by omega)] | rw [if_neg (by omega)]) <;> first | rfl | omega) | ((repeat' split) <;> first | rfl | (exfalso; omega) | omega)], rfl, hR277, hEI292, hER293, hi280, hi281⟩)
              · have c_185 : ¬ ((nI (plnN f n E (by2 f (hA + 4)))) = 0) := of_decide_eq_false c_185
                have n_185 : ¬ (plnN f n E (by2 f (hA + 4)) = 0) := fun h9 => c_185 ((eq_nI (p := plnN f n E (by2 f (hA + 4))) (n := 0) (Nat.lt_trans (le1_pln _ _ _ _) (by decide)) (by decide)).mpr h9)
                have hpl4 := pln_in (f := f) (n := n) (E := E) (k := by2 f (hA + 4)) (by omega)
                have hcp4 := hCP (by2 f (hA + 4)) hpl4.1
                refine ps_st (S' := (189, [(3, .int (nI (by2 f (hA + 4)))), (0, .ref m0), (2, .int 0)], [.int 0], M251)) rfl rfl rfl ?_
                refine ps_if (S1 := (217, [(0, .ref m0), (3, .int (nI (by2 f (hA + 4))))], [], M251)) (S2 := (192, [(3, .int (nI (by2 f (hA + 4)))), (0, .ref m0), (2, .int 0)], [], M251)) rfl rfl rfl (fun c_189 => ?_) (fun c_189 => ?_)
                rotate_left
                · exact absurd (by decide) (of_decide_eq_false c_189)
                refine ps_st (S' := (218, [(0, .ref m0), (3, .int (nI (by2 f (hA + 4))))], [.ref m0], M251)) rfl rfl rfl ?_
                refine ps_st (S' := (219, [(0, .ref m0), (3, .int (nI (by2 f (hA + 4))))], [.ref m0, .ref m0], M251)) rfl rfl rfl ?_
                refine ps_st (S' := (220, [(0, .ref m0), (3, .int (nI (by2 f (hA + 4))))], [.int (nI (by2 f (hA + 4))), .ref m0, .ref m0], M251)) rfl rfl rfl ?_
                refine pl_call (a := [.ref m0, .int (nI (by2 f (hA + 4)))]) (rest := [.ref m0]) rfl rfl rfl (rd_className (n := n) (f := f) (tx := tx) (cN := cN) (A := A) (N := N) (mj := mj) (E := E) (k := (by2 f (hA + 4))) hR253 hi258 hi259 hi260 hF_262 hY_263 hP_264 (hEP) (hN) (hmj) (by omega)) (fun v294 M295 q296 => ?_)
                obtain ⟨s297, q220_s, rfl, rfl⟩ := q296
                show pl _ _ _ (223, [(0, .ref m0), (3, .int (nI (by2 f (hA + 4))))], [.int (nI s297), .ref m0], M251) _
                have hsl_220 := q220_s.1
                have htl_220 := hY_263.1.2.2.1
                refine pr_put (j := 60) rfl hR253 rfl (fun M298 I299 hR300 hi301 hI302 => ?_)
                have hi303 := (hI302 54 (by decide)).trans hi256
                have hi304 := (hI302 11 (by decide)).trans hi257
                have hi305 := (hI302 51 (by decide)).trans hi258
                have hi306 := (hI302 52 (by decide)).trans hi259
                have hi307 := (hI302 53 (by decide)).trans hi260
                have hi308 := (hI302 58 (by decide)).trans hi261
                have hi309 := (hI302 59 (by decide)).trans hi254
                have hF_310 := hF_262.mono (pIx hI302 (by decide)) (fun _ _ => rfl)
                have hY_311 := hY_263.mono (pIx hI302 (by decide)) (fun _ _ => rfl)
                have hP_312 := hP_264.mono (pIx hI302 (by decide)) (fun _ _ => rfl)
                have hEI313 := hEI265.put hI302 (by decide)
                show pl _ _ _ (226, [(0, .ref m0), (3, .int (nI (by2 f (hA + 4))))], [], M298) _
                have hh : hdS f n E hA = none := by
                  have ec := cfl_0 (by2 f hA)
                  have eh := has_0 (by2 f hA) 512
                  unfold hdS
                  first | ((repeat first | rw [if_pos (by omega)] | rw [if_neg (by omega)]) <;> first | rfl | omega) | ((repeat' split) <;> first | rfl | (exfalso; omega) | omega)
                refine ps_st (S' := (227, [(0, .ref m0), (3, .int (nI (by2 f (hA + 4))))], [.ref m0], M298)) rfl rfl rfl ?_
                refine ps_st (S' := (228, [(0, .ref m0), (3, .int (nI (by2 f (hA + 4))))], [.ref m0, .ref m0], M298)) rfl rfl rfl ?_
                refine pr_int (j := 54) (S' := (231, [(0, .ref m0), (3, .int (nI (by2 f (hA + 4))))], [.int (nI hA), .ref m0], M298)) rfl hR300 rfl hi303 rfl ?_
                refine ps_st (S' := (233, [(0, .ref m0), (3, .int (nI (by2 f (hA + 4))))], [.int 6, .int (nI hA), .ref m0], M298)) rfl rfl rfl ?_
                refine ps_st (S' := (234, [(0, .ref m0), (3, .int (nI (by2 f (hA + 4))))], [.int ((nI hA) + 6), .ref m0], M298)) rfl rfl rfl ?_
                rw [nI_add1 (p := hA) (k := 6) (x := 6) rfl (by omega)]
                show pl _ _ _ (_, [(0, .ref m0), (3, .int (nI (by2 f (hA + 4))))], [.int (nI (hA + 6)), .ref m0], M298) _
                refine pl_call (a := [.ref m0, .int (nI (hA + 6))]) (rest := []) rfl rfl rfl (rd_u2 (n := n) (f := f) (p := (hA + 6)) hR300 hF_310 (by omega)) (fun v314 M315 q316 => ?_)
                obtain ⟨rfl, rfl⟩ := q316
                show pl _ _ _ (237, [(0, .ref m0), (3, .int (nI (by2 f (hA + 4))))], [.int (nI (by2 f (hA + 6)))], M298) _
                have hu_234 := by2_lt f (hA + 6)
                refine ps_st (S' := (239, [(4, .int (nI (by2 f (hA + 6)))), (0, .ref m0), (3, .int (nI (by2 f (hA + 4))))], [], M298)) rfl rfl rfl ?_
                refine ps_st (S' := (240, [(4, .int (nI (by2 f (hA + 6)))), (0, .ref m0), (3, .int (nI (by2 f (hA + 4))))], [.int 0], M298)) rfl rfl rfl ?_
                refine ps_st (S' := (242, [(0, .ref m0), (4, .int (nI (by2 f (hA + 6)))), (5, .int 0)], [], M298)) rfl rfl rfl ?_
                exact (LL kf).1 (0) M298 I299 R hR300 hEI313 hER hi303 hi304 hi305 hi306 hi307 hi308 hF_310 hY_311 hP_312 (hh) (by omega) (rfl) (fun j hj => by omega)
            · have c_135 : ¬ (¬ (nI (plnN f n E (by2 f (hA + 2)))) = 0) := of_decide_eq_false c_135
              have n_135 : plnN f n E (by2 f (hA + 2)) = 0 := (eq_nI (p := plnN f n E (by2 f (hA + 2))) (n := 0) (Nat.lt_trans (le1_pln _ _ _ _) (by decide)) (by decide)).mp (Decidable.not_not.mp c_135)
              refine ps_st (S' := (139, [(0, .ref m0), (2, .int 0)], [.ref m0], M82)) rfl rfl rfl ?_
              refine ps_st (S' := (141, [(0, .ref m0), (2, .int 0)], [.int 16, .ref m0], M82)) rfl rfl rfl ?_
              refine ps_st (S' := (142, [(0, .ref m0), (2, .int 0)], [.ref m0, .int 16, .ref m0], M82)) rfl rfl rfl ?_
              refine pr_int (j := 54) (S' := (145, [(0, .ref m0), (2, .int 0)], [.int (nI hA), .int 16, .ref m0], M82)) rfl hR84 rfl hi87 rfl ?_
              refine ps_st (S' := (146, [(0, .ref m0), (2, .int 0)], [.int 2, .int (nI hA), .int 16, .ref m0], M82)) rfl rfl rfl ?_
              refine ps_st (S' := (147, [(0, .ref m0), (2, .int 0)], [.int ((nI hA) + 2), .int 16, .ref m0], M82)) rfl rfl rfl ?_
              rw [nI_add1 (p := hA) (k := 2) (x := 2) rfl (by omega)]
              show pl _ _ _ (_, [(0, .ref m0), (2, .int 0)], [.int (nI (hA + 2)), .int 16, .ref m0], M82) _
              refine pl_call (a := [.ref m0, .int 16, .int (nI (hA + 2))]) (rest := []) rfl rfl rfl (rd_wrong (x1 := 16) (x2 := (nI (hA + 2))) hR84) (fun v317 M318 q319 => ?_)
              obtain ⟨I320, R321, rfl, hR322, hI323, hX324, hi325, hi326⟩ := q319
              have hi327 := (hI323 54 (by decide)).trans hi87
              have hi328 := (hI323 11 (by decide)).trans hi88
              have hi329 := (hI323 51 (by decide)).trans hi89
              have hi330 := (hI323 52 (by decide)).trans hi90
              have hi331 := (hI323 53 (by decide)).trans hi91
              have hi332 := (hI323 58 (by decide)).trans hi85
              have hF_333 := hF_92.mono (cIx hI323 (by decide)) (cRx hX324 (by decide))
              have hY_334 := hY_93.mono (cIx hI323 (by decide)) (cRx hX324 (by decide))
              have hP_335 := hP_94.mono (cIx hI323 (by decide)) (cRx hX324 (by decide))
              have hEI336 := hEI95.tr hI323 (by decide)
              have hER337 := hER.tr hX324 (by decide)
              show pl _ _ _ (150, [(0, .ref m0), (2, .int 0)], [.int 0], M318) _
              exact ps_ret rfl rfl (Or.inr ⟨(16, hA + 2), I320, R321, by
                  have ec := cfl_0 (by2 f hA)
                  have eh := has_0 (by2 f hA) 512
                  unfold ccS
                  rw [show hdS f n E hA = some (16, hA + 2) by unfold hdS; first | ((repeat first | rw [if_pos (by omega)] | rw [if_neg (by omega)]) <;> first | rfl | omega) | ((repeat' split) <;> first | rfl | (exfalso; omega) | omega)], rfl, hR322, hEI336, hER337, hi325, hi326⟩)
          · have c_79 : ¬ ((nI (aN (by2 f hA) 1024)) = 0) := of_decide_eq_false c_79
            have n_79 : ¬ (aN (by2 f hA) 1024 = 0) := fun h9 => c_79 ((eq_nI (p := aN (by2 f hA) 1024) (n := 0) (Nat.lt_of_le_of_lt (an_le _ _) (by decide)) (by decide)).mpr h9)
            refine ps_st (S' := (83, [(0, .ref m0), (1, .int (nI (by2 f hA))), (2, .int 0)], [.int 0], M82)) rfl rfl rfl ?_
            refine ps_if (S1 := (110, [(0, .ref m0)], [], M82)) (S2 := (86, [(0, .ref m0), (1, .int (nI (by2 f hA))), (2, .int 0)], [], M82)) rfl rfl rfl (fun c_83 => ?_) (fun c_83 => ?_)
            rotate_left
            · exact absurd (by decide) (of_decide_eq_false c_83)
            refine ps_st (S' := (111, [(0, .ref m0)], [.ref m0], M82)) rfl rfl rfl ?_
            refine ps_st (S' := (113, [(0, .ref m0)], [.int 15, .ref m0], M82)) rfl rfl rfl ?_
            refine ps_st (S' := (114, [(0, .ref m0)], [.ref m0, .int 15, .ref m0], M82)) rfl rfl rfl ?_
            refine pr_int (j := 54) (S' := (117, [(0, .ref m0)], [.int (nI hA), .int 15, .ref m0], M82)) rfl hR84 rfl hi87 rfl ?_
            refine pl_call (a := [.ref m0, .int 15, .int (nI hA)]) (rest := []) rfl rfl rfl (rd_wrong (x1 := 15) (x2 := (nI hA)) hR84) (fun v338 M339 q340 => ?_)
            obtain ⟨I341, R342, rfl, hR343, hI344, hX345, hi346, hi347⟩ := q340
            have hi348 := (hI344 54 (by decide)).trans hi87
            have hi349 := (hI344 11 (by decide)).trans hi88
            have hi350 := (hI344 51 (by decide)).trans hi89
            have hi351 := (hI344 52 (by decide)).trans hi90
            have hi352 := (hI344 53 (by decide)).trans hi91
            have hi353 := (hI344 58 (by decide)).trans hi85
            have hF_354 := hF_92.mono (cIx hI344 (by decide)) (cRx hX345 (by decide))
            have hY_355 := hY_93.mono (cIx hI344 (by decide)) (cRx hX345 (by decide))
            have hP_356 := hP_94.mono (cIx hI344 (by decide)) (cRx hX345 (by decide))
            have hEI357 := hEI95.tr hI344 (by decide)
            have hER358 := hER.tr hX345 (by decide)
            show pl _ _ _ (120, [(0, .ref m0)], [.int 0], M339) _
            exact ps_ret rfl rfl (Or.inr ⟨(15, hA), I341, R342, by
                have ec := cfl_0 (by2 f hA)
                have eh := has_0 (by2 f hA) 512
                unfold ccS
                rw [show hdS f n E hA = some (15, hA) by unfold hdS; first | ((repeat first | rw [if_pos (by omega)] | rw [if_neg (by omega)]) <;> first | rfl | omega) | ((repeat' split) <;> first | rfl | (exfalso; omega) | omega)], rfl, hR343, hEI357, hER358, hi346, hi347⟩)
  · have c_19 : ¬ ((nI (aN (by2 f hA) 512)) = 0) := of_decide_eq_false c_19
    have n_19 : ¬ (aN (by2 f hA) 512 = 0) := fun h9 => c_19 ((eq_nI (p := aN (by2 f hA) 512) (n := 0) (Nat.lt_of_le_of_lt (an_le _ _) (by decide)) (by decide)).mpr h9)
    refine ps_st (S' := (23, [(1, .int (nI (by2 f hA))), (0, .ref m0)], [.int 1], M82)) rfl rfl rfl ?_
    refine ps_st (S' := (27, [(0, .ref m0), (1, .int (nI (by2 f hA)))], [.int 1], M82)) rfl rfl rfl ?_
    refine ps_st (S' := (28, [(2, .int 1), (0, .ref m0), (1, .int (nI (by2 f hA)))], [], M82)) rfl rfl rfl ?_
    refine ps_st (S' := (29, [(2, .int 1), (0, .ref m0), (1, .int (nI (by2 f hA)))], [.int (nI (by2 f hA))], M82)) rfl rfl rfl ?_
    refine ps_st (S' := (32, [(2, .int 1), (0, .ref m0), (1, .int (nI (by2 f hA)))], [.int 32768, .int (nI (by2 f hA))], M82)) rfl rfl rfl ?_
    refine ps_st (S' := (33, [(2, .int 1), (0, .ref m0), (1, .int (nI (by2 f hA)))], [.int ((nI (by2 f hA)) &&& 32768)], M82)) rfl rfl rfl ?_
    rw [nI_an (p := by2 f hA) (k := 32768) (x := 32768) rfl]
    show pl _ _ _ (_, [(2, .int 1), (0, .ref m0), (1, .int (nI (by2 f hA)))], [.int (nI (aN (by2 f hA) 32768))], M82) _
    refine ps_if (S1 := (82, [(0, .ref m0), (1, .int (nI (by2 f hA))), (2, .int 1)], [], M82)) (S2 := (36, [(2, .int 1), (0, .ref m0), (1, .int (nI (by2 f hA)))], [], M82)) rfl rfl rfl (fun c_33 => ?_) (fun c_33 => ?_)
    · have c_33 : ¬ (nI (aN (by2 f hA) 32768)) = 0 := of_decide_eq_true c_33
      have n_33 : ¬ (aN (by2 f hA) 32768 = 0) := fun h9 => c_33 ((eq_nI (p := aN (by2 f hA) 32768) (n := 0) (Nat.lt_of_le_of_lt (an_le _ _) (by decide)) (by decide)).mpr h9)
      refine ps_st (S' := (83, [(0, .ref m0), (1, .int (nI (by2 f hA))), (2, .int 1)], [.int 1], M82)) rfl rfl rfl ?_
      refine ps_if (S1 := (110, [(0, .ref m0)], [], M82)) (S2 := (86, [(0, .ref m0), (1, .int (nI (by2 f hA))), (2, .int 1)], [], M82)) rfl rfl rfl (fun c_83 => ?_) (fun c_83 => ?_)
      · exact absurd (of_decide_eq_true c_83) (by decide)
      refine ps_st (S' := (87, [(0, .ref m0), (1, .int (nI (by2 f hA))), (2, .int 1)], [.int (nI (by2 f hA))], M82)) rfl rfl rfl ?_
      refine ps_st (S' := (90, [(0, .ref m0), (1, .int (nI (by2 f hA))), (2, .int 1)], [.int 32768, .int (nI (by2 f hA))], M82)) rfl rfl rfl ?_
      refine ps_st (S' := (91, [(0, .ref m0), (1, .int (nI (by2 f hA))), (2, .int 1)], [.int ((nI (by2 f hA)) &&& 32768)], M82)) rfl rfl rfl ?_
      rw [nI_an (p := by2 f hA) (k := 32768) (x := 32768) rfl]
      show pl _ _ _ (_, [(0, .ref m0), (1, .int (nI (by2 f hA))), (2, .int 1)], [.int (nI (aN (by2 f hA) 32768))], M82) _
      refine ps_if (S1 := (110, [(0, .ref m0)], [], M82)) (S2 := (94, [(0, .ref m0), (1, .int (nI (by2 f hA))), (2, .int 1)], [], M82)) rfl rfl rfl (fun c_91 => ?_) (fun c_91 => ?_)
      rotate_left
      · exact absurd (show ¬ ((nI (aN (by2 f hA) 32768)) = 0) from fun h9 => absurd ((eq_nI (p := aN (by2 f hA) 32768) (n := 0) (Nat.lt_of_le_of_lt (an_le _ _) (by decide)) (by decide)).mp h9) (by omega)) (of_decide_eq_false c_91)
      refine ps_st (S' := (111, [(0, .ref m0)], [.ref m0], M82)) rfl rfl rfl ?_
      refine ps_st (S' := (113, [(0, .ref m0)], [.int 15, .ref m0], M82)) rfl rfl rfl ?_
      refine ps_st (S' := (114, [(0, .ref m0)], [.ref m0, .int 15, .ref m0], M82)) rfl rfl rfl ?_
      refine pr_int (j := 54) (S' := (117, [(0, .ref m0)], [.int (nI hA), .int 15, .ref m0], M82)) rfl hR84 rfl hi87 rfl ?_
      refine pl_call (a := [.ref m0, .int 15, .int (nI hA)]) (rest := []) rfl rfl rfl (rd_wrong (x1 := 15) (x2 := (nI hA)) hR84) (fun v359 M360 q361 => ?_)
      obtain ⟨I362, R363, rfl, hR364, hI365, hX366, hi367, hi368⟩ := q361
      have hi369 := (hI365 54 (by decide)).trans hi87
      have hi370 := (hI365 11 (by decide)).trans hi88
      have hi371 := (hI365 51 (by decide)).trans hi89
      have hi372 := (hI365 52 (by decide)).trans hi90
      have hi373 := (hI365 53 (by decide)).trans hi91
      have hi374 := (hI365 58 (by decide)).trans hi85
      have hF_375 := hF_92.mono (cIx hI365 (by decide)) (cRx hX366 (by decide))
      have hY_376 := hY_93.mono (cIx hI365 (by decide)) (cRx hX366 (by decide))
      have hP_377 := hP_94.mono (cIx hI365 (by decide)) (cRx hX366 (by decide))
      have hEI378 := hEI95.tr hI365 (by decide)
      have hER379 := hER.tr hX366 (by decide)
      show pl _ _ _ (120, [(0, .ref m0)], [.int 0], M360) _
      exact ps_ret rfl rfl (Or.inr ⟨(15, hA), I362, R363, by
          have ec := cfl_0 (by2 f hA)
          have eh := has_0 (by2 f hA) 512
          unfold ccS
          rw [show hdS f n E hA = some (15, hA) by unfold hdS; first | ((repeat first | rw [if_pos (by omega)] | rw [if_neg (by omega)]) <;> first | rfl | omega) | ((repeat' split) <;> first | rfl | (exfalso; omega) | omega)], rfl, hR364, hEI378, hER379, hi367, hi368⟩)
    · have c_33 : ¬ (¬ (nI (aN (by2 f hA) 32768)) = 0) := of_decide_eq_false c_33
      have n_33 : aN (by2 f hA) 32768 = 0 := (eq_nI (p := aN (by2 f hA) 32768) (n := 0) (Nat.lt_of_le_of_lt (an_le _ _) (by decide)) (by decide)).mp (Decidable.not_not.mp c_33)
      refine ps_st (S' := (37, [(2, .int 1), (0, .ref m0), (1, .int (nI (by2 f hA)))], [.int 1], M82)) rfl rfl rfl ?_
      refine ps_if (S1 := (59, [(2, .int 1), (0, .ref m0), (1, .int (nI (by2 f hA)))], [], M82)) (S2 := (40, [(2, .int 1), (0, .ref m0), (1, .int (nI (by2 f hA)))], [], M82)) rfl rfl rfl (fun c_37 => ?_) (fun c_37 => ?_)
      · exact absurd (of_decide_eq_true c_37) (by decide)
      refine ps_st (S' := (41, [(2, .int 1), (0, .ref m0), (1, .int (nI (by2 f hA)))], [.int (nI (by2 f hA))], M82)) rfl rfl rfl ?_
      refine ps_st (S' := (44, [(2, .int 1), (0, .ref m0), (1, .int (nI (by2 f hA)))], [.int 1024, .int (nI (by2 f hA))], M82)) rfl rfl rfl ?_
      refine ps_st (S' := (45, [(2, .int 1), (0, .ref m0), (1, .int (nI (by2 f hA)))], [.int ((nI (by2 f hA)) &&& 1024)], M82)) rfl rfl rfl ?_
      rw [nI_an (p := by2 f hA) (k := 1024) (x := 1024) rfl]
      show pl _ _ _ (_, [(2, .int 1), (0, .ref m0), (1, .int (nI (by2 f hA)))], [.int (nI (aN (by2 f hA) 1024))], M82) _
      refine ps_if (S1 := (82, [(0, .ref m0), (1, .int (nI (by2 f hA))), (2, .int 1)], [], M82)) (S2 := (48, [(2, .int 1), (0, .ref m0), (1, .int (nI (by2 f hA)))], [], M82)) rfl rfl rfl (fun c_45 => ?_) (fun c_45 => ?_)
      · have c_45 : (nI (aN (by2 f hA) 1024)) = 0 := of_decide_eq_true c_45
        have n_45 : aN (by2 f hA) 1024 = 0 := (eq_nI (p := aN (by2 f hA) 1024) (n := 0) (Nat.lt_of_le_of_lt (an_le _ _) (by decide)) (by decide)).mp c_45
        refine ps_st (S' := (83, [(0, .ref m0), (1, .int (nI (by2 f hA))), (2, .int 1)], [.int 1], M82)) rfl rfl rfl ?_
        refine ps_if (S1 := (110, [(0, .ref m0)], [], M82)) (S2 := (86, [(0, .ref m0), (1, .int (nI (by2 f hA))), (2, .int 1)], [], M82)) rfl rfl rfl (fun c_83 => ?_) (fun c_83 => ?_)
        · exact absurd (of_decide_eq_true c_83) (by decide)
        refine ps_st (S' := (87, [(0, .ref m0), (1, .int (nI (by2 f hA))), (2, .int 1)], [.int (nI (by2 f hA))], M82)) rfl rfl rfl ?_
        refine ps_st (S' := (90, [(0, .ref m0), (1, .int (nI (by2 f hA))), (2, .int 1)], [.int 32768, .int (nI (by2 f hA))], M82)) rfl rfl rfl ?_
        refine ps_st (S' := (91, [(0, .ref m0), (1, .int (nI (by2 f hA))), (2, .int 1)], [.int ((nI (by2 f hA)) &&& 32768)], M82)) rfl rfl rfl ?_
        rw [nI_an (p := by2 f hA) (k := 32768) (x := 32768) rfl]
        show pl _ _ _ (_, [(0, .ref m0), (1, .int (nI (by2 f hA))), (2, .int 1)], [.int (nI (aN (by2 f hA) 32768))], M82) _
        refine ps_if (S1 := (110, [(0, .ref m0)], [], M82)) (S2 := (94, [(0, .ref m0), (1, .int (nI (by2 f hA))), (2, .int 1)], [], M82)) rfl rfl rfl (fun c_91 => ?_) (fun c_91 => ?_)
        · exact absurd (of_decide_eq_true c_91) (fun h9 => h9 ((eq_nI (p := aN (by2 f hA) 32768) (n := 0) (Nat.lt_of_le_of_lt (an_le _ _) (by decide)) (by decide)).mpr (by omega)))
        refine ps_st (S' := (95, [(0, .ref m0), (1, .int (nI (by2 f hA))), (2, .int 1)], [.int (nI (by2 f hA))], M82)) rfl rfl rfl ?_
        refine ps_st (S' := (98, [(0, .ref m0), (1, .int (nI (by2 f hA))), (2, .int 1)], [.int 1024, .int (nI (by2 f hA))], M82)) rfl rfl rfl ?_
        refine ps_st (S' := (99, [(0, .ref m0), (1, .int (nI (by2 f hA))), (2, .int 1)], [.int ((nI (by2 f hA)) &&& 1024)], M82)) rfl rfl rfl ?_
        rw [nI_an (p := by2 f hA) (k := 1024) (x := 1024) rfl]
        show pl _ _ _ (_, [(0, .ref m0), (1, .int (nI (by2 f hA))), (2, .int 1)], [.int (nI (aN (by2 f hA) 1024))], M82) _
        refine ps_if (S1 := (110, [(0, .ref m0)], [], M82)) (S2 := (102, [(0, .ref m0), (1, .int (nI (by2 f hA))), (2, .int 1)], [], M82)) rfl rfl rfl (fun c_99 => ?_) (fun c_99 => ?_)
        rotate_left
        · exact absurd ((eq_nI (p := aN (by2 f hA) 1024) (n := 0) (Nat.lt_of_le_of_lt (an_le _ _) (by decide)) (by decide)).mpr (by omega)) (of_decide_eq_false c_99)
        refine ps_st (S' := (111, [(0, .ref m0)], [.ref m0], M82)) rfl rfl rfl ?_
        refine ps_st (S' := (113, [(0, .ref m0)], [.int 15, .ref m0], M82)) rfl rfl rfl ?_
        refine ps_st (S' := (114, [(0, .ref m0)], [.ref m0, .int 15, .ref m0], M82)) rfl rfl rfl ?_
        refine pr_int (j := 54) (S' := (117, [(0, .ref m0)], [.int (nI hA), .int 15, .ref m0], M82)) rfl hR84 rfl hi87 rfl ?_
        refine pl_call (a := [.ref m0, .int 15, .int (nI hA)]) (rest := []) rfl rfl rfl (rd_wrong (x1 := 15) (x2 := (nI hA)) hR84) (fun v380 M381 q382 => ?_)
        obtain ⟨I383, R384, rfl, hR385, hI386, hX387, hi388, hi389⟩ := q382
        have hi390 := (hI386 54 (by decide)).trans hi87
        have hi391 := (hI386 11 (by decide)).trans hi88
        have hi392 := (hI386 51 (by decide)).trans hi89
        have hi393 := (hI386 52 (by decide)).trans hi90
        have hi394 := (hI386 53 (by decide)).trans hi91
        have hi395 := (hI386 58 (by decide)).trans hi85
        have hF_396 := hF_92.mono (cIx hI386 (by decide)) (cRx hX387 (by decide))
        have hY_397 := hY_93.mono (cIx hI386 (by decide)) (cRx hX387 (by decide))
        have hP_398 := hP_94.mono (cIx hI386 (by decide)) (cRx hX387 (by decide))
        have hEI399 := hEI95.tr hI386 (by decide)
        have hER400 := hER.tr hX387 (by decide)
        show pl _ _ _ (120, [(0, .ref m0)], [.int 0], M381) _
        exact ps_ret rfl rfl (Or.inr ⟨(15, hA), I383, R384, by
            have ec := cfl_0 (by2 f hA)
            have eh := has_0 (by2 f hA) 512
            unfold ccS
            rw [show hdS f n E hA = some (15, hA) by unfold hdS; first | ((repeat first | rw [if_pos (by omega)] | rw [if_neg (by omega)]) <;> first | rfl | omega) | ((repeat' split) <;> first | rfl | (exfalso; omega) | omega)], rfl, hR385, hEI399, hER400, hi388, hi389⟩)
      · have c_45 : ¬ ((nI (aN (by2 f hA) 1024)) = 0) := of_decide_eq_false c_45
        have n_45 : ¬ (aN (by2 f hA) 1024 = 0) := fun h9 => c_45 ((eq_nI (p := aN (by2 f hA) 1024) (n := 0) (Nat.lt_of_le_of_lt (an_le _ _) (by decide)) (by decide)).mpr h9)
        refine ps_st (S' := (49, [(2, .int 1), (0, .ref m0), (1, .int (nI (by2 f hA)))], [.int (nI (by2 f hA))], M82)) rfl rfl rfl ?_
        refine ps_st (S' := (52, [(2, .int 1), (0, .ref m0), (1, .int (nI (by2 f hA)))], [.int 16432, .int (nI (by2 f hA))], M82)) rfl rfl rfl ?_
        refine ps_st (S' := (53, [(2, .int 1), (0, .ref m0), (1, .int (nI (by2 f hA)))], [.int ((nI (by2 f hA)) &&& 16432)], M82)) rfl rfl rfl ?_
        rw [nI_an (p := by2 f hA) (k := 16432) (x := 16432) rfl]
        show pl _ _ _ (_, [(2, .int 1), (0, .ref m0), (1, .int (nI (by2 f hA)))], [.int (nI (aN (by2 f hA) 16432))], M82) _
        refine ps_if (S1 := (121, [(0, .ref m0), (2, .int 1)], [], M82)) (S2 := (56, [(2, .int 1), (0, .ref m0), (1, .int (nI (by2 f hA)))], [], M82)) rfl rfl rfl (fun c_53 => ?_) (fun c_53 => ?_)
        · have c_53 : (nI (aN (by2 f hA) 16432)) = 0 := of_decide_eq_true c_53
          have n_53 : aN (by2 f hA) 16432 = 0 := (eq_nI (p := aN (by2 f hA) 16432) (n := 0) (Nat.lt_of_le_of_lt (an_le _ _) (by decide)) (by decide)).mp c_53
          refine ps_st (S' := (122, [(0, .ref m0), (2, .int 1)], [.ref m0], M82)) rfl rfl rfl ?_
          refine ps_st (S' := (123, [(0, .ref m0), (2, .int 1)], [.ref m0, .ref m0], M82)) rfl rfl rfl ?_
          refine ps_st (S' := (124, [(0, .ref m0), (2, .int 1)], [.ref m0, .ref m0, .ref m0], M82)) rfl rfl rfl ?_
          refine pr_int (j := 54) (S' := (127, [(0, .ref m0), (2, .int 1)], [.int (nI hA), .ref m0, .ref m0], M82)) rfl hR84 rfl hi87 rfl ?_
          refine ps_st (S' := (128, [(0, .ref m0), (2, .int 1)], [.int 2, .int (nI hA), .ref m0, .ref m0], M82)) rfl rfl rfl ?_
          refine ps_st (S' := (129, [(0, .ref m0), (2, .int 1)], [.int ((nI hA) + 2), .ref m0, .ref m0], M82)) rfl rfl rfl ?_
          rw [nI_add1 (p := hA) (k := 2) (x := 2) rfl (by omega)]
          show pl _ _ _ (_, [(0, .ref m0), (2, .int 1)], [.int (nI (hA + 2)), .ref m0, .ref m0], M82) _
          refine pl_call (a := [.ref m0, .int (nI (hA + 2))]) (rest := [.ref m0]) rfl rfl rfl (rd_u2 (n := n) (f := f) (p := (hA + 2)) hR84 hF_92 (by omega)) (fun v401 M402 q403 => ?_)
          obtain ⟨rfl, rfl⟩ := q403
          show pl _ _ _ (132, [(0, .ref m0), (2, .int 1)], [.int (nI (by2 f (hA + 2))), .ref m0], M82) _
          have hu_129 := by2_lt f (hA + 2)
          refine pl_call (a := [.ref m0, .int (nI (by2 f (hA + 2)))]) (rest := []) rfl rfl rfl (rd_plainClass (n := n) (f := f) (tx := tx) (cN := cN) (A := A) (N := N) (mj := mj) (E := E) (k := (by2 f (hA + 2))) hR84 hi89 hi90 hi91 hF_92 hY_93 hP_94 (hEP) (hN) (hmj) (by2_lt _ _) (hCP)) (fun v404 M405 q406 => ?_)
          obtain ⟨rfl, rfl⟩ := q406
          show pl _ _ _ (135, [(0, .ref m0), (2, .int 1)], [.int (nI (plnN f n E (by2 f (hA + 2))))], M82) _
          refine ps_if (S1 := (151, [(0, .ref m0), (2, .int 1)], [], M82)) (S2 := (138, [(0, .ref m0), (2, .int 1)], [], M82)) rfl rfl rfl (fun c_135 => ?_) (fun c_135 => ?_)
          · have c_135 : ¬ (nI (plnN f n E (by2 f (hA + 2)))) = 0 := of_decide_eq_true c_135
            have n_135 : ¬ (plnN f n E (by2 f (hA + 2)) = 0) := fun h9 => c_135 ((eq_nI (p := plnN f n E (by2 f (hA + 2))) (n := 0) (Nat.lt_trans (le1_pln _ _ _ _) (by decide)) (by decide)).mpr h9)
            have hpl2 := pln_in (f := f) (n := n) (E := E) (k := by2 f (hA + 2)) (by omega)
            have hcp2 := hCP (by2 f (hA + 2)) hpl2.1
            refine ps_st (S' := (152, [(0, .ref m0), (2, .int 1)], [.ref m0], M82)) rfl rfl rfl ?_
            refine ps_st (S' := (153, [(0, .ref m0), (2, .int 1)], [.ref m0, .ref m0], M82)) rfl rfl rfl ?_
            refine ps_st (S' := (154, [(0, .ref m0), (2, .int 1)], [.ref m0, .ref m0, .ref m0], M82)) rfl rfl rfl ?_
            refine ps_st (S' := (155, [(0, .ref m0), (2, .int 1)], [.ref m0, .ref m0, .ref m0, .ref m0], M82)) rfl rfl rfl ?_
            refine pr_int (j := 54) (S' := (158, [(0, .ref m0), (2, .int 1)], [.int (nI hA), .ref m0, .ref m0, .ref m0], M82)) rfl hR84 rfl hi87 rfl ?_
            refine ps_st (S' := (159, [(0, .ref m0), (2, .int 1)], [.int 2, .int (nI hA), .ref m0, .ref m0, .ref m0], M82)) rfl rfl rfl ?_
            refine ps_st (S' := (160, [(0, .ref m0), (2, .int 1)], [.int ((nI hA) + 2), .ref m0, .ref m0, .ref m0], M82)) rfl rfl rfl ?_
            rw [nI_add1 (p := hA) (k := 2) (x := 2) rfl (by omega)]
            show pl _ _ _ (_, [(0, .ref m0), (2, .int 1)], [.int (nI (hA + 2)), .ref m0, .ref m0, .ref m0], M82) _
            refine pl_call (a := [.ref m0, .int (nI (hA + 2))]) (rest := [.ref m0, .ref m0]) rfl rfl rfl (rd_u2 (n := n) (f := f) (p := (hA + 2)) hR84 hF_92 (by omega)) (fun v407 M408 q409 => ?_)
            obtain ⟨rfl, rfl⟩ := q409
            show pl _ _ _ (163, [(0, .ref m0), (2, .int 1)], [.int (nI (by2 f (hA + 2))), .ref m0, .ref m0], M82) _
            have hu_160 := by2_lt f (hA + 2)
            refine pl_call (a := [.ref m0, .int (nI (by2 f (hA + 2)))]) (rest := [.ref m0]) rfl rfl rfl (rd_className (n := n) (f := f) (tx := tx) (cN := cN) (A := A) (N := N) (mj := mj) (E := E) (k := (by2 f (hA + 2))) hR84 hi89 hi90 hi91 hF_92 hY_93 hP_94 (hEP) (hN) (hmj) (by omega)) (fun v410 M411 q412 => ?_)
            obtain ⟨s413, q163_s, rfl, rfl⟩ := q412
            show pl _ _ _ (166, [(0, .ref m0), (2, .int 1)], [.int (nI s413), .ref m0], M82) _
            have hsl_163 := q163_s.1
            have htl_163 := hY_93.1.2.2.1
            refine pr_put (j := 59) rfl hR84 rfl (fun M414 I415 hR416 hi417 hI418 => ?_)
            have hi419 := (hI418 54 (by decide)).trans hi87
            have hi420 := (hI418 11 (by decide)).trans hi88
            have hi421 := (hI418 51 (by decide)).trans hi89
            have hi422 := (hI418 52 (by decide)).trans hi90
            have hi423 := (hI418 53 (by decide)).trans hi91
            have hi424 := (hI418 58 (by decide)).trans hi85
            have hF_425 := hF_92.mono (pIx hI418 (by decide)) (fun _ _ => rfl)
            have hY_426 := hY_93.mono (pIx hI418 (by decide)) (fun _ _ => rfl)
            have hP_427 := hP_94.mono (pIx hI418 (by decide)) (fun _ _ => rfl)
            have hEI428 := hEI95.put hI418 (by decide)
            show pl _ _ _ (169, [(0, .ref m0), (2, .int 1)], [], M414) _
            refine ps_st (S' := (170, [(0, .ref m0), (2, .int 1)], [.ref m0], M414)) rfl rfl rfl ?_
            refine ps_st (S' := (171, [(0, .ref m0), (2, .int 1)], [.ref m0, .ref m0], M414)) rfl rfl rfl ?_
            refine pr_int (j := 54) (S' := (174, [(0, .ref m0), (2, .int 1)], [.int (nI hA), .ref m0], M414)) rfl hR416 rfl hi419 rfl ?_
            refine ps_st (S' := (175, [(0, .ref m0), (2, .int 1)], [.int 4, .int (nI hA), .ref m0], M414)) rfl rfl rfl ?_
            refine ps_st (S' := (176, [(0, .ref m0), (2, .int 1)], [.int ((nI hA) + 4), .ref m0], M414)) rfl rfl rfl ?_
            rw [nI_add1 (p := hA) (k := 4) (x := 4) rfl (by omega)]
            show pl _ _ _ (_, [(0, .ref m0), (2, .int 1)], [.int (nI (hA + 4)), .ref m0], M414) _
            refine pl_call (a := [.ref m0, .int (nI (hA + 4))]) (rest := []) rfl rfl rfl (rd_u2 (n := n) (f := f) (p := (hA + 4)) hR416 hF_425 (by omega)) (fun v429 M430 q431 => ?_)
            obtain ⟨rfl, rfl⟩ := q431
            show pl _ _ _ (179, [(0, .ref m0), (2, .int 1)], [.int (nI (by2 f (hA + 4)))], M414) _
            have hu_176 := by2_lt f (hA + 4)
            refine ps_st (S' := (180, [(3, .int (nI (by2 f (hA + 4)))), (0, .ref m0), (2, .int 1)], [], M414)) rfl rfl rfl ?_
            refine ps_st (S' := (181, [(3, .int (nI (by2 f (hA + 4)))), (0, .ref m0), (2, .int 1)], [.ref m0], M414)) rfl rfl rfl ?_
            refine ps_st (S' := (182, [(3, .int (nI (by2 f (hA + 4)))), (0, .ref m0), (2, .int 1)], [.int (nI (by2 f (hA + 4))), .ref m0], M414)) rfl rfl rfl ?_
            refine pl_call (a := [.ref m0, .int (nI (by2 f (hA + 4)))]) (rest := []) rfl rfl rfl (rd_plainClass (n := n) (f := f) (tx := tx) (cN := cN) (A := A) (N := N) (mj := mj) (E := E) (k := (by2 f (hA + 4))) hR416 hi421 hi422 hi423 hF_425 hY_426 hP_427 (hEP) (hN) (hmj) (by2_lt _ _) (hCP)) (fun v432 M433 q434 => ?_)
            obtain ⟨rfl, rfl⟩ := q434
            show pl _ _ _ (185, [(3, .int (nI (by2 f (hA + 4)))), (0, .ref m0), (2, .int 1)], [.int (nI (plnN f n E (by2 f (hA + 4))))], M414) _
            refine ps_if (S1 := (204, [(0, .ref m0)], [], M414)) (S2 := (188, [(3, .int (nI (by2 f (hA + 4)))), (0, .ref m0), (2, .int 1)], [], M414)) rfl rfl rfl (fun c_185 => ?_) (fun c_185 => ?_)
            · have c_185 : (nI (plnN f n E (by2 f (hA + 4)))) = 0 := of_decide_eq_true c_185
              have n_185 : plnN f n E (by2 f (hA + 4)) = 0 := (eq_nI (p := plnN f n E (by2 f (hA + 4))) (n := 0) (Nat.lt_trans (le1_pln _ _ _ _) (by decide)) (by decide)).mp c_185
              refine ps_st (S' := (205, [(0, .ref m0)], [.ref m0], M414)) rfl rfl rfl ?_
              refine ps_st (S' := (207, [(0, .ref m0)], [.int 17, .ref m0], M414)) rfl rfl rfl ?_
              refine ps_st (S' := (208, [(0, .ref m0)], [.ref m0, .int 17, .ref m0], M414)) rfl rfl rfl ?_
              refine pr_int (j := 54) (S' := (211, [(0, .ref m0)], [.int (nI hA), .int 17, .ref m0], M414)) rfl hR416 rfl hi419 rfl ?_
              refine ps_st (S' := (212, [(0, .ref m0)], [.int 4, .int (nI hA), .int 17, .ref m0], M414)) rfl rfl rfl ?_
              refine ps_st (S' := (213, [(0, .ref m0)], [.int ((nI hA) + 4), .int 17, .ref m0], M414)) rfl rfl rfl ?_
              rw [nI_add1 (p := hA) (k := 4) (x := 4) rfl (by omega)]
              show pl _ _ _ (_, [(0, .ref m0)], [.int (nI (hA + 4)), .int 17, .ref m0], M414) _
              refine pl_call (a := [.ref m0, .int 17, .int (nI (hA + 4))]) (rest := []) rfl rfl rfl (rd_wrong (x1 := 17) (x2 := (nI (hA + 4))) hR416) (fun v435 M436 q437 => ?_)
              obtain ⟨I438, R439, rfl, hR440, hI441, hX442, hi443, hi444⟩ := q437
              have hi445 := (hI441 54 (by decide)).trans hi419
              have hi446 := (hI441 11 (by decide)).trans hi420
              have hi447 := (hI441 51 (by decide)).trans hi421
              have hi448 := (hI441 52 (by decide)).trans hi422
              have hi449 := (hI441 53 (by decide)).trans hi423
              have hi450 := (hI441 58 (by decide)).trans hi424
              have hi451 := (hI441 59 (by decide)).trans hi417
              have hF_452 := hF_425.mono (cIx hI441 (by decide)) (cRx hX442 (by decide))
              have hY_453 := hY_426.mono (cIx hI441 (by decide)) (cRx hX442 (by decide))
              have hP_454 := hP_427.mono (cIx hI441 (by decide)) (cRx hX442 (by decide))
              have hEI455 := hEI428.tr hI441 (by decide)
              have hER456 := hER.tr hX442 (by decide)
              show pl _ _ _ (216, [(0, .ref m0)], [.int 0], M436) _
              exact ps_ret rfl rfl (Or.inr ⟨(17, hA + 4), I438, R439, by
                  have ec := cfl_0 (by2 f hA)
                  have eh := has_0 (by2 f hA) 512
                  unfold ccS
                  rw [show hdS f n E hA = some (17, hA + 4) by unfold hdS; first | ((repeat first | rw [if_pos (by omega)] | rw [if_neg (by omega)]) <;> first | rfl | omega) | ((repeat' split) <;> first | rfl | (exfalso; omega) | omega)], rfl, hR440, hEI455, hER456, hi443, hi444⟩)
            · have c_185 : ¬ ((nI (plnN f n E (by2 f (hA + 4)))) = 0) := of_decide_eq_false c_185
              have n_185 : ¬ (plnN f n E (by2 f (hA + 4)) = 0) := fun h9 => c_185 ((eq_nI (p := plnN f n E (by2 f (hA + 4))) (n := 0) (Nat.lt_trans (le1_pln _ _ _ _) (by decide)) (by decide)).mpr h9)
              have hpl4 := pln_in (f := f) (n := n) (E := E) (k := by2 f (hA + 4)) (by omega)
              have hcp4 := hCP (by2 f (hA + 4)) hpl4.1
              refine ps_st (S' := (189, [(3, .int (nI (by2 f (hA + 4)))), (0, .ref m0), (2, .int 1)], [.int 1], M414)) rfl rfl rfl ?_
              refine ps_if (S1 := (217, [(0, .ref m0), (3, .int (nI (by2 f (hA + 4))))], [], M414)) (S2 := (192, [(3, .int (nI (by2 f (hA + 4)))), (0, .ref m0), (2, .int 1)], [], M414)) rfl rfl rfl (fun c_189 => ?_) (fun c_189 => ?_)
              · exact absurd (of_decide_eq_true c_189) (by decide)
              refine ps_st (S' := (193, [(3, .int (nI (by2 f (hA + 4)))), (0, .ref m0), (2, .int 1)], [.ref m0], M414)) rfl rfl rfl ?_
              refine ps_st (S' := (194, [(3, .int (nI (by2 f (hA + 4)))), (0, .ref m0), (2, .int 1)], [.int (nI (by2 f (hA + 4))), .ref m0], M414)) rfl rfl rfl ?_
              refine pl_call (a := [.ref m0, .int (nI (by2 f (hA + 4)))]) (rest := []) rfl rfl rfl (rd_className (n := n) (f := f) (tx := tx) (cN := cN) (A := A) (N := N) (mj := mj) (E := E) (k := (by2 f (hA + 4))) hR416 hi421 hi422 hi423 hF_425 hY_426 hP_427 (hEP) (hN) (hmj) (by omega)) (fun v457 M458 q459 => ?_)
              obtain ⟨s460, q194_s, rfl, rfl⟩ := q459
              show pl _ _ _ (197, [(3, .int (nI (by2 f (hA + 4)))), (0, .ref m0), (2, .int 1)], [.int (nI s460)], M414) _
              have hsl_194 := q194_s.1
              have htl_194 := hY_426.1.2.2.1
              have he9 := sym_eq hY_426 q194_s hs3
              rw [lt_eq.2.2.2] at he9
              refine ps_st (S' := (198, [(3, .int (nI (by2 f (hA + 4)))), (0, .ref m0), (2, .int 1)], [.ref m0, .int (nI s460)], M414)) rfl rfl rfl ?_
              refine pr_int (j := 11) (S' := (201, [(3, .int (nI (by2 f (hA + 4)))), (0, .ref m0), (2, .int 1)], [.int (nI s3), .int (nI s460)], M414)) rfl hR416 rfl hi420 rfl ?_
              refine ps_if2 (S1 := (217, [(0, .ref m0), (3, .int (nI (by2 f (hA + 4))))], [], M414)) (S2 := (204, [(0, .ref m0)], [], M414)) rfl rfl rfl (fun c_201 => ?_) (fun c_201 => ?_)
              · have c_201 : (nI s460) = (nI s3) := of_decide_eq_true c_201
                have n_201 : s460 = s3 := (eq_nI (p := s460) (n := s3) (by omega) (by omega)).mp c_201
                refine ps_st (S' := (218, [(0, .ref m0), (3, .int (nI (by2 f (hA + 4))))], [.ref m0], M414)) rfl rfl rfl ?_
                refine ps_st (S' := (219, [(0, .ref m0), (3, .int (nI (by2 f (hA + 4))))], [.ref m0, .ref m0], M414)) rfl rfl rfl ?_
                refine ps_st (S' := (220, [(0, .ref m0), (3, .int (nI (by2 f (hA + 4))))], [.int (nI (by2 f (hA + 4))), .ref m0, .ref m0], M414)) rfl rfl rfl ?_
                refine pl_call (a := [.ref m0, .int (nI (by2 f (hA + 4)))]) (rest := [.ref m0]) rfl rfl rfl (rd_className (n := n) (f := f) (tx := tx) (cN := cN) (A := A) (N := N) (mj := mj) (E := E) (k := (by2 f (hA + 4))) hR416 hi421 hi422 hi423 hF_425 hY_426 hP_427 (hEP) (hN) (hmj) (by omega)) (fun v461 M462 q463 => ?_)
                obtain ⟨s464, q220_s, rfl, rfl⟩ := q463
                show pl _ _ _ (223, [(0, .ref m0), (3, .int (nI (by2 f (hA + 4))))], [.int (nI s464), .ref m0], M414) _
                have hsl_220 := q220_s.1
                have htl_220 := hY_426.1.2.2.1
                refine pr_put (j := 60) rfl hR416 rfl (fun M465 I466 hR467 hi468 hI469 => ?_)
                have hi470 := (hI469 54 (by decide)).trans hi419
                have hi471 := (hI469 11 (by decide)).trans hi420
                have hi472 := (hI469 51 (by decide)).trans hi421
                have hi473 := (hI469 52 (by decide)).trans hi422
                have hi474 := (hI469 53 (by decide)).trans hi423
                have hi475 := (hI469 58 (by decide)).trans hi424
                have hi476 := (hI469 59 (by decide)).trans hi417
                have hF_477 := hF_425.mono (pIx hI469 (by decide)) (fun _ _ => rfl)
                have hY_478 := hY_426.mono (pIx hI469 (by decide)) (fun _ _ => rfl)
                have hP_479 := hP_427.mono (pIx hI469 (by decide)) (fun _ _ => rfl)
                have hEI480 := hEI428.put hI469 (by decide)
                show pl _ _ _ (226, [(0, .ref m0), (3, .int (nI (by2 f (hA + 4))))], [], M465) _
                have hh : hdS f n E hA = none := by
                  have ec := cfl_0 (by2 f hA)
                  have eh := has_0 (by2 f hA) 512
                  unfold hdS
                  first | ((repeat first | rw [if_pos (by omega)] | rw [if_neg (by omega)]) <;> first | rfl | omega) | ((repeat' split) <;> first | rfl | (exfalso; omega) | omega)
                refine ps_st (S' := (227, [(0, .ref m0), (3, .int (nI (by2 f (hA + 4))))], [.ref m0], M465)) rfl rfl rfl ?_
                refine ps_st (S' := (228, [(0, .ref m0), (3, .int (nI (by2 f (hA + 4))))], [.ref m0, .ref m0], M465)) rfl rfl rfl ?_
                refine pr_int (j := 54) (S' := (231, [(0, .ref m0), (3, .int (nI (by2 f (hA + 4))))], [.int (nI hA), .ref m0], M465)) rfl hR467 rfl hi470 rfl ?_
                refine ps_st (S' := (233, [(0, .ref m0), (3, .int (nI (by2 f (hA + 4))))], [.int 6, .int (nI hA), .ref m0], M465)) rfl rfl rfl ?_
                refine ps_st (S' := (234, [(0, .ref m0), (3, .int (nI (by2 f (hA + 4))))], [.int ((nI hA) + 6), .ref m0], M465)) rfl rfl rfl ?_
                rw [nI_add1 (p := hA) (k := 6) (x := 6) rfl (by omega)]
                show pl _ _ _ (_, [(0, .ref m0), (3, .int (nI (by2 f (hA + 4))))], [.int (nI (hA + 6)), .ref m0], M465) _
                refine pl_call (a := [.ref m0, .int (nI (hA + 6))]) (rest := []) rfl rfl rfl (rd_u2 (n := n) (f := f) (p := (hA + 6)) hR467 hF_477 (by omega)) (fun v481 M482 q483 => ?_)
                obtain ⟨rfl, rfl⟩ := q483
                show pl _ _ _ (237, [(0, .ref m0), (3, .int (nI (by2 f (hA + 4))))], [.int (nI (by2 f (hA + 6)))], M465) _
                have hu_234 := by2_lt f (hA + 6)
                refine ps_st (S' := (239, [(4, .int (nI (by2 f (hA + 6)))), (0, .ref m0), (3, .int (nI (by2 f (hA + 4))))], [], M465)) rfl rfl rfl ?_
                refine ps_st (S' := (240, [(4, .int (nI (by2 f (hA + 6)))), (0, .ref m0), (3, .int (nI (by2 f (hA + 4))))], [.int 0], M465)) rfl rfl rfl ?_
                refine ps_st (S' := (242, [(0, .ref m0), (4, .int (nI (by2 f (hA + 6)))), (5, .int 0)], [], M465)) rfl rfl rfl ?_
                exact (LL kf).1 (0) M465 I466 R hR467 hEI480 hER hi470 hi471 hi472 hi473 hi474 hi475 hF_477 hY_478 hP_479 (hh) (by omega) (rfl) (fun j hj => by omega)
              · have c_201 : ¬ ((nI s460) = (nI s3)) := of_decide_eq_false c_201
                have n_201 : ¬ (s460 = s3) := fun h9 => c_201 ((eq_nI (p := s460) (n := s3) (by omega) (by omega)).mpr h9)
                refine ps_st (S' := (205, [(0, .ref m0)], [.ref m0], M414)) rfl rfl rfl ?_
                refine ps_st (S' := (207, [(0, .ref m0)], [.int 17, .ref m0], M414)) rfl rfl rfl ?_
                refine ps_st (S' := (208, [(0, .ref m0)], [.ref m0, .int 17, .ref m0], M414)) rfl rfl rfl ?_
                refine pr_int (j := 54) (S' := (211, [(0, .ref m0)], [.int (nI hA), .int 17, .ref m0], M414)) rfl hR416 rfl hi419 rfl ?_
                refine ps_st (S' := (212, [(0, .ref m0)], [.int 4, .int (nI hA), .int 17, .ref m0], M414)) rfl rfl rfl ?_
                refine ps_st (S' := (213, [(0, .ref m0)], [.int ((nI hA) + 4), .int 17, .ref m0], M414)) rfl rfl rfl ?_
                rw [nI_add1 (p := hA) (k := 4) (x := 4) rfl (by omega)]
                show pl _ _ _ (_, [(0, .ref m0)], [.int (nI (hA + 4)), .int 17, .ref m0], M414) _
                refine pl_call (a := [.ref m0, .int 17, .int (nI (hA + 4))]) (rest := []) rfl rfl rfl (rd_wrong (x1 := 17) (x2 := (nI (hA + 4))) hR416) (fun v484 M485 q486 => ?_)
                obtain ⟨I487, R488, rfl, hR489, hI490, hX491, hi492, hi493⟩ := q486
                have hi494 := (hI490 54 (by decide)).trans hi419
                have hi495 := (hI490 11 (by decide)).trans hi420
                have hi496 := (hI490 51 (by decide)).trans hi421
                have hi497 := (hI490 52 (by decide)).trans hi422
                have hi498 := (hI490 53 (by decide)).trans hi423
                have hi499 := (hI490 58 (by decide)).trans hi424
                have hi500 := (hI490 59 (by decide)).trans hi417
                have hF_501 := hF_425.mono (cIx hI490 (by decide)) (cRx hX491 (by decide))
                have hY_502 := hY_426.mono (cIx hI490 (by decide)) (cRx hX491 (by decide))
                have hP_503 := hP_427.mono (cIx hI490 (by decide)) (cRx hX491 (by decide))
                have hEI504 := hEI428.tr hI490 (by decide)
                have hER505 := hER.tr hX491 (by decide)
                show pl _ _ _ (216, [(0, .ref m0)], [.int 0], M485) _
                exact ps_ret rfl rfl (Or.inr ⟨(17, hA + 4), I487, R488, by
                    have ec := cfl_0 (by2 f hA)
                    have eh := has_0 (by2 f hA) 512
                    unfold ccS
                    rw [show hdS f n E hA = some (17, hA + 4) by unfold hdS; first | ((repeat first | rw [if_pos (by omega)] | rw [if_neg (by omega)]) <;> first | rfl | omega) | ((repeat' split) <;> first | rfl | (exfalso; omega) | omega)], rfl, hR489, hEI504, hER505, hi492, hi493⟩)
          · have c_135 : ¬ (¬ (nI (plnN f n E (by2 f (hA + 2)))) = 0) := of_decide_eq_false c_135
            have n_135 : plnN f n E (by2 f (hA + 2)) = 0 := (eq_nI (p := plnN f n E (by2 f (hA + 2))) (n := 0) (Nat.lt_trans (le1_pln _ _ _ _) (by decide)) (by decide)).mp (Decidable.not_not.mp c_135)
            refine ps_st (S' := (139, [(0, .ref m0), (2, .int 1)], [.ref m0], M82)) rfl rfl rfl ?_
            refine ps_st (S' := (141, [(0, .ref m0), (2, .int 1)], [.int 16, .ref m0], M82)) rfl rfl rfl ?_
            refine ps_st (S' := (142, [(0, .ref m0), (2, .int 1)], [.ref m0, .int 16, .ref m0], M82)) rfl rfl rfl ?_
            refine pr_int (j := 54) (S' := (145, [(0, .ref m0), (2, .int 1)], [.int (nI hA), .int 16, .ref m0], M82)) rfl hR84 rfl hi87 rfl ?_
            refine ps_st (S' := (146, [(0, .ref m0), (2, .int 1)], [.int 2, .int (nI hA), .int 16, .ref m0], M82)) rfl rfl rfl ?_
            refine ps_st (S' := (147, [(0, .ref m0), (2, .int 1)], [.int ((nI hA) + 2), .int 16, .ref m0], M82)) rfl rfl rfl ?_
            rw [nI_add1 (p := hA) (k := 2) (x := 2) rfl (by omega)]
            show pl _ _ _ (_, [(0, .ref m0), (2, .int 1)], [.int (nI (hA + 2)), .int 16, .ref m0], M82) _
            refine pl_call (a := [.ref m0, .int 16, .int (nI (hA + 2))]) (rest := []) rfl rfl rfl (rd_wrong (x1 := 16) (x2 := (nI (hA + 2))) hR84) (fun v506 M507 q508 => ?_)
            obtain ⟨I509, R510, rfl, hR511, hI512, hX513, hi514, hi515⟩ := q508
            have hi516 := (hI512 54 (by decide)).trans hi87
            have hi517 := (hI512 11 (by decide)).trans hi88
            have hi518 := (hI512 51 (by decide)).trans hi89
            have hi519 := (hI512 52 (by decide)).trans hi90
            have hi520 := (hI512 53 (by decide)).trans hi91
            have hi521 := (hI512 58 (by decide)).trans hi85
            have hF_522 := hF_92.mono (cIx hI512 (by decide)) (cRx hX513 (by decide))
            have hY_523 := hY_93.mono (cIx hI512 (by decide)) (cRx hX513 (by decide))
            have hP_524 := hP_94.mono (cIx hI512 (by decide)) (cRx hX513 (by decide))
            have hEI525 := hEI95.tr hI512 (by decide)
            have hER526 := hER.tr hX513 (by decide)
            show pl _ _ _ (150, [(0, .ref m0), (2, .int 1)], [.int 0], M507) _
            exact ps_ret rfl rfl (Or.inr ⟨(16, hA + 2), I509, R510, by
                have ec := cfl_0 (by2 f hA)
                have eh := has_0 (by2 f hA) 512
                unfold ccS
                rw [show hdS f n E hA = some (16, hA + 2) by unfold hdS; first | ((repeat first | rw [if_pos (by omega)] | rw [if_neg (by omega)]) <;> first | rfl | omega) | ((repeat' split) <;> first | rfl | (exfalso; omega) | omega)], rfl, hR511, hEI525, hER526, hi514, hi515⟩)
        · have c_53 : ¬ ((nI (aN (by2 f hA) 16432)) = 0) := of_decide_eq_false c_53
          have n_53 : ¬ (aN (by2 f hA) 16432 = 0) := fun h9 => c_53 ((eq_nI (p := aN (by2 f hA) 16432) (n := 0) (Nat.lt_of_le_of_lt (an_le _ _) (by decide)) (by decide)).mpr h9)
          refine ps_st (S' := (82, [(0, .ref m0), (1, .int (nI (by2 f hA))), (2, .int 1)], [], M82)) rfl rfl rfl ?_
          refine ps_st (S' := (83, [(0, .ref m0), (1, .int (nI (by2 f hA))), (2, .int 1)], [.int 1], M82)) rfl rfl rfl ?_
          refine ps_if (S1 := (110, [(0, .ref m0)], [], M82)) (S2 := (86, [(0, .ref m0), (1, .int (nI (by2 f hA))), (2, .int 1)], [], M82)) rfl rfl rfl (fun c_83 => ?_) (fun c_83 => ?_)
          · exact absurd (of_decide_eq_true c_83) (by decide)
          refine ps_st (S' := (87, [(0, .ref m0), (1, .int (nI (by2 f hA))), (2, .int 1)], [.int (nI (by2 f hA))], M82)) rfl rfl rfl ?_
          refine ps_st (S' := (90, [(0, .ref m0), (1, .int (nI (by2 f hA))), (2, .int 1)], [.int 32768, .int (nI (by2 f hA))], M82)) rfl rfl rfl ?_
          refine ps_st (S' := (91, [(0, .ref m0), (1, .int (nI (by2 f hA))), (2, .int 1)], [.int ((nI (by2 f hA)) &&& 32768)], M82)) rfl rfl rfl ?_
          rw [nI_an (p := by2 f hA) (k := 32768) (x := 32768) rfl]
          show pl _ _ _ (_, [(0, .ref m0), (1, .int (nI (by2 f hA))), (2, .int 1)], [.int (nI (aN (by2 f hA) 32768))], M82) _
          refine ps_if (S1 := (110, [(0, .ref m0)], [], M82)) (S2 := (94, [(0, .ref m0), (1, .int (nI (by2 f hA))), (2, .int 1)], [], M82)) rfl rfl rfl (fun c_91 => ?_) (fun c_91 => ?_)
          · exact absurd (of_decide_eq_true c_91) (fun h9 => h9 ((eq_nI (p := aN (by2 f hA) 32768) (n := 0) (Nat.lt_of_le_of_lt (an_le _ _) (by decide)) (by decide)).mpr (by omega)))
          refine ps_st (S' := (95, [(0, .ref m0), (1, .int (nI (by2 f hA))), (2, .int 1)], [.int (nI (by2 f hA))], M82)) rfl rfl rfl ?_
          refine ps_st (S' := (98, [(0, .ref m0), (1, .int (nI (by2 f hA))), (2, .int 1)], [.int 1024, .int (nI (by2 f hA))], M82)) rfl rfl rfl ?_
          refine ps_st (S' := (99, [(0, .ref m0), (1, .int (nI (by2 f hA))), (2, .int 1)], [.int ((nI (by2 f hA)) &&& 1024)], M82)) rfl rfl rfl ?_
          rw [nI_an (p := by2 f hA) (k := 1024) (x := 1024) rfl]
          show pl _ _ _ (_, [(0, .ref m0), (1, .int (nI (by2 f hA))), (2, .int 1)], [.int (nI (aN (by2 f hA) 1024))], M82) _
          refine ps_if (S1 := (110, [(0, .ref m0)], [], M82)) (S2 := (102, [(0, .ref m0), (1, .int (nI (by2 f hA))), (2, .int 1)], [], M82)) rfl rfl rfl (fun c_99 => ?_) (fun c_99 => ?_)
          · exact absurd (of_decide_eq_true c_99) (show ¬ ((nI (aN (by2 f hA) 1024)) = 0) from fun h9 => absurd ((eq_nI (p := aN (by2 f hA) 1024) (n := 0) (Nat.lt_of_le_of_lt (an_le _ _) (by decide)) (by decide)).mp h9) (by omega))
          refine ps_st (S' := (103, [(0, .ref m0), (1, .int (nI (by2 f hA))), (2, .int 1)], [.int (nI (by2 f hA))], M82)) rfl rfl rfl ?_
          refine ps_st (S' := (106, [(0, .ref m0), (1, .int (nI (by2 f hA))), (2, .int 1)], [.int 16400, .int (nI (by2 f hA))], M82)) rfl rfl rfl ?_
          refine ps_st (S' := (107, [(0, .ref m0), (1, .int (nI (by2 f hA))), (2, .int 1)], [.int ((nI (by2 f hA)) &&& 16400)], M82)) rfl rfl rfl ?_
          rw [nI_an (p := by2 f hA) (k := 16400) (x := 16400) rfl]
          show pl _ _ _ (_, [(0, .ref m0), (1, .int (nI (by2 f hA))), (2, .int 1)], [.int (nI (aN (by2 f hA) 16400))], M82) _
          refine ps_if (S1 := (110, [(0, .ref m0)], [], M82)) (S2 := (110, [(0, .ref m0)], [], M82)) rfl rfl rfl (fun c_107 => ?_) (fun c_107 => ?_)
          · have c_107 : ¬ (nI (aN (by2 f hA) 16400)) = 0 := of_decide_eq_true c_107
            have n_107 : ¬ (aN (by2 f hA) 16400 = 0) := fun h9 => c_107 ((eq_nI (p := aN (by2 f hA) 16400) (n := 0) (Nat.lt_of_le_of_lt (an_le _ _) (by decide)) (by decide)).mpr h9)
            refine ps_st (S' := (111, [(0, .ref m0)], [.ref m0], M82)) rfl rfl rfl ?_
            refine ps_st (S' := (113, [(0, .ref m0)], [.int 15, .ref m0], M82)) rfl rfl rfl ?_
            refine ps_st (S' := (114, [(0, .ref m0)], [.ref m0, .int 15, .ref m0], M82)) rfl rfl rfl ?_
            refine pr_int (j := 54) (S' := (117, [(0, .ref m0)], [.int (nI hA), .int 15, .ref m0], M82)) rfl hR84 rfl hi87 rfl ?_
            refine pl_call (a := [.ref m0, .int 15, .int (nI hA)]) (rest := []) rfl rfl rfl (rd_wrong (x1 := 15) (x2 := (nI hA)) hR84) (fun v527 M528 q529 => ?_)
            obtain ⟨I530, R531, rfl, hR532, hI533, hX534, hi535, hi536⟩ := q529
            have hi537 := (hI533 54 (by decide)).trans hi87
            have hi538 := (hI533 11 (by decide)).trans hi88
            have hi539 := (hI533 51 (by decide)).trans hi89
            have hi540 := (hI533 52 (by decide)).trans hi90
            have hi541 := (hI533 53 (by decide)).trans hi91
            have hi542 := (hI533 58 (by decide)).trans hi85
            have hF_543 := hF_92.mono (cIx hI533 (by decide)) (cRx hX534 (by decide))
            have hY_544 := hY_93.mono (cIx hI533 (by decide)) (cRx hX534 (by decide))
            have hP_545 := hP_94.mono (cIx hI533 (by decide)) (cRx hX534 (by decide))
            have hEI546 := hEI95.tr hI533 (by decide)
            have hER547 := hER.tr hX534 (by decide)
            show pl _ _ _ (120, [(0, .ref m0)], [.int 0], M528) _
            exact ps_ret rfl rfl (Or.inr ⟨(15, hA), I530, R531, by
                have ec := cfl_0 (by2 f hA)
                have eh := has_0 (by2 f hA) 512
                unfold ccS
                rw [show hdS f n E hA = some (15, hA) by unfold hdS; first | ((repeat first | rw [if_pos (by omega)] | rw [if_neg (by omega)]) <;> first | rfl | omega) | ((repeat' split) <;> first | rfl | (exfalso; omega) | omega)], rfl, hR532, hEI546, hER547, hi535, hi536⟩)
          · have c_107 : ¬ (¬ (nI (aN (by2 f hA) 16400)) = 0) := of_decide_eq_false c_107
            have n_107 : aN (by2 f hA) 16400 = 0 := (eq_nI (p := aN (by2 f hA) 16400) (n := 0) (Nat.lt_of_le_of_lt (an_le _ _) (by decide)) (by decide)).mp (Decidable.not_not.mp c_107)
            refine ps_st (S' := (111, [(0, .ref m0)], [.ref m0], M82)) rfl rfl rfl ?_
            refine ps_st (S' := (113, [(0, .ref m0)], [.int 15, .ref m0], M82)) rfl rfl rfl ?_
            refine ps_st (S' := (114, [(0, .ref m0)], [.ref m0, .int 15, .ref m0], M82)) rfl rfl rfl ?_
            refine pr_int (j := 54) (S' := (117, [(0, .ref m0)], [.int (nI hA), .int 15, .ref m0], M82)) rfl hR84 rfl hi87 rfl ?_
            refine pl_call (a := [.ref m0, .int 15, .int (nI hA)]) (rest := []) rfl rfl rfl (rd_wrong (x1 := 15) (x2 := (nI hA)) hR84) (fun v548 M549 q550 => ?_)
            obtain ⟨I551, R552, rfl, hR553, hI554, hX555, hi556, hi557⟩ := q550
            have hi558 := (hI554 54 (by decide)).trans hi87
            have hi559 := (hI554 11 (by decide)).trans hi88
            have hi560 := (hI554 51 (by decide)).trans hi89
            have hi561 := (hI554 52 (by decide)).trans hi90
            have hi562 := (hI554 53 (by decide)).trans hi91
            have hi563 := (hI554 58 (by decide)).trans hi85
            have hF_564 := hF_92.mono (cIx hI554 (by decide)) (cRx hX555 (by decide))
            have hY_565 := hY_93.mono (cIx hI554 (by decide)) (cRx hX555 (by decide))
            have hP_566 := hP_94.mono (cIx hI554 (by decide)) (cRx hX555 (by decide))
            have hEI567 := hEI95.tr hI554 (by decide)
            have hER568 := hER.tr hX555 (by decide)
            show pl _ _ _ (120, [(0, .ref m0)], [.int 0], M549) _
            exact ps_ret rfl rfl (Or.inr ⟨(15, hA), I551, R552, by
                have ec := cfl_0 (by2 f hA)
                have eh := has_0 (by2 f hA) 512
                unfold ccS
                rw [show hdS f n E hA = some (15, hA) by unfold hdS; first | ((repeat first | rw [if_pos (by omega)] | rw [if_neg (by omega)]) <;> first | rfl | omega) | ((repeat' split) <;> first | rfl | (exfalso; omega) | omega)], rfl, hR553, hEI567, hER568, hi556, hi557⟩)
end
section
/-! bootstraps and records as the reference checks them (laid by wip/p4/e10.py) -/

theorem fe_2 {f : Nat → Int32} {k p e : Nat} (h : e < p + 2) : ¬ s_fe f k p e = some e := by
  unfold s_fe
  rw [if_pos h]
  exact fun h9 => by cases h9
theorem fe_6 {f : Nat → Int32} {p e : Nat} (h : p + 2 ≤ e) : s_fe f 6 p e = s_bsE f e (by2 f p) (p + 2) := by
  unfold s_fe
  rw [if_neg (by omega), if_neg (by decide), if_neg (by decide), if_neg (by decide), if_pos rfl]
theorem fe_9 {f : Nat → Int32} {p e : Nat} (h : p + 2 ≤ e) : s_fe f 9 p e = s_rcE f e (by2 f p) (p + 2) := by
  unfold s_fe
  rw [if_neg (by omega), if_neg (by decide), if_neg (by decide), if_neg (by decide), if_neg (by decide), if_pos rfl]
set_option maxHeartbeats 4000000 in
theorem rd_bootstraps {g : xe_G} {m0 : Nat} {q : Nat → Nat} {z : Nat × Nat} {I : rI} {R : rR} {M : mi_H} {n : Nat} {f : Nat → Int32} {tx : List (List Nat)} {cN : Nat} {A : Nat → Nat} {N mj : Nat} {E : List (Nat × Nat)} {p0 e : Nat} (hR : RS g m0 q z I R M) (hi51 : I 51 = some 0) (hi52 : I 52 = some (nI N)) (hi53 : I 53 = some (nI mj)) (hF : FK n f I R) (hY : SYT tx cN A I R) (hP : RPV f n E tx N I R) (hEP : EP f n E) (hN : N < 65536) (hmj : mj < 65536) (he : p0 ≤ e ∧ e ≤ n) : pt (mT g) 185 [.ref m0, .int (nI p0), .int (nI e)] M (fun v M' => (∃  (I' : rI) (R' : rR), (¬ s_fe f 6 p0 e = some e) ∧ v = some (.int 30) ∧ RS g m0 q z I' R' M' ∧ eqI [70, 71] I I' ∧ eqR [] R R') ∨ (∃  (I' : rI) (R' : rR), (s_fe f 6 p0 e = some e) ∧ (bsA f E (by2 f p0) (p0 + 2) = 0) ∧ v = some (.int 38) ∧ RS g m0 q z I' R' M' ∧ eqI [70, 71] I I' ∧ eqR [] R R') ∨ (∃  (I' : rI) (R' : rR), (s_fe f 6 p0 e = some e) ∧ (¬ bsA f E (by2 f p0) (p0 + 2) = 0) ∧ v = some (.int 0) ∧ RS g m0 q z I' R' M' ∧ eqI [70, 71] I I' ∧ eqR [] R R' ∧ I' 71 = some (nI (by2 f p0)) ∧ I' 70 = some (nI p0))) := by
  refine pt_in (b := mb_185 g) rfl (fun kf => ?_)
  show pl (mT g) kf (mb_185 g).2 (0, [(0, .ref m0), (1, .int (nI p0)), (2, .int (nI e))], [], M) _
  have hEI : eqI [70, 71] I I := eqI.rf
  have hER : eqR [] R R := eqR.rf
  have hn := hF.1
  have LL : ∀ (kf : Nat), (∀ (i p : Nat) (M1 : mi_H) (I1 : rI) (R1 : rR), (RS g m0 q z I1 R1 M1) → (eqI [70, 71] I I1) → (eqR [] R R1) → (I1 51 = some 0) → (I1 52 = some (nI N)) → (I1 53 = some (nI mj)) → (FK n f I1 R1) → (SYT tx cN A I1 R1) → (RPV f n E tx N I1 R1) → (p0 + 2 ≤ e) → (i ≤ by2 f p0) → (p0 + 2 ≤ p ∧ p ≤ e) → (s_bsE f e (by2 f p0 - i) p = s_bsE f e (by2 f p0) (p0 + 2)) →  pl (mT g) kf (mb_185 g).2 (24, [(0, .ref m0), (1, .int (nI p0)), (2, .int (nI e)), (3, .int (nI (by2 f p0))), (4, .int (nI p)), (5, .int (nI i))], [], M1) (fun v M' => (∃  (I' : rI) (R' : rR), (¬ s_fe f 6 p0 e = some e) ∧ v = some (.int 30) ∧ RS g m0 q z I' R' M' ∧ eqI [70, 71] I I' ∧ eqR [] R R') ∨ (∃  (I' : rI) (R' : rR), (s_fe f 6 p0 e = some e) ∧ (bsA f E (by2 f p0) (p0 + 2) = 0) ∧ v = some (.int 38) ∧ RS g m0 q z I' R' M' ∧ eqI [70, 71] I I' ∧ eqR [] R R') ∨ (∃  (I' : rI) (R' : rR), (s_fe f 6 p0 e = some e) ∧ (¬ bsA f E (by2 f p0) (p0 + 2) = 0) ∧ v = some (.int 0) ∧ RS g m0 q z I' R' M' ∧ eqI [70, 71] I I' ∧ eqR [] R R' ∧ I' 71 = some (nI (by2 f p0)) ∧ I' 70 = some (nI p0)))) ∧ (∀ (i p : Nat) (M1 : mi_H) (I1 : rI) (R1 : rR), (RS g m0 q z I1 R1 M1) → (eqI [70, 71] I I1) → (eqR [] R R1) → (I1 51 = some 0) → (I1 52 = some (nI N)) → (I1 53 = some (nI mj)) → (FK n f I1 R1) → (SYT tx cN A I1 R1) → (RPV f n E tx N I1 R1) → (s_fe f 6 p0 e = some e) → (i ≤ by2 f p0) → (p ≤ e) → (s_bsE f e (by2 f p0 - i) p = some e) → (bsA f E (by2 f p0 - i) p = bsA f E (by2 f p0) (p0 + 2)) →  pl (mT g) kf (mb_185 g).2 (100, [(0, .ref m0), (1, .int (nI p0)), (3, .int (nI (by2 f p0))), (4, .int (nI p)), (5, .int (nI i))], [], M1) (fun v M' => (∃  (I' : rI) (R' : rR), (¬ s_fe f 6 p0 e = some e) ∧ v = some (.int 30) ∧ RS g m0 q z I' R' M' ∧ eqI [70, 71] I I' ∧ eqR [] R R') ∨ (∃  (I' : rI) (R' : rR), (s_fe f 6 p0 e = some e) ∧ (bsA f E (by2 f p0) (p0 + 2) = 0) ∧ v = some (.int 38) ∧ RS g m0 q z I' R' M' ∧ eqI [70, 71] I I' ∧ eqR [] R R') ∨ (∃  (I' : rI) (R' : rR), (s_fe f 6 p0 e = some e) ∧ (¬ bsA f E (by2 f p0) (p0 + 2) = 0) ∧ v = some (.int 0) ∧ RS g m0 q z I' R' M' ∧ eqI [70, 71] I I' ∧ eqR [] R R' ∧ I' 71 = some (nI (by2 f p0)) ∧ I' 70 = some (nI p0)))) ∧ (∀ (i p j : Nat) (M1 : mi_H) (I1 : rI) (R1 : rR), (RS g m0 q z I1 R1 M1) → (eqI [70, 71] I I1) → (eqR [] R R1) → (I1 51 = some 0) → (I1 52 = some (nI N)) → (I1 53 = some (nI mj)) → (FK n f I1 R1) → (SYT tx cN A I1 R1) → (RPV f n E tx N I1 R1) → (s_fe f 6 p0 e = some e) → (i < by2 f p0) → (j ≤ by2 f (p + 2)) → (p + 4 + 2 * by2 f (p + 2) ≤ e) → (s_bsE f e (by2 f p0 - (i + 1)) (p + 4 + 2 * by2 f (p + 2)) = some e) → (tg f E (by2 f p) = 15) → (bsA f E (by2 f p0 - i) p = bsA f E (by2 f p0) (p0 + 2)) → (ldA f E (by2 f (p + 2) - j) (p + 4 + 2 * j) = ldA f E (by2 f (p + 2)) (p + 4)) →  pl (mT g) kf (mb_185 g).2 (127, [(0, .ref m0), (1, .int (nI p0)), (3, .int (nI (by2 f p0))), (4, .int (nI p)), (5, .int (nI i)), (6, .int (nI j))], [], M1) (fun v M' => (∃  (I' : rI) (R' : rR), (¬ s_fe f 6 p0 e = some e) ∧ v = some (.int 30) ∧ RS g m0 q z I' R' M' ∧ eqI [70, 71] I I' ∧ eqR [] R R') ∨ (∃  (I' : rI) (R' : rR), (s_fe f 6 p0 e = some e) ∧ (bsA f E (by2 f p0) (p0 + 2) = 0) ∧ v = some (.int 38) ∧ RS g m0 q z I' R' M' ∧ eqI [70, 71] I I' ∧ eqR [] R R') ∨ (∃  (I' : rI) (R' : rR), (s_fe f 6 p0 e = some e) ∧ (¬ bsA f E (by2 f p0) (p0 + 2) = 0) ∧ v = some (.int 0) ∧ RS g m0 q z I' R' M' ∧ eqI [70, 71] I I' ∧ eqR [] R R' ∧ I' 71 = some (nI (by2 f p0)) ∧ I' 70 = some (nI p0)))) := by
    intro kf
    induction kf with
    | zero => exact ⟨by intros; exact pl_0, by intros; exact pl_0, by intros; exact pl_0⟩
    | succ kf ih =>
      refine ⟨?_, ?_, ?_⟩
      · skip
        intro i p M1 I1 R1 hR1 hEI1 hER1 hl51 hl52 hl53 hF1 hY1 hP1 h2 hi hp hs
        have hn := hF1.1
        have hu9 := by2_lt f p0
        refine ps_st1 (S' := (26, [(0, .ref m0), (1, .int (nI p0)), (2, .int (nI e)), (3, .int (nI (by2 f p0))), (4, .int (nI p)), (5, .int (nI i))], [.int (nI i)], M1)) rfl rfl rfl ?_
        refine ps_st (S' := (27, [(0, .ref m0), (1, .int (nI p0)), (2, .int (nI e)), (3, .int (nI (by2 f p0))), (4, .int (nI p)), (5, .int (nI i))], [.int (nI (by2 f p0)), .int (nI i)], M1)) rfl rfl rfl ?_
        refine ps_if2 (S1 := (83, [(0, .ref m0), (1, .int (nI p0)), (2, .int (nI e)), (3, .int (nI (by2 f p0))), (4, .int (nI p)), (5, .int (nI i))], [], M1)) (S2 := (30, [(0, .ref m0), (1, .int (nI p0)), (2, .int (nI e)), (3, .int (nI (by2 f p0))), (4, .int (nI p)), (5, .int (nI i))], [], M1)) rfl rfl rfl (fun c_27 => ?_) (fun c_27 => ?_)
        · have c_27 : (nI (by2 f p0)) ≤ (nI i) := of_decide_eq_true c_27
          have n_27 : by2 f p0 ≤ i := (le_nI (p := by2 f p0) (n := i) (Nat.lt_trans (by2_lt _ _) (by decide)) (by omega)).mp c_27
          refine ps_st (S' := (85, [(0, .ref m0), (1, .int (nI p0)), (2, .int (nI e)), (3, .int (nI (by2 f p0))), (4, .int (nI p)), (5, .int (nI i))], [.int (nI p)], M1)) rfl rfl rfl ?_
          refine ps_st (S' := (86, [(0, .ref m0), (1, .int (nI p0)), (2, .int (nI e)), (3, .int (nI (by2 f p0))), (4, .int (nI p)), (5, .int (nI i))], [.int (nI e), .int (nI p)], M1)) rfl rfl rfl ?_
          refine ps_if2 (S1 := (92, [(0, .ref m0), (1, .int (nI p0)), (2, .int (nI e)), (3, .int (nI (by2 f p0))), (4, .int (nI p)), (5, .int (nI i))], [], M1)) (S2 := (89, [(0, .ref m0), (1, .int (nI p0)), (2, .int (nI e)), (3, .int (nI (by2 f p0))), (4, .int (nI p)), (5, .int (nI i))], [], M1)) rfl rfl rfl (fun c_86 => ?_) (fun c_86 => ?_)
          · have c_86 : (nI p) = (nI e) := of_decide_eq_true c_86
            have n_86 : p = e := (eq_nI (p := p) (n := e) (by omega) (by omega)).mp c_86
            refine ps_st (S' := (93, [(0, .ref m0), (1, .int (nI p0)), (2, .int (nI e)), (3, .int (nI (by2 f p0))), (4, .int (nI p)), (5, .int (nI i))], [.int (nI p0)], M1)) rfl rfl rfl ?_
            refine ps_st (S' := (94, [(0, .ref m0), (1, .int (nI p0)), (2, .int (nI e)), (3, .int (nI (by2 f p0))), (4, .int (nI p)), (5, .int (nI i))], [.int 2, .int (nI p0)], M1)) rfl rfl rfl ?_
            refine ps_st (S' := (95, [(0, .ref m0), (1, .int (nI p0)), (2, .int (nI e)), (3, .int (nI (by2 f p0))), (4, .int (nI p)), (5, .int (nI i))], [.int ((nI p0) + 2)], M1)) rfl rfl rfl ?_
            rw [nI_add1 (p := p0) (k := 2) (x := 2) rfl (by omega)]
            show pl _ _ _ (_, [(0, .ref m0), (1, .int (nI p0)), (2, .int (nI e)), (3, .int (nI (by2 f p0))), (4, .int (nI p)), (5, .int (nI i))], [.int (nI (p0 + 2))], M1) _
            refine ps_st (S' := (97, [(4, .int (nI (p0 + 2))), (0, .ref m0), (1, .int (nI p0)), (2, .int (nI e)), (3, .int (nI (by2 f p0))), (5, .int (nI i))], [], M1)) rfl rfl rfl ?_
            refine ps_st (S' := (98, [(4, .int (nI (p0 + 2))), (0, .ref m0), (1, .int (nI p0)), (2, .int (nI e)), (3, .int (nI (by2 f p0))), (5, .int (nI i))], [.int 0], M1)) rfl rfl rfl ?_
            refine ps_st (S' := (100, [(0, .ref m0), (1, .int (nI p0)), (3, .int (nI (by2 f p0))), (4, .int (nI (p0 + 2))), (5, .int 0)], [], M1)) rfl rfl rfl ?_
            exact ih.2.1 (0) (p0 + 2) M1 I1 R1 hR1 hEI1 hER1 hl51 hl52 hl53 hF1 hY1 hP1 (by
                rw [fe_6 h2, ← hs, show by2 f p0 - i = 0 by omega, show p = e by omega]
                rfl) (by omega) (by omega) (by
                rw [show by2 f p0 - 0 = by2 f p0 from rfl, ← hs, show by2 f p0 - i = 0 by omega, show p = e by omega]
                rfl) (rfl)
          · have c_86 : ¬ ((nI p) = (nI e)) := of_decide_eq_false c_86
            have n_86 : ¬ (p = e) := fun h9 => c_86 ((eq_nI (p := p) (n := e) (by omega) (by omega)).mpr h9)
            refine ps_st (S' := (91, [(0, .ref m0), (1, .int (nI p0)), (2, .int (nI e)), (3, .int (nI (by2 f p0))), (4, .int (nI p)), (5, .int (nI i))], [.int 30], M1)) rfl rfl rfl ?_
            exact ps_ret rfl rfl (Or.inl ⟨I1, R1, by
                rw [fe_6 h2, ← hs]
                rw [show by2 f p0 - i = 0 by omega]
                exact fun h9 => n_86 (Option.some.inj h9), rfl, hR1, hEI1, hER1⟩)
        · have c_27 : ¬ ((nI (by2 f p0)) ≤ (nI i)) := of_decide_eq_false c_27
          have n_27 : ¬ (by2 f p0 ≤ i) := fun h9 => c_27 ((le_nI (p := by2 f p0) (n := i) (Nat.lt_trans (by2_lt _ _) (by decide)) (by omega)).mpr h9)
          refine ps_st (S' := (32, [(0, .ref m0), (1, .int (nI p0)), (2, .int (nI e)), (3, .int (nI (by2 f p0))), (4, .int (nI p)), (5, .int (nI i))], [.int (nI p)], M1)) rfl rfl rfl ?_
          refine ps_st (S' := (33, [(0, .ref m0), (1, .int (nI p0)), (2, .int (nI e)), (3, .int (nI (by2 f p0))), (4, .int (nI p)), (5, .int (nI i))], [.int 4, .int (nI p)], M1)) rfl rfl rfl ?_
          refine ps_st (S' := (34, [(0, .ref m0), (1, .int (nI p0)), (2, .int (nI e)), (3, .int (nI (by2 f p0))), (4, .int (nI p)), (5, .int (nI i))], [.int ((nI p) + 4)], M1)) rfl rfl rfl ?_
          rw [nI_add1 (p := p) (k := 4) (x := 4) rfl (by omega)]
          show pl _ _ _ (_, [(0, .ref m0), (1, .int (nI p0)), (2, .int (nI e)), (3, .int (nI (by2 f p0))), (4, .int (nI p)), (5, .int (nI i))], [.int (nI (p + 4))], M1) _
          refine ps_st (S' := (35, [(0, .ref m0), (1, .int (nI p0)), (2, .int (nI e)), (3, .int (nI (by2 f p0))), (4, .int (nI p)), (5, .int (nI i))], [.int (nI e), .int (nI (p + 4))], M1)) rfl rfl rfl ?_
          refine ps_if2 (S1 := (57, [], [], M1)) (S2 := (38, [(0, .ref m0), (1, .int (nI p0)), (2, .int (nI e)), (3, .int (nI (by2 f p0))), (4, .int (nI p)), (5, .int (nI i))], [], M1)) rfl rfl rfl (fun c_35 => ?_) (fun c_35 => ?_)
          · have c_35 : (nI e) < (nI (p + 4)) := of_decide_eq_true c_35
            have n_35 : e < p + 4 := (lt_nI (p := e) (n := p + 4) (by omega) (by omega)).mp c_35
            refine ps_st (S' := (59, [], [.int 30], M1)) rfl rfl rfl ?_
            exact ps_ret rfl rfl (Or.inl ⟨I1, R1, by
                rw [fe_6 h2, ← hs]
                rw [s_bsE_st (i := i) (p := p) (by omega), if_pos (by omega)]
                exact (fun h9 => (by cases h9)), rfl, hR1, hEI1, hER1⟩)
          · have c_35 : ¬ ((nI e) < (nI (p + 4))) := of_decide_eq_false c_35
            have n_35 : ¬ (e < p + 4) := fun h9 => c_35 ((lt_nI (p := e) (n := p + 4) (by omega) (by omega)).mpr h9)
            refine ps_st (S' := (40, [(0, .ref m0), (1, .int (nI p0)), (2, .int (nI e)), (3, .int (nI (by2 f p0))), (4, .int (nI p)), (5, .int (nI i))], [.int (nI p)], M1)) rfl rfl rfl ?_
            refine ps_st (S' := (41, [(0, .ref m0), (1, .int (nI p0)), (2, .int (nI e)), (3, .int (nI (by2 f p0))), (4, .int (nI p)), (5, .int (nI i))], [.int 4, .int (nI p)], M1)) rfl rfl rfl ?_
            refine ps_st (S' := (42, [(0, .ref m0), (1, .int (nI p0)), (2, .int (nI e)), (3, .int (nI (by2 f p0))), (4, .int (nI p)), (5, .int (nI i))], [.int ((nI p) + 4)], M1)) rfl rfl rfl ?_
            rw [nI_add1 (p := p) (k := 4) (x := 4) rfl (by omega)]
            show pl _ _ _ (_, [(0, .ref m0), (1, .int (nI p0)), (2, .int (nI e)), (3, .int (nI (by2 f p0))), (4, .int (nI p)), (5, .int (nI i))], [.int (nI (p + 4))], M1) _
            refine ps_st (S' := (43, [(0, .ref m0), (1, .int (nI p0)), (2, .int (nI e)), (3, .int (nI (by2 f p0))), (4, .int (nI p)), (5, .int (nI i))], [.int 2, .int (nI (p + 4))], M1)) rfl rfl rfl ?_
            refine ps_st (S' := (44, [(0, .ref m0), (1, .int (nI p0)), (2, .int (nI e)), (3, .int (nI (by2 f p0))), (4, .int (nI p)), (5, .int (nI i))], [.ref m0, .int 2, .int (nI (p + 4))], M1)) rfl rfl rfl ?_
            refine ps_st (S' := (46, [(0, .ref m0), (1, .int (nI p0)), (2, .int (nI e)), (3, .int (nI (by2 f p0))), (4, .int (nI p)), (5, .int (nI i))], [.int (nI p), .ref m0, .int 2, .int (nI (p + 4))], M1)) rfl rfl rfl ?_
            refine ps_st (S' := (47, [(0, .ref m0), (1, .int (nI p0)), (2, .int (nI e)), (3, .int (nI (by2 f p0))), (4, .int (nI p)), (5, .int (nI i))], [.int 2, .int (nI p), .ref m0, .int 2, .int (nI (p + 4))], M1)) rfl rfl rfl ?_
            refine ps_st (S' := (48, [(0, .ref m0), (1, .int (nI p0)), (2, .int (nI e)), (3, .int (nI (by2 f p0))), (4, .int (nI p)), (5, .int (nI i))], [.int ((nI p) + 2), .ref m0, .int 2, .int (nI (p + 4))], M1)) rfl rfl rfl ?_
            rw [nI_add1 (p := p) (k := 2) (x := 2) rfl (by omega)]
            show pl _ _ _ (_, [(0, .ref m0), (1, .int (nI p0)), (2, .int (nI e)), (3, .int (nI (by2 f p0))), (4, .int (nI p)), (5, .int (nI i))], [.int (nI (p + 2)), .ref m0, .int 2, .int (nI (p + 4))], M1) _
            refine pl_call (a := [.ref m0, .int (nI (p + 2))]) (rest := [.int 2, .int (nI (p + 4))]) rfl rfl rfl (rd_u2 (n := n) (f := f) (p := (p + 2)) hR1 hF1 (by omega)) (fun v1 M2 q3 => ?_)
            obtain ⟨rfl, rfl⟩ := q3
            show pl _ _ _ (51, [(0, .ref m0), (1, .int (nI p0)), (2, .int (nI e)), (3, .int (nI (by2 f p0))), (4, .int (nI p)), (5, .int (nI i))], [.int (nI (by2 f (p + 2))), .int 2, .int (nI (p + 4))], M1) _
            have hu_48 := by2_lt f (p + 2)
            refine ps_st (S' := (52, [(0, .ref m0), (1, .int (nI p0)), (2, .int (nI e)), (3, .int (nI (by2 f p0))), (4, .int (nI p)), (5, .int (nI i))], [.int (2 * (nI (by2 f (p + 2)))), .int (nI (p + 4))], M1)) rfl rfl rfl ?_
            rw [nI_mul1 (p := 2) (k := by2 f (p + 2)) (x := 2) (y := (nI (by2 f (p + 2)))) rfl rfl (by omega)]
            show pl _ _ _ (_, [(0, .ref m0), (1, .int (nI p0)), (2, .int (nI e)), (3, .int (nI (by2 f p0))), (4, .int (nI p)), (5, .int (nI i))], [.int (nI (2 * (by2 f (p + 2)))), .int (nI (p + 4))], M1) _
            refine ps_st (S' := (53, [(0, .ref m0), (1, .int (nI p0)), (2, .int (nI e)), (3, .int (nI (by2 f p0))), (4, .int (nI p)), (5, .int (nI i))], [.int ((nI (p + 4)) + (nI (2 * (by2 f (p + 2)))))], M1)) rfl rfl rfl ?_
            rw [nI_add1 (p := p + 4) (k := 2 * (by2 f (p + 2))) (x := (nI (2 * (by2 f (p + 2))))) rfl (by omega)]
            show pl _ _ _ (_, [(0, .ref m0), (1, .int (nI p0)), (2, .int (nI e)), (3, .int (nI (by2 f p0))), (4, .int (nI p)), (5, .int (nI i))], [.int (nI (p + 4 + 2 * (by2 f (p + 2))))], M1) _
            refine ps_st (S' := (54, [(0, .ref m0), (1, .int (nI p0)), (2, .int (nI e)), (3, .int (nI (by2 f p0))), (4, .int (nI p)), (5, .int (nI i))], [.int (nI e), .int (nI (p + 4 + 2 * (by2 f (p + 2))))], M1)) rfl rfl rfl ?_
            refine ps_if2 (S1 := (60, [(0, .ref m0), (1, .int (nI p0)), (2, .int (nI e)), (3, .int (nI (by2 f p0))), (4, .int (nI p)), (5, .int (nI i))], [], M1)) (S2 := (57, [], [], M1)) rfl rfl rfl (fun c_54 => ?_) (fun c_54 => ?_)
            · have c_54 : (nI (p + 4 + 2 * (by2 f (p + 2)))) ≤ (nI e) := of_decide_eq_true c_54
              have n_54 : p + 4 + 2 * (by2 f (p + 2)) ≤ e := (le_nI (p := p + 4 + 2 * (by2 f (p + 2))) (n := e) (by omega) (by omega)).mp c_54
              refine ps_st (S' := (62, [(0, .ref m0), (1, .int (nI p0)), (2, .int (nI e)), (3, .int (nI (by2 f p0))), (4, .int (nI p)), (5, .int (nI i))], [.int (nI p)], M1)) rfl rfl rfl ?_
              refine ps_st (S' := (63, [(0, .ref m0), (1, .int (nI p0)), (2, .int (nI e)), (3, .int (nI (by2 f p0))), (4, .int (nI p)), (5, .int (nI i))], [.int 4, .int (nI p)], M1)) rfl rfl rfl ?_
              refine ps_st (S' := (64, [(0, .ref m0), (1, .int (nI p0)), (2, .int (nI e)), (3, .int (nI (by2 f p0))), (4, .int (nI p)), (5, .int (nI i))], [.int 2, .int 4, .int (nI p)], M1)) rfl rfl rfl ?_
              refine ps_st (S' := (65, [(0, .ref m0), (1, .int (nI p0)), (2, .int (nI e)), (3, .int (nI (by2 f p0))), (4, .int (nI p)), (5, .int (nI i))], [.ref m0, .int 2, .int 4, .int (nI p)], M1)) rfl rfl rfl ?_
              refine ps_st (S' := (67, [(0, .ref m0), (1, .int (nI p0)), (2, .int (nI e)), (3, .int (nI (by2 f p0))), (4, .int (nI p)), (5, .int (nI i))], [.int (nI p), .ref m0, .int 2, .int 4, .int (nI p)], M1)) rfl rfl rfl ?_
              refine ps_st (S' := (68, [(0, .ref m0), (1, .int (nI p0)), (2, .int (nI e)), (3, .int (nI (by2 f p0))), (4, .int (nI p)), (5, .int (nI i))], [.int 2, .int (nI p), .ref m0, .int 2, .int 4, .int (nI p)], M1)) rfl rfl rfl ?_
              refine ps_st (S' := (69, [(0, .ref m0), (1, .int (nI p0)), (2, .int (nI e)), (3, .int (nI (by2 f p0))), (4, .int (nI p)), (5, .int (nI i))], [.int ((nI p) + 2), .ref m0, .int 2, .int 4, .int (nI p)], M1)) rfl rfl rfl ?_
              rw [nI_add1 (p := p) (k := 2) (x := 2) rfl (by omega)]
              show pl _ _ _ (_, [(0, .ref m0), (1, .int (nI p0)), (2, .int (nI e)), (3, .int (nI (by2 f p0))), (4, .int (nI p)), (5, .int (nI i))], [.int (nI (p + 2)), .ref m0, .int 2, .int 4, .int (nI p)], M1) _
              refine pl_call (a := [.ref m0, .int (nI (p + 2))]) (rest := [.int 2, .int 4, .int (nI p)]) rfl rfl rfl (rd_u2 (n := n) (f := f) (p := (p + 2)) hR1 hF1 (by omega)) (fun v4 M5 q6 => ?_)
              obtain ⟨rfl, rfl⟩ := q6
              show pl _ _ _ (72, [(0, .ref m0), (1, .int (nI p0)), (2, .int (nI e)), (3, .int (nI (by2 f p0))), (4, .int (nI p)), (5, .int (nI i))], [.int (nI (by2 f (p + 2))), .int 2, .int 4, .int (nI p)], M1) _
              have hu_69 := by2_lt f (p + 2)
              refine ps_st (S' := (73, [(0, .ref m0), (1, .int (nI p0)), (2, .int (nI e)), (3, .int (nI (by2 f p0))), (4, .int (nI p)), (5, .int (nI i))], [.int (2 * (nI (by2 f (p + 2)))), .int 4, .int (nI p)], M1)) rfl rfl rfl ?_
              rw [nI_mul1 (p := 2) (k := by2 f (p + 2)) (x := 2) (y := (nI (by2 f (p + 2)))) rfl rfl (by omega)]
              show pl _ _ _ (_, [(0, .ref m0), (1, .int (nI p0)), (2, .int (nI e)), (3, .int (nI (by2 f p0))), (4, .int (nI p)), (5, .int (nI i))], [.int (nI (2 * (by2 f (p + 2)))), .int 4, .int (nI p)], M1) _
              refine ps_st (S' := (74, [(0, .ref m0), (1, .int (nI p0)), (2, .int (nI e)), (3, .int (nI (by2 f p0))), (4, .int (nI p)), (5, .int (nI i))], [.int (4 + (nI (2 * (by2 f (p + 2))))), .int (nI p)], M1)) rfl rfl rfl ?_
              rw [nI_add2 (p := 4) (k := 2 * (by2 f (p + 2))) (x := 4) (y := (nI (2 * (by2 f (p + 2))))) rfl rfl (by omega)]
              show pl _ _ _ (_, [(0, .ref m0), (1, .int (nI p0)), (2, .int (nI e)), (3, .int (nI (by2 f p0))), (4, .int (nI p)), (5, .int (nI i))], [.int (nI (4 + 2 * (by2 f (p + 2)))), .int (nI p)], M1) _
              refine ps_st (S' := (75, [(0, .ref m0), (1, .int (nI p0)), (2, .int (nI e)), (3, .int (nI (by2 f p0))), (4, .int (nI p)), (5, .int (nI i))], [.int ((nI p) + (nI (4 + 2 * (by2 f (p + 2)))))], M1)) rfl rfl rfl ?_
              rw [nI_add1 (p := p) (k := 4 + 2 * (by2 f (p + 2))) (x := (nI (4 + 2 * (by2 f (p + 2))))) rfl (by omega)]
              rw [show nI (p + (4 + 2 * (by2 f (p + 2)))) = nI (p + 4 + 2 * (by2 f (p + 2))) from congrArg nI (by omega)]
              show pl _ _ _ (_, [(0, .ref m0), (1, .int (nI p0)), (2, .int (nI e)), (3, .int (nI (by2 f p0))), (4, .int (nI p)), (5, .int (nI i))], [.int (nI (p + 4 + 2 * (by2 f (p + 2))))], M1) _
              refine ps_st (S' := (77, [(4, .int (nI (p + 4 + 2 * (by2 f (p + 2))))), (0, .ref m0), (1, .int (nI p0)), (2, .int (nI e)), (3, .int (nI (by2 f p0))), (5, .int (nI i))], [], M1)) rfl rfl rfl ?_
              refine ps_st (S' := (80, [(5, .int ((nI i) + 1)), (4, .int (nI (p + 4 + 2 * (by2 f (p + 2))))), (0, .ref m0), (1, .int (nI p0)), (2, .int (nI e)), (3, .int (nI (by2 f p0)))], [], M1)) rfl rfl rfl ?_
              rw [nI_add1 (p := i) (k := 1) (x := 1) rfl (by omega)]
              show pl _ _ _ (_, [(5, .int (nI (i + 1))), (4, .int (nI (p + 4 + 2 * (by2 f (p + 2))))), (0, .ref m0), (1, .int (nI p0)), (2, .int (nI e)), (3, .int (nI (by2 f p0)))], [], M1) _
              refine ps_st (S' := (24, [(0, .ref m0), (1, .int (nI p0)), (2, .int (nI e)), (3, .int (nI (by2 f p0))), (4, .int (nI (p + 4 + 2 * (by2 f (p + 2))))), (5, .int (nI (i + 1)))], [], M1)) rfl rfl rfl ?_
              exact ih.1 (i + 1) (p + 4 + 2 * by2 f (p + 2)) M1 I1 R1 hR1 hEI1 hER1 hl51 hl52 hl53 hF1 hY1 hP1 (h2) (by omega) (by omega) (by
                  rw [← hs, s_bsE_st (i := i) (p := p) (by omega), if_neg (by omega)])
            · have c_54 : ¬ ((nI (p + 4 + 2 * (by2 f (p + 2)))) ≤ (nI e)) := of_decide_eq_false c_54
              have n_54 : ¬ (p + 4 + 2 * (by2 f (p + 2)) ≤ e) := fun h9 => c_54 ((le_nI (p := p + 4 + 2 * (by2 f (p + 2))) (n := e) (by omega) (by omega)).mpr h9)
              refine ps_st (S' := (59, [], [.int 30], M1)) rfl rfl rfl ?_
              exact ps_ret rfl rfl (Or.inl ⟨I1, R1, by
                  rw [fe_6 h2, ← hs]
                  rw [s_bsE_st (i := i) (p := p) (by omega), if_neg (by omega)]
                  exact (fun h9 => (by have := s_bsE_le h9; omega)), rfl, hR1, hEI1, hER1⟩)
      · skip
        intro i p M1 I1 R1 hR1 hEI1 hER1 hl51 hl52 hl53 hF1 hY1 hP1 hfe hi hp hf hs
        have hn := hF1.1
        have hu9 := by2_lt f p0
        refine ps_st1 (S' := (102, [(0, .ref m0), (1, .int (nI p0)), (3, .int (nI (by2 f p0))), (4, .int (nI p)), (5, .int (nI i))], [.int (nI i)], M1)) rfl rfl rfl ?_
        refine ps_st (S' := (103, [(0, .ref m0), (1, .int (nI p0)), (3, .int (nI (by2 f p0))), (4, .int (nI p)), (5, .int (nI i))], [.int (nI (by2 f p0)), .int (nI i)], M1)) rfl rfl rfl ?_
        refine ps_if2 (S1 := (218, [(0, .ref m0), (1, .int (nI p0)), (3, .int (nI (by2 f p0))), (4, .int (nI p)), (5, .int (nI i))], [], M1)) (S2 := (106, [(0, .ref m0), (1, .int (nI p0)), (3, .int (nI (by2 f p0))), (4, .int (nI p)), (5, .int (nI i))], [], M1)) rfl rfl rfl (fun c_103 => ?_) (fun c_103 => ?_)
        · have c_103 : (nI (by2 f p0)) ≤ (nI i) := of_decide_eq_true c_103
          have n_103 : by2 f p0 ≤ i := (le_nI (p := by2 f p0) (n := i) (Nat.lt_trans (by2_lt _ _) (by decide)) (by omega)).mp c_103
          refine ps_st (S' := (219, [(0, .ref m0), (1, .int (nI p0)), (3, .int (nI (by2 f p0))), (4, .int (nI p)), (5, .int (nI i))], [.ref m0], M1)) rfl rfl rfl ?_
          refine ps_st (S' := (220, [(0, .ref m0), (1, .int (nI p0)), (3, .int (nI (by2 f p0))), (4, .int (nI p)), (5, .int (nI i))], [.int (nI p0), .ref m0], M1)) rfl rfl rfl ?_
          refine pr_put (j := 70) rfl hR1 rfl (fun M7 I8 hR9 hi10 hI11 => ?_)
          have hi12 := (hI11 51 (by decide)).trans hl51
          have hi13 := (hI11 52 (by decide)).trans hl52
          have hi14 := (hI11 53 (by decide)).trans hl53
          have hF_15 := hF1.mono (pIx hI11 (by decide)) (fun _ _ => rfl)
          have hY_16 := hY1.mono (pIx hI11 (by decide)) (fun _ _ => rfl)
          have hP_17 := hP1.mono (pIx hI11 (by decide)) (fun _ _ => rfl)
          have hEI18 := hEI1.put hI11 (by decide)
          show pl _ _ _ (223, [(0, .ref m0), (1, .int (nI p0)), (3, .int (nI (by2 f p0))), (4, .int (nI p)), (5, .int (nI i))], [], M7) _
          refine ps_st (S' := (224, [(0, .ref m0), (1, .int (nI p0)), (3, .int (nI (by2 f p0))), (4, .int (nI p)), (5, .int (nI i))], [.ref m0], M7)) rfl rfl rfl ?_
          refine ps_st (S' := (225, [(0, .ref m0), (1, .int (nI p0)), (3, .int (nI (by2 f p0))), (4, .int (nI p)), (5, .int (nI i))], [.int (nI (by2 f p0)), .ref m0], M7)) rfl rfl rfl ?_
          refine pr_put (j := 71) rfl hR9 rfl (fun M19 I20 hR21 hi22 hI23 => ?_)
          have hi24 := (hI23 51 (by decide)).trans hi12
          have hi25 := (hI23 52 (by decide)).trans hi13
          have hi26 := (hI23 53 (by decide)).trans hi14
          have hi27 := (hI23 70 (by decide)).trans hi10
          have hF_28 := hF_15.mono (pIx hI23 (by decide)) (fun _ _ => rfl)
          have hY_29 := hY_16.mono (pIx hI23 (by decide)) (fun _ _ => rfl)
          have hP_30 := hP_17.mono (pIx hI23 (by decide)) (fun _ _ => rfl)
          have hEI31 := hEI18.put hI23 (by decide)
          show pl _ _ _ (228, [(0, .ref m0), (1, .int (nI p0)), (3, .int (nI (by2 f p0))), (4, .int (nI p)), (5, .int (nI i))], [], M19) _
          refine ps_st (S' := (229, [(0, .ref m0), (1, .int (nI p0)), (3, .int (nI (by2 f p0))), (4, .int (nI p)), (5, .int (nI i))], [.int 0], M19)) rfl rfl rfl ?_
          exact ps_ret rfl rfl (Or.inr (Or.inr ⟨I20, R1, hfe, by
              rw [← hs, show by2 f p0 - i = 0 by omega]
              exact Nat.one_ne_zero, rfl, hR21, hEI31, hER1, hi22, hi27⟩))
        · have c_103 : ¬ ((nI (by2 f p0)) ≤ (nI i)) := of_decide_eq_false c_103
          have n_103 : ¬ (by2 f p0 ≤ i) := fun h9 => c_103 ((le_nI (p := by2 f p0) (n := i) (Nat.lt_trans (by2_lt _ _) (by decide)) (by omega)).mpr h9)
          have hq8 := s_bsE_in (i := i) (p := p) hf (by omega)
          refine ps_st (S' := (107, [(0, .ref m0), (1, .int (nI p0)), (3, .int (nI (by2 f p0))), (4, .int (nI p)), (5, .int (nI i))], [.ref m0], M1)) rfl rfl rfl ?_
          refine ps_st (S' := (108, [(0, .ref m0), (1, .int (nI p0)), (3, .int (nI (by2 f p0))), (4, .int (nI p)), (5, .int (nI i))], [.ref m0, .ref m0], M1)) rfl rfl rfl ?_
          refine ps_st (S' := (110, [(0, .ref m0), (1, .int (nI p0)), (3, .int (nI (by2 f p0))), (4, .int (nI p)), (5, .int (nI i))], [.int (nI p), .ref m0, .ref m0], M1)) rfl rfl rfl ?_
          refine pl_call (a := [.ref m0, .int (nI p)]) (rest := [.ref m0]) rfl rfl rfl (rd_u2 (n := n) (f := f) (p := p) hR1 hF1 (by omega)) (fun v32 M33 q34 => ?_)
          obtain ⟨rfl, rfl⟩ := q34
          show pl _ _ _ (113, [(0, .ref m0), (1, .int (nI p0)), (3, .int (nI (by2 f p0))), (4, .int (nI p)), (5, .int (nI i))], [.int (nI (by2 f p)), .ref m0], M1) _
          have hu_110 := by2_lt f p
          refine pl_call (a := [.ref m0, .int (nI (by2 f p))]) (rest := []) rfl rfl rfl (rd_tag (n := n) (f := f) (tx := tx) (cN := cN) (A := A) (N := N) (mj := mj) (E := E) (k := (by2 f p)) hR1 hl51 hl52 hl53 hF1 hY1 hP1 (hEP) (hN) (hmj) (by2_lt _ _)) (fun v35 M36 q37 => ?_)
          obtain ⟨rfl, rfl⟩ := q37
          show pl _ _ _ (116, [(0, .ref m0), (1, .int (nI p0)), (3, .int (nI (by2 f p0))), (4, .int (nI p)), (5, .int (nI i))], [.int (nI (tg f E (by2 f p)))], M1) _
          have htg_113 := tg_lt f E (by2 f p)
          refine ps_st (S' := (118, [(0, .ref m0), (1, .int (nI p0)), (3, .int (nI (by2 f p0))), (4, .int (nI p)), (5, .int (nI i))], [.int 15, .int (nI (tg f E (by2 f p)))], M1)) rfl rfl rfl ?_
          refine ps_if2 (S1 := (124, [(0, .ref m0), (1, .int (nI p0)), (3, .int (nI (by2 f p0))), (4, .int (nI p)), (5, .int (nI i))], [], M1)) (S2 := (121, [(0, .ref m0), (1, .int (nI p0)), (3, .int (nI (by2 f p0))), (4, .int (nI p)), (5, .int (nI i))], [], M1)) rfl rfl rfl (fun c_118 => ?_) (fun c_118 => ?_)
          · have c_118 : (nI (tg f E (by2 f p))) = 15 := of_decide_eq_true c_118
            have n_118 : tg f E (by2 f p) = 15 := (eq_nI (p := tg f E (by2 f p)) (n := 15) (Nat.lt_trans (tg_lt _ _ _) (by decide)) (by decide)).mp c_118
            refine ps_st (S' := (125, [(0, .ref m0), (1, .int (nI p0)), (3, .int (nI (by2 f p0))), (4, .int (nI p)), (5, .int (nI i))], [.int 0], M1)) rfl rfl rfl ?_
            refine ps_st (S' := (127, [(0, .ref m0), (1, .int (nI p0)), (3, .int (nI (by2 f p0))), (4, .int (nI p)), (5, .int (nI i)), (6, .int 0)], [], M1)) rfl rfl rfl ?_
            exact ih.2.2 (i) (p) (0) M1 I1 R1 hR1 hEI1 hER1 hl51 hl52 hl53 hF1 hY1 hP1 (hfe) (by omega) (by omega) (hq8.2.1) (hq8.2.2) (by omega) (hs) (rfl)
          · have c_118 : ¬ ((nI (tg f E (by2 f p))) = 15) := of_decide_eq_false c_118
            have n_118 : ¬ (tg f E (by2 f p) = 15) := fun h9 => c_118 ((eq_nI (p := tg f E (by2 f p)) (n := 15) (Nat.lt_trans (tg_lt _ _ _) (by decide)) (by decide)).mpr h9)
            refine ps_st (S' := (123, [(0, .ref m0), (1, .int (nI p0)), (3, .int (nI (by2 f p0))), (4, .int (nI p)), (5, .int (nI i))], [.int 38], M1)) rfl rfl rfl ?_
            exact ps_ret rfl rfl (Or.inr (Or.inl ⟨I1, R1, hfe, by
                rw [← hs, bsA_st (i := i) (p := p) (by omega), if_pos (by omega)], rfl, hR1, hEI1, hER1⟩))
      · skip
        intro i p j M1 I1 R1 hR1 hEI1 hER1 hl51 hl52 hl53 hF1 hY1 hP1 hfe hi hj hle hf2 h15 hs hd
        have hn := hF1.1
        have hu9 := by2_lt f p0
        have hu8 := by2_lt f (p + 2)
        refine ps_st1 (S' := (129, [(0, .ref m0), (1, .int (nI p0)), (3, .int (nI (by2 f p0))), (4, .int (nI p)), (5, .int (nI i)), (6, .int (nI j))], [.int (nI j)], M1)) rfl rfl rfl ?_
        refine ps_st (S' := (130, [(0, .ref m0), (1, .int (nI p0)), (3, .int (nI (by2 f p0))), (4, .int (nI p)), (5, .int (nI i)), (6, .int (nI j))], [.ref m0, .int (nI j)], M1)) rfl rfl rfl ?_
        refine ps_st (S' := (132, [(0, .ref m0), (1, .int (nI p0)), (3, .int (nI (by2 f p0))), (4, .int (nI p)), (5, .int (nI i)), (6, .int (nI j))], [.int (nI p), .ref m0, .int (nI j)], M1)) rfl rfl rfl ?_
        refine ps_st (S' := (133, [(0, .ref m0), (1, .int (nI p0)), (3, .int (nI (by2 f p0))), (4, .int (nI p)), (5, .int (nI i)), (6, .int (nI j))], [.int 2, .int (nI p), .ref m0, .int (nI j)], M1)) rfl rfl rfl ?_
        refine ps_st (S' := (134, [(0, .ref m0), (1, .int (nI p0)), (3, .int (nI (by2 f p0))), (4, .int (nI p)), (5, .int (nI i)), (6, .int (nI j))], [.int ((nI p) + 2), .ref m0, .int (nI j)], M1)) rfl rfl rfl ?_
        rw [nI_add1 (p := p) (k := 2) (x := 2) rfl (by omega)]
        show pl _ _ _ (_, [(0, .ref m0), (1, .int (nI p0)), (3, .int (nI (by2 f p0))), (4, .int (nI p)), (5, .int (nI i)), (6, .int (nI j))], [.int (nI (p + 2)), .ref m0, .int (nI j)], M1) _
        refine pl_call (a := [.ref m0, .int (nI (p + 2))]) (rest := [.int (nI j)]) rfl rfl rfl (rd_u2 (n := n) (f := f) (p := (p + 2)) hR1 hF1 (by omega)) (fun v38 M39 q40 => ?_)
        obtain ⟨rfl, rfl⟩ := q40
        show pl _ _ _ (137, [(0, .ref m0), (1, .int (nI p0)), (3, .int (nI (by2 f p0))), (4, .int (nI p)), (5, .int (nI i)), (6, .int (nI j))], [.int (nI (by2 f (p + 2))), .int (nI j)], M1) _
        have hu_134 := by2_lt f (p + 2)
        refine ps_if2 (S1 := (195, [(0, .ref m0), (1, .int (nI p0)), (3, .int (nI (by2 f p0))), (4, .int (nI p)), (5, .int (nI i)), (6, .int (nI j))], [], M1)) (S2 := (140, [(0, .ref m0), (1, .int (nI p0)), (3, .int (nI (by2 f p0))), (4, .int (nI p)), (5, .int (nI i)), (6, .int (nI j))], [], M1)) rfl rfl rfl (fun c_137 => ?_) (fun c_137 => ?_)
        · have c_137 : (nI (by2 f (p + 2))) ≤ (nI j) := of_decide_eq_true c_137
          have n_137 : by2 f (p + 2) ≤ j := (le_nI (p := by2 f (p + 2)) (n := j) (Nat.lt_trans (by2_lt _ _) (by decide)) (by omega)).mp c_137
          refine ps_st (S' := (197, [(0, .ref m0), (1, .int (nI p0)), (3, .int (nI (by2 f p0))), (4, .int (nI p)), (5, .int (nI i)), (6, .int (nI j))], [.int (nI p)], M1)) rfl rfl rfl ?_
          refine ps_st (S' := (198, [(0, .ref m0), (1, .int (nI p0)), (3, .int (nI (by2 f p0))), (4, .int (nI p)), (5, .int (nI i)), (6, .int (nI j))], [.int 4, .int (nI p)], M1)) rfl rfl rfl ?_
          refine ps_st (S' := (199, [(0, .ref m0), (1, .int (nI p0)), (3, .int (nI (by2 f p0))), (4, .int (nI p)), (5, .int (nI i)), (6, .int (nI j))], [.int 2, .int 4, .int (nI p)], M1)) rfl rfl rfl ?_
          refine ps_st (S' := (200, [(0, .ref m0), (1, .int (nI p0)), (3, .int (nI (by2 f p0))), (4, .int (nI p)), (5, .int (nI i)), (6, .int (nI j))], [.ref m0, .int 2, .int 4, .int (nI p)], M1)) rfl rfl rfl ?_
          refine ps_st (S' := (202, [(0, .ref m0), (1, .int (nI p0)), (3, .int (nI (by2 f p0))), (4, .int (nI p)), (5, .int (nI i)), (6, .int (nI j))], [.int (nI p), .ref m0, .int 2, .int 4, .int (nI p)], M1)) rfl rfl rfl ?_
          refine ps_st (S' := (203, [(0, .ref m0), (1, .int (nI p0)), (3, .int (nI (by2 f p0))), (4, .int (nI p)), (5, .int (nI i)), (6, .int (nI j))], [.int 2, .int (nI p), .ref m0, .int 2, .int 4, .int (nI p)], M1)) rfl rfl rfl ?_
          refine ps_st (S' := (204, [(0, .ref m0), (1, .int (nI p0)), (3, .int (nI (by2 f p0))), (4, .int (nI p)), (5, .int (nI i)), (6, .int (nI j))], [.int ((nI p) + 2), .ref m0, .int 2, .int 4, .int (nI p)], M1)) rfl rfl rfl ?_
          rw [nI_add1 (p := p) (k := 2) (x := 2) rfl (by omega)]
          show pl _ _ _ (_, [(0, .ref m0), (1, .int (nI p0)), (3, .int (nI (by2 f p0))), (4, .int (nI p)), (5, .int (nI i)), (6, .int (nI j))], [.int (nI (p + 2)), .ref m0, .int 2, .int 4, .int (nI p)], M1) _
          refine pl_call (a := [.ref m0, .int (nI (p + 2))]) (rest := [.int 2, .int 4, .int (nI p)]) rfl rfl rfl (rd_u2 (n := n) (f := f) (p := (p + 2)) hR1 hF1 (by omega)) (fun v41 M42 q43 => ?_)
          obtain ⟨rfl, rfl⟩ := q43
          show pl _ _ _ (207, [(0, .ref m0), (1, .int (nI p0)), (3, .int (nI (by2 f p0))), (4, .int (nI p)), (5, .int (nI i)), (6, .int (nI j))], [.int (nI (by2 f (p + 2))), .int 2, .int 4, .int (nI p)], M1) _
          have hu_204 := by2_lt f (p + 2)
          refine ps_st (S' := (208, [(0, .ref m0), (1, .int (nI p0)), (3, .int (nI (by2 f p0))), (4, .int (nI p)), (5, .int (nI i)), (6, .int (nI j))], [.int (2 * (nI (by2 f (p + 2)))), .int 4, .int (nI p)], M1)) rfl rfl rfl ?_
          rw [nI_mul1 (p := 2) (k := by2 f (p + 2)) (x := 2) (y := (nI (by2 f (p + 2)))) rfl rfl (by omega)]
          show pl _ _ _ (_, [(0, .ref m0), (1, .int (nI p0)), (3, .int (nI (by2 f p0))), (4, .int (nI p)), (5, .int (nI i)), (6, .int (nI j))], [.int (nI (2 * (by2 f (p + 2)))), .int 4, .int (nI p)], M1) _
          refine ps_st (S' := (209, [(0, .ref m0), (1, .int (nI p0)), (3, .int (nI (by2 f p0))), (4, .int (nI p)), (5, .int (nI i)), (6, .int (nI j))], [.int (4 + (nI (2 * (by2 f (p + 2))))), .int (nI p)], M1)) rfl rfl rfl ?_
          rw [nI_add2 (p := 4) (k := 2 * (by2 f (p + 2))) (x := 4) (y := (nI (2 * (by2 f (p + 2))))) rfl rfl (by omega)]
          show pl _ _ _ (_, [(0, .ref m0), (1, .int (nI p0)), (3, .int (nI (by2 f p0))), (4, .int (nI p)), (5, .int (nI i)), (6, .int (nI j))], [.int (nI (4 + 2 * (by2 f (p + 2)))), .int (nI p)], M1) _
          refine ps_st (S' := (210, [(0, .ref m0), (1, .int (nI p0)), (3, .int (nI (by2 f p0))), (4, .int (nI p)), (5, .int (nI i)), (6, .int (nI j))], [.int ((nI p) + (nI (4 + 2 * (by2 f (p + 2)))))], M1)) rfl rfl rfl ?_
          rw [nI_add1 (p := p) (k := 4 + 2 * (by2 f (p + 2))) (x := (nI (4 + 2 * (by2 f (p + 2))))) rfl (by omega)]
          rw [show nI (p + (4 + 2 * (by2 f (p + 2)))) = nI (p + 4 + 2 * (by2 f (p + 2))) from congrArg nI (by omega)]
          show pl _ _ _ (_, [(0, .ref m0), (1, .int (nI p0)), (3, .int (nI (by2 f p0))), (4, .int (nI p)), (5, .int (nI i)), (6, .int (nI j))], [.int (nI (p + 4 + 2 * (by2 f (p + 2))))], M1) _
          refine ps_st (S' := (212, [(4, .int (nI (p + 4 + 2 * (by2 f (p + 2))))), (0, .ref m0), (1, .int (nI p0)), (3, .int (nI (by2 f p0))), (5, .int (nI i)), (6, .int (nI j))], [], M1)) rfl rfl rfl ?_
          refine ps_st (S' := (215, [(5, .int ((nI i) + 1)), (4, .int (nI (p + 4 + 2 * (by2 f (p + 2))))), (0, .ref m0), (1, .int (nI p0)), (3, .int (nI (by2 f p0))), (6, .int (nI j))], [], M1)) rfl rfl rfl ?_
          rw [nI_add1 (p := i) (k := 1) (x := 1) rfl (by omega)]
          show pl _ _ _ (_, [(5, .int (nI (i + 1))), (4, .int (nI (p + 4 + 2 * (by2 f (p + 2))))), (0, .ref m0), (1, .int (nI p0)), (3, .int (nI (by2 f p0))), (6, .int (nI j))], [], M1) _
          refine ps_st (S' := (100, [(0, .ref m0), (1, .int (nI p0)), (3, .int (nI (by2 f p0))), (4, .int (nI (p + 4 + 2 * (by2 f (p + 2))))), (5, .int (nI (i + 1)))], [], M1)) rfl rfl rfl ?_
          exact ih.2.1 (i + 1) (p + 4 + 2 * by2 f (p + 2)) M1 I1 R1 hR1 hEI1 hER1 hl51 hl52 hl53 hF1 hY1 hP1 (hfe) (by omega) (by omega) (hf2) (by
              rw [← hs, bsA_st (i := i) (p := p) hi, if_neg (by omega), if_neg (by rw [← hd, show by2 f (p + 2) - j = 0 by omega]; exact Nat.one_ne_zero)])
        · have c_137 : ¬ ((nI (by2 f (p + 2))) ≤ (nI j)) := of_decide_eq_false c_137
          have n_137 : ¬ (by2 f (p + 2) ≤ j) := fun h9 => c_137 ((le_nI (p := by2 f (p + 2)) (n := j) (Nat.lt_trans (by2_lt _ _) (by decide)) (by omega)).mpr h9)
          refine ps_st (S' := (141, [(0, .ref m0), (1, .int (nI p0)), (3, .int (nI (by2 f p0))), (4, .int (nI p)), (5, .int (nI i)), (6, .int (nI j))], [.ref m0], M1)) rfl rfl rfl ?_
          refine ps_st (S' := (142, [(0, .ref m0), (1, .int (nI p0)), (3, .int (nI (by2 f p0))), (4, .int (nI p)), (5, .int (nI i)), (6, .int (nI j))], [.ref m0, .ref m0], M1)) rfl rfl rfl ?_
          refine ps_st (S' := (144, [(0, .ref m0), (1, .int (nI p0)), (3, .int (nI (by2 f p0))), (4, .int (nI p)), (5, .int (nI i)), (6, .int (nI j))], [.int (nI p), .ref m0, .ref m0], M1)) rfl rfl rfl ?_
          refine ps_st (S' := (145, [(0, .ref m0), (1, .int (nI p0)), (3, .int (nI (by2 f p0))), (4, .int (nI p)), (5, .int (nI i)), (6, .int (nI j))], [.int 4, .int (nI p), .ref m0, .ref m0], M1)) rfl rfl rfl ?_
          refine ps_st (S' := (146, [(0, .ref m0), (1, .int (nI p0)), (3, .int (nI (by2 f p0))), (4, .int (nI p)), (5, .int (nI i)), (6, .int (nI j))], [.int ((nI p) + 4), .ref m0, .ref m0], M1)) rfl rfl rfl ?_
          rw [nI_add1 (p := p) (k := 4) (x := 4) rfl (by omega)]
          show pl _ _ _ (_, [(0, .ref m0), (1, .int (nI p0)), (3, .int (nI (by2 f p0))), (4, .int (nI p)), (5, .int (nI i)), (6, .int (nI j))], [.int (nI (p + 4)), .ref m0, .ref m0], M1) _
          refine ps_st (S' := (147, [(0, .ref m0), (1, .int (nI p0)), (3, .int (nI (by2 f p0))), (4, .int (nI p)), (5, .int (nI i)), (6, .int (nI j))], [.int 2, .int (nI (p + 4)), .ref m0, .ref m0], M1)) rfl rfl rfl ?_
          refine ps_st (S' := (149, [(0, .ref m0), (1, .int (nI p0)), (3, .int (nI (by2 f p0))), (4, .int (nI p)), (5, .int (nI i)), (6, .int (nI j))], [.int (nI j), .int 2, .int (nI (p + 4)), .ref m0, .ref m0], M1)) rfl rfl rfl ?_
          refine ps_st (S' := (150, [(0, .ref m0), (1, .int (nI p0)), (3, .int (nI (by2 f p0))), (4, .int (nI p)), (5, .int (nI i)), (6, .int (nI j))], [.int (2 * (nI j)), .int (nI (p + 4)), .ref m0, .ref m0], M1)) rfl rfl rfl ?_
          rw [nI_mul1 (p := 2) (k := j) (x := 2) (y := (nI j)) rfl rfl (by omega)]
          show pl _ _ _ (_, [(0, .ref m0), (1, .int (nI p0)), (3, .int (nI (by2 f p0))), (4, .int (nI p)), (5, .int (nI i)), (6, .int (nI j))], [.int (nI (2 * j)), .int (nI (p + 4)), .ref m0, .ref m0], M1) _
          refine ps_st (S' := (151, [(0, .ref m0), (1, .int (nI p0)), (3, .int (nI (by2 f p0))), (4, .int (nI p)), (5, .int (nI i)), (6, .int (nI j))], [.int ((nI (p + 4)) + (nI (2 * j))), .ref m0, .ref m0], M1)) rfl rfl rfl ?_
          rw [nI_add1 (p := p + 4) (k := 2 * j) (x := (nI (2 * j))) rfl (by omega)]
          show pl _ _ _ (_, [(0, .ref m0), (1, .int (nI p0)), (3, .int (nI (by2 f p0))), (4, .int (nI p)), (5, .int (nI i)), (6, .int (nI j))], [.int (nI (p + 4 + 2 * j)), .ref m0, .ref m0], M1) _
          refine pl_call (a := [.ref m0, .int (nI (p + 4 + 2 * j))]) (rest := [.ref m0]) rfl rfl rfl (rd_u2 (n := n) (f := f) (p := (p + 4 + 2 * j)) hR1 hF1 (by omega)) (fun v44 M45 q46 => ?_)
          obtain ⟨rfl, rfl⟩ := q46
          show pl _ _ _ (154, [(0, .ref m0), (1, .int (nI p0)), (3, .int (nI (by2 f p0))), (4, .int (nI p)), (5, .int (nI i)), (6, .int (nI j))], [.int (nI (by2 f (p + 4 + 2 * j))), .ref m0], M1) _
          have hu_151 := by2_lt f (p + 4 + 2 * j)
          refine pl_call (a := [.ref m0, .int (nI (by2 f (p + 4 + 2 * j)))]) (rest := []) rfl rfl rfl (rd_tag (n := n) (f := f) (tx := tx) (cN := cN) (A := A) (N := N) (mj := mj) (E := E) (k := (by2 f (p + 4 + 2 * j))) hR1 hl51 hl52 hl53 hF1 hY1 hP1 (hEP) (hN) (hmj) (by2_lt _ _)) (fun v47 M48 q49 => ?_)
          obtain ⟨rfl, rfl⟩ := q49
          show pl _ _ _ (157, [(0, .ref m0), (1, .int (nI p0)), (3, .int (nI (by2 f p0))), (4, .int (nI p)), (5, .int (nI i)), (6, .int (nI j))], [.int (nI (tg f E (by2 f (p + 4 + 2 * j))))], M1) _
          have htg_154 := tg_lt f E (by2 f (p + 4 + 2 * j))
          refine ps_st (S' := (159, [(7, .int (nI (tg f E (by2 f (p + 4 + 2 * j))))), (0, .ref m0), (1, .int (nI p0)), (3, .int (nI (by2 f p0))), (4, .int (nI p)), (5, .int (nI i)), (6, .int (nI j))], [], M1)) rfl rfl rfl ?_
          refine ps_st (S' := (161, [(7, .int (nI (tg f E (by2 f (p + 4 + 2 * j))))), (0, .ref m0), (1, .int (nI p0)), (3, .int (nI (by2 f p0))), (4, .int (nI p)), (5, .int (nI i)), (6, .int (nI j))], [.int (nI (tg f E (by2 f (p + 4 + 2 * j))))], M1)) rfl rfl rfl ?_
          refine ps_st (S' := (162, [(7, .int (nI (tg f E (by2 f (p + 4 + 2 * j))))), (0, .ref m0), (1, .int (nI p0)), (3, .int (nI (by2 f p0))), (4, .int (nI p)), (5, .int (nI i)), (6, .int (nI j))], [.int 3, .int (nI (tg f E (by2 f (p + 4 + 2 * j))))], M1)) rfl rfl rfl ?_
          refine ps_if2 (S1 := (172, [(0, .ref m0), (1, .int (nI p0)), (3, .int (nI (by2 f p0))), (4, .int (nI p)), (5, .int (nI i)), (6, .int (nI j)), (7, .int (nI (tg f E (by2 f (p + 4 + 2 * j)))))], [], M1)) (S2 := (165, [(7, .int (nI (tg f E (by2 f (p + 4 + 2 * j))))), (0, .ref m0), (1, .int (nI p0)), (3, .int (nI (by2 f p0))), (4, .int (nI p)), (5, .int (nI i)), (6, .int (nI j))], [], M1)) rfl rfl rfl (fun c_162 => ?_) (fun c_162 => ?_)
          · have c_162 : (nI (tg f E (by2 f (p + 4 + 2 * j)))) < 3 := of_decide_eq_true c_162
            have n_162 : tg f E (by2 f (p + 4 + 2 * j)) < 3 := (lt_nI (p := tg f E (by2 f (p + 4 + 2 * j))) (n := 3) (Nat.lt_trans (tg_lt _ _ _) (by decide)) (by decide)).mp c_162
            refine ps_st (S' := (174, [(0, .ref m0), (1, .int (nI p0)), (3, .int (nI (by2 f p0))), (4, .int (nI p)), (5, .int (nI i)), (6, .int (nI j)), (7, .int (nI (tg f E (by2 f (p + 4 + 2 * j)))))], [.int (nI (tg f E (by2 f (p + 4 + 2 * j))))], M1)) rfl rfl rfl ?_
            refine ps_st (S' := (176, [(0, .ref m0), (1, .int (nI p0)), (3, .int (nI (by2 f p0))), (4, .int (nI p)), (5, .int (nI i)), (6, .int (nI j)), (7, .int (nI (tg f E (by2 f (p + 4 + 2 * j)))))], [.int 15, .int (nI (tg f E (by2 f (p + 4 + 2 * j))))], M1)) rfl rfl rfl ?_
            refine ps_if2 (S1 := (186, [], [], M1)) (S2 := (179, [(0, .ref m0), (1, .int (nI p0)), (3, .int (nI (by2 f p0))), (4, .int (nI p)), (5, .int (nI i)), (6, .int (nI j)), (7, .int (nI (tg f E (by2 f (p + 4 + 2 * j)))))], [], M1)) rfl rfl rfl (fun c_176 => ?_) (fun c_176 => ?_)
            rotate_left
            · exact absurd ((lt_nI (p := tg f E (by2 f (p + 4 + 2 * j))) (n := 15) (Nat.lt_trans (tg_lt _ _ _) (by decide)) (by decide)).mpr (by omega)) (of_decide_eq_false c_176)
            refine ps_st (S' := (188, [], [.int 38], M1)) rfl rfl rfl ?_
            exact ps_ret rfl rfl (Or.inr (Or.inl ⟨I1, R1, hfe, by
                rw [← hs, bsA_st (i := i) (p := p) hi, if_neg (by omega), if_pos (by rw [← hd, ldA_st (i := j) (by omega), if_pos (by unfold ldN; rw [if_neg (by omega)])])], rfl, hR1, hEI1, hER1⟩))
          · have c_162 : ¬ ((nI (tg f E (by2 f (p + 4 + 2 * j)))) < 3) := of_decide_eq_false c_162
            have n_162 : ¬ (tg f E (by2 f (p + 4 + 2 * j)) < 3) := fun h9 => c_162 ((lt_nI (p := tg f E (by2 f (p + 4 + 2 * j))) (n := 3) (Nat.lt_trans (tg_lt _ _ _) (by decide)) (by decide)).mpr h9)
            refine ps_st (S' := (167, [(7, .int (nI (tg f E (by2 f (p + 4 + 2 * j))))), (0, .ref m0), (1, .int (nI p0)), (3, .int (nI (by2 f p0))), (4, .int (nI p)), (5, .int (nI i)), (6, .int (nI j))], [.int (nI (tg f E (by2 f (p + 4 + 2 * j))))], M1)) rfl rfl rfl ?_
            refine ps_st (S' := (169, [(7, .int (nI (tg f E (by2 f (p + 4 + 2 * j))))), (0, .ref m0), (1, .int (nI p0)), (3, .int (nI (by2 f p0))), (4, .int (nI p)), (5, .int (nI i)), (6, .int (nI j))], [.int 8, .int (nI (tg f E (by2 f (p + 4 + 2 * j))))], M1)) rfl rfl rfl ?_
            refine ps_if2 (S1 := (189, [(0, .ref m0), (1, .int (nI p0)), (3, .int (nI (by2 f p0))), (4, .int (nI p)), (5, .int (nI i)), (6, .int (nI j))], [], M1)) (S2 := (172, [(0, .ref m0), (1, .int (nI p0)), (3, .int (nI (by2 f p0))), (4, .int (nI p)), (5, .int (nI i)), (6, .int (nI j)), (7, .int (nI (tg f E (by2 f (p + 4 + 2 * j)))))], [], M1)) rfl rfl rfl (fun c_169 => ?_) (fun c_169 => ?_)
            · have c_169 : (nI (tg f E (by2 f (p + 4 + 2 * j)))) ≤ 8 := of_decide_eq_true c_169
              have n_169 : tg f E (by2 f (p + 4 + 2 * j)) ≤ 8 := (le_nI (p := tg f E (by2 f (p + 4 + 2 * j))) (n := 8) (Nat.lt_trans (tg_lt _ _ _) (by decide)) (by decide)).mp c_169
              refine ps_st (S' := (192, [(6, .int ((nI j) + 1)), (0, .ref m0), (1, .int (nI p0)), (3, .int (nI (by2 f p0))), (4, .int (nI p)), (5, .int (nI i))], [], M1)) rfl rfl rfl ?_
              rw [nI_add1 (p := j) (k := 1) (x := 1) rfl (by omega)]
              show pl _ _ _ (_, [(6, .int (nI (j + 1))), (0, .ref m0), (1, .int (nI p0)), (3, .int (nI (by2 f p0))), (4, .int (nI p)), (5, .int (nI i))], [], M1) _
              refine ps_st (S' := (127, [(0, .ref m0), (1, .int (nI p0)), (3, .int (nI (by2 f p0))), (4, .int (nI p)), (5, .int (nI i)), (6, .int (nI (j + 1)))], [], M1)) rfl rfl rfl ?_
              exact ih.2.2 (i) (p) (j + 1) M1 I1 R1 hR1 hEI1 hER1 hl51 hl52 hl53 hF1 hY1 hP1 (hfe) (hi) (by omega) (hle) (hf2) (h15) (hs) (by
                  rw [← hd, ldA_st (i := j) (by omega), if_neg (by unfold ldN; rw [if_pos (by omega)]; decide)]
                  rfl)
            · have c_169 : ¬ ((nI (tg f E (by2 f (p + 4 + 2 * j)))) ≤ 8) := of_decide_eq_false c_169
              have n_169 : ¬ (tg f E (by2 f (p + 4 + 2 * j)) ≤ 8) := fun h9 => c_169 ((le_nI (p := tg f E (by2 f (p + 4 + 2 * j))) (n := 8) (Nat.lt_trans (tg_lt _ _ _) (by decide)) (by decide)).mpr h9)
              refine ps_st (S' := (174, [(0, .ref m0), (1, .int (nI p0)), (3, .int (nI (by2 f p0))), (4, .int (nI p)), (5, .int (nI i)), (6, .int (nI j)), (7, .int (nI (tg f E (by2 f (p + 4 + 2 * j)))))], [.int (nI (tg f E (by2 f (p + 4 + 2 * j))))], M1)) rfl rfl rfl ?_
              refine ps_st (S' := (176, [(0, .ref m0), (1, .int (nI p0)), (3, .int (nI (by2 f p0))), (4, .int (nI p)), (5, .int (nI i)), (6, .int (nI j)), (7, .int (nI (tg f E (by2 f (p + 4 + 2 * j)))))], [.int 15, .int (nI (tg f E (by2 f (p + 4 + 2 * j))))], M1)) rfl rfl rfl ?_
              refine ps_if2 (S1 := (186, [], [], M1)) (S2 := (179, [(0, .ref m0), (1, .int (nI p0)), (3, .int (nI (by2 f p0))), (4, .int (nI p)), (5, .int (nI i)), (6, .int (nI j)), (7, .int (nI (tg f E (by2 f (p + 4 + 2 * j)))))], [], M1)) rfl rfl rfl (fun c_176 => ?_) (fun c_176 => ?_)
              · have c_176 : (nI (tg f E (by2 f (p + 4 + 2 * j)))) < 15 := of_decide_eq_true c_176
                have n_176 : tg f E (by2 f (p + 4 + 2 * j)) < 15 := (lt_nI (p := tg f E (by2 f (p + 4 + 2 * j))) (n := 15) (Nat.lt_trans (tg_lt _ _ _) (by decide)) (by decide)).mp c_176
                refine ps_st (S' := (188, [], [.int 38], M1)) rfl rfl rfl ?_
                exact ps_ret rfl rfl (Or.inr (Or.inl ⟨I1, R1, hfe, by
                    rw [← hs, bsA_st (i := i) (p := p) hi, if_neg (by omega), if_pos (by rw [← hd, ldA_st (i := j) (by omega), if_pos (by unfold ldN; rw [if_neg (by omega)])])], rfl, hR1, hEI1, hER1⟩))
              · have c_176 : ¬ ((nI (tg f E (by2 f (p + 4 + 2 * j)))) < 15) := of_decide_eq_false c_176
                have n_176 : ¬ (tg f E (by2 f (p + 4 + 2 * j)) < 15) := fun h9 => c_176 ((lt_nI (p := tg f E (by2 f (p + 4 + 2 * j))) (n := 15) (Nat.lt_trans (tg_lt _ _ _) (by decide)) (by decide)).mpr h9)
                refine ps_st (S' := (181, [(0, .ref m0), (1, .int (nI p0)), (3, .int (nI (by2 f p0))), (4, .int (nI p)), (5, .int (nI i)), (6, .int (nI j)), (7, .int (nI (tg f E (by2 f (p + 4 + 2 * j)))))], [.int (nI (tg f E (by2 f (p + 4 + 2 * j))))], M1)) rfl rfl rfl ?_
                refine ps_st (S' := (183, [(0, .ref m0), (1, .int (nI p0)), (3, .int (nI (by2 f p0))), (4, .int (nI p)), (5, .int (nI i)), (6, .int (nI j)), (7, .int (nI (tg f E (by2 f (p + 4 + 2 * j)))))], [.int 17, .int (nI (tg f E (by2 f (p + 4 + 2 * j))))], M1)) rfl rfl rfl ?_
                refine ps_if2 (S1 := (189, [(0, .ref m0), (1, .int (nI p0)), (3, .int (nI (by2 f p0))), (4, .int (nI p)), (5, .int (nI i)), (6, .int (nI j))], [], M1)) (S2 := (186, [], [], M1)) rfl rfl rfl (fun c_183 => ?_) (fun c_183 => ?_)
                · have c_183 : (nI (tg f E (by2 f (p + 4 + 2 * j)))) ≤ 17 := of_decide_eq_true c_183
                  have n_183 : tg f E (by2 f (p + 4 + 2 * j)) ≤ 17 := (le_nI (p := tg f E (by2 f (p + 4 + 2 * j))) (n := 17) (Nat.lt_trans (tg_lt _ _ _) (by decide)) (by decide)).mp c_183
                  refine ps_st (S' := (192, [(6, .int ((nI j) + 1)), (0, .ref m0), (1, .int (nI p0)), (3, .int (nI (by2 f p0))), (4, .int (nI p)), (5, .int (nI i))], [], M1)) rfl rfl rfl ?_
                  rw [nI_add1 (p := j) (k := 1) (x := 1) rfl (by omega)]
                  show pl _ _ _ (_, [(6, .int (nI (j + 1))), (0, .ref m0), (1, .int (nI p0)), (3, .int (nI (by2 f p0))), (4, .int (nI p)), (5, .int (nI i))], [], M1) _
                  refine ps_st (S' := (127, [(0, .ref m0), (1, .int (nI p0)), (3, .int (nI (by2 f p0))), (4, .int (nI p)), (5, .int (nI i)), (6, .int (nI (j + 1)))], [], M1)) rfl rfl rfl ?_
                  exact ih.2.2 (i) (p) (j + 1) M1 I1 R1 hR1 hEI1 hER1 hl51 hl52 hl53 hF1 hY1 hP1 (hfe) (hi) (by omega) (hle) (hf2) (h15) (hs) (by
                      rw [← hd, ldA_st (i := j) (by omega), if_neg (by unfold ldN; rw [if_pos (by omega)]; decide)]
                      rfl)
                · have c_183 : ¬ ((nI (tg f E (by2 f (p + 4 + 2 * j)))) ≤ 17) := of_decide_eq_false c_183
                  have n_183 : ¬ (tg f E (by2 f (p + 4 + 2 * j)) ≤ 17) := fun h9 => c_183 ((le_nI (p := tg f E (by2 f (p + 4 + 2 * j))) (n := 17) (Nat.lt_trans (tg_lt _ _ _) (by decide)) (by decide)).mpr h9)
                  refine ps_st (S' := (188, [], [.int 38], M1)) rfl rfl rfl ?_
                  exact ps_ret rfl rfl (Or.inr (Or.inl ⟨I1, R1, hfe, by
                      rw [← hs, bsA_st (i := i) (p := p) hi, if_neg (by omega), if_pos (by rw [← hd, ldA_st (i := j) (by omega), if_pos (by unfold ldN; rw [if_neg (by omega)])])], rfl, hR1, hEI1, hER1⟩))
  refine ps_st (S' := (1, [(0, .ref m0), (1, .int (nI p0)), (2, .int (nI e))], [.int (nI e)], M)) rfl rfl rfl ?_
  refine ps_st (S' := (2, [(0, .ref m0), (1, .int (nI p0)), (2, .int (nI e))], [.int (nI p0), .int (nI e)], M)) rfl rfl rfl ?_
  refine ps_st (S' := (3, [(0, .ref m0), (1, .int (nI p0)), (2, .int (nI e))], [.int ((nI e) - (nI p0))], M)) rfl rfl rfl ?_
  refine ps_st (S' := (4, [(0, .ref m0), (1, .int (nI p0)), (2, .int (nI e))], [.int 2, .int ((nI e) - (nI p0))], M)) rfl rfl rfl ?_
  refine ps_if2 (S1 := (10, [(0, .ref m0), (1, .int (nI p0)), (2, .int (nI e))], [], M)) (S2 := (7, [(0, .ref m0), (1, .int (nI p0)), (2, .int (nI e))], [], M)) rfl rfl rfl (fun c_4 => ?_) (fun c_4 => ?_)
  · have c_4 : 2 ≤ ((nI e) - (nI p0)) := of_decide_eq_true c_4
    have n_4 : 2 + p0 ≤ e := (le_sub1 (e := e) (p := p0) (k := 2) (by omega) (by omega) (by omega)).mp c_4
    refine ps_st (S' := (11, [(0, .ref m0), (1, .int (nI p0)), (2, .int (nI e))], [.ref m0], M)) rfl rfl rfl ?_
    refine ps_st (S' := (12, [(0, .ref m0), (1, .int (nI p0)), (2, .int (nI e))], [.int (nI p0), .ref m0], M)) rfl rfl rfl ?_
    refine pl_call (a := [.ref m0, .int (nI p0)]) (rest := []) rfl rfl rfl (rd_u2 (n := n) (f := f) (p := p0) hR hF (by omega)) (fun v50 M51 q52 => ?_)
    obtain ⟨rfl, rfl⟩ := q52
    show pl _ _ _ (15, [(0, .ref m0), (1, .int (nI p0)), (2, .int (nI e))], [.int (nI (by2 f p0))], M) _
    have hu_12 := by2_lt f p0
    refine ps_st (S' := (16, [(3, .int (nI (by2 f p0))), (0, .ref m0), (1, .int (nI p0)), (2, .int (nI e))], [], M)) rfl rfl rfl ?_
    refine ps_st (S' := (17, [(3, .int (nI (by2 f p0))), (0, .ref m0), (1, .int (nI p0)), (2, .int (nI e))], [.int (nI p0)], M)) rfl rfl rfl ?_
    refine ps_st (S' := (18, [(3, .int (nI (by2 f p0))), (0, .ref m0), (1, .int (nI p0)), (2, .int (nI e))], [.int 2, .int (nI p0)], M)) rfl rfl rfl ?_
    refine ps_st (S' := (19, [(3, .int (nI (by2 f p0))), (0, .ref m0), (1, .int (nI p0)), (2, .int (nI e))], [.int ((nI p0) + 2)], M)) rfl rfl rfl ?_
    rw [nI_add1 (p := p0) (k := 2) (x := 2) rfl (by omega)]
    show pl _ _ _ (_, [(3, .int (nI (by2 f p0))), (0, .ref m0), (1, .int (nI p0)), (2, .int (nI e))], [.int (nI (p0 + 2))], M) _
    refine ps_st (S' := (21, [(4, .int (nI (p0 + 2))), (3, .int (nI (by2 f p0))), (0, .ref m0), (1, .int (nI p0)), (2, .int (nI e))], [], M)) rfl rfl rfl ?_
    refine ps_st (S' := (22, [(4, .int (nI (p0 + 2))), (3, .int (nI (by2 f p0))), (0, .ref m0), (1, .int (nI p0)), (2, .int (nI e))], [.int 0], M)) rfl rfl rfl ?_
    refine ps_st (S' := (24, [(0, .ref m0), (1, .int (nI p0)), (2, .int (nI e)), (3, .int (nI (by2 f p0))), (4, .int (nI (p0 + 2))), (5, .int 0)], [], M)) rfl rfl rfl ?_
    exact (LL kf).1 (0) (p0 + 2) M I R hR hEI hER hi51 hi52 hi53 hF hY hP (by omega) (by omega) (by omega) (rfl)
  · have c_4 : ¬ (2 ≤ ((nI e) - (nI p0))) := of_decide_eq_false c_4
    have n_4 : ¬ (2 + p0 ≤ e) := fun h8 => c_4 ((le_sub1 (e := e) (p := p0) (k := 2) (by omega) (by omega) (by omega)).mpr h8)
    refine ps_st (S' := (9, [(0, .ref m0), (1, .int (nI p0)), (2, .int (nI e))], [.int 30], M)) rfl rfl rfl ?_
    exact ps_ret rfl rfl (Or.inl ⟨I, R, fe_2 (by omega), rfl, hR, hEI, hER⟩)
set_option maxHeartbeats 4000000 in
theorem rd_components {g : xe_G} {m0 : Nat} {q : Nat → Nat} {z : Nat × Nat} {I : rI} {R : rR} {M : mi_H} {n : Nat} {f : Nat → Int32} {tx : List (List Nat)} {cN : Nat} {A : Nat → Nat} {N mj : Nat} {E : List (Nat × Nat)} {p0 e t : Nat} (hR : RS g m0 q z I R M) (hi51 : I 51 = some 0) (hi52 : I 52 = some (nI N)) (hi53 : I 53 = some (nI mj)) (hF : FK n f I R) (hY : SYT tx cN A I R) (hP : RPV f n E tx N I R) (hEP : EP f n E) (hN : N < 65536) (hmj : mj < 65536) (he : p0 ≤ e ∧ e ≤ n) : pt (mT g) 197 [.ref m0, .int (nI p0), .int (nI e)] M (fun v M' => (∃  (I' : rI) (R' : rR), (¬ s_fe f 9 p0 e = some e) ∧ v = some (.int 30) ∧ RS g m0 q z I' R' M' ∧ eqI [47, 48, 72] I I' ∧ eqR [] R R') ∨ (∃  (I' : rI) (R' : rR), (s_fe f 9 p0 e = some e) ∧ (rcS f n E t (by2 f p0) (p0 + 2) = some (37, t)) ∧ v = some (.int 37) ∧ RS g m0 q z I' R' M' ∧ eqI [47, 48, 72] I I' ∧ eqR [] R R') ∨ (∃ (y : Nat) (I' : rI) (R' : rR), (s_fe f 9 p0 e = some e) ∧ (rcS f n E t (by2 f p0) (p0 + 2) = some (28, y)) ∧ v = some (.int (-1)) ∧ RS g m0 q z I' R' M' ∧ eqI [47, 48, 72] I I' ∧ eqR [] R R' ∧ I' 47 = some 28 ∧ I' 48 = some (nI y)) ∨ (∃  (I' : rI) (R' : rR), (s_fe f 9 p0 e = some e) ∧ (rcS f n E t (by2 f p0) (p0 + 2) = none) ∧ v = some (.int 0) ∧ RS g m0 q z I' R' M' ∧ eqI [47, 48, 72] I I' ∧ eqR [] R R' ∧ I' 72 = some (nI (by2 f p0)))) := by
  refine pt_in (b := mb_197 g) rfl (fun kf => ?_)
  show pl (mT g) kf (mb_197 g).2 (0, [(0, .ref m0), (1, .int (nI p0)), (2, .int (nI e))], [], M) _
  have hEI : eqI [47, 48, 72] I I := eqI.rf
  have hER : eqR [] R R := eqR.rf
  have hn := hF.1
  have LL : ∀ (kf : Nat), (∀ (i p : Nat) (M1 : mi_H) (I1 : rI) (R1 : rR), (RS g m0 q z I1 R1 M1) → (eqI [47, 48, 72] I I1) → (eqR [] R R1) → (I1 51 = some 0) → (I1 52 = some (nI N)) → (I1 53 = some (nI mj)) → (FK n f I1 R1) → (SYT tx cN A I1 R1) → (RPV f n E tx N I1 R1) → (p0 + 2 ≤ e) → (i ≤ by2 f p0) → (p0 + 2 ≤ p ∧ p ≤ e) → (s_rcE f e (by2 f p0 - i) p = s_rcE f e (by2 f p0) (p0 + 2)) →  pl (mT g) kf (mb_197 g).2 (24, [(0, .ref m0), (1, .int (nI p0)), (2, .int (nI e)), (3, .int (nI (by2 f p0))), (4, .int (nI p)), (5, .int (nI i))], [], M1) (fun v M' => (∃  (I' : rI) (R' : rR), (¬ s_fe f 9 p0 e = some e) ∧ v = some (.int 30) ∧ RS g m0 q z I' R' M' ∧ eqI [47, 48, 72] I I' ∧ eqR [] R R') ∨ (∃  (I' : rI) (R' : rR), (s_fe f 9 p0 e = some e) ∧ (rcS f n E t (by2 f p0) (p0 + 2) = some (37, t)) ∧ v = some (.int 37) ∧ RS g m0 q z I' R' M' ∧ eqI [47, 48, 72] I I' ∧ eqR [] R R') ∨ (∃ (y : Nat) (I' : rI) (R' : rR), (s_fe f 9 p0 e = some e) ∧ (rcS f n E t (by2 f p0) (p0 + 2) = some (28, y)) ∧ v = some (.int (-1)) ∧ RS g m0 q z I' R' M' ∧ eqI [47, 48, 72] I I' ∧ eqR [] R R' ∧ I' 47 = some 28 ∧ I' 48 = some (nI y)) ∨ (∃  (I' : rI) (R' : rR), (s_fe f 9 p0 e = some e) ∧ (rcS f n E t (by2 f p0) (p0 + 2) = none) ∧ v = some (.int 0) ∧ RS g m0 q z I' R' M' ∧ eqI [47, 48, 72] I I' ∧ eqR [] R R' ∧ I' 72 = some (nI (by2 f p0))))) ∧ (∀ (i p j y : Nat) (M1 : mi_H) (I1 : rI) (R1 : rR), (RS g m0 q z I1 R1 M1) → (eqI [47, 48, 72] I I1) → (eqR [] R R1) → (I1 51 = some 0) → (I1 52 = some (nI N)) → (I1 53 = some (nI mj)) → (FK n f I1 R1) → (SYT tx cN A I1 R1) → (RPV f n E tx N I1 R1) → (p0 + 2 ≤ e) → (i < by2 f p0) → (j ≤ by2 f (p + 4)) → (p0 + 2 ≤ p ∧ p + 6 ≤ y ∧ y ≤ e) → (s_rcE f e (by2 f p0 - i) p = s_rcE f e (by2 f p0) (p0 + 2)) → (s_atE f e (by2 f (p + 4) - j) y = s_atE f e (by2 f (p + 4)) (p + 6)) →  pl (mT g) kf (mb_197 g).2 (58, [(0, .ref m0), (1, .int (nI p0)), (2, .int (nI e)), (3, .int (nI (by2 f p0))), (4, .int (nI y)), (5, .int (nI i)), (6, .int (nI (by2 f (p + 4)))), (7, .int (nI j))], [], M1) (fun v M' => (∃  (I' : rI) (R' : rR), (¬ s_fe f 9 p0 e = some e) ∧ v = some (.int 30) ∧ RS g m0 q z I' R' M' ∧ eqI [47, 48, 72] I I' ∧ eqR [] R R') ∨ (∃  (I' : rI) (R' : rR), (s_fe f 9 p0 e = some e) ∧ (rcS f n E t (by2 f p0) (p0 + 2) = some (37, t)) ∧ v = some (.int 37) ∧ RS g m0 q z I' R' M' ∧ eqI [47, 48, 72] I I' ∧ eqR [] R R') ∨ (∃ (y : Nat) (I' : rI) (R' : rR), (s_fe f 9 p0 e = some e) ∧ (rcS f n E t (by2 f p0) (p0 + 2) = some (28, y)) ∧ v = some (.int (-1)) ∧ RS g m0 q z I' R' M' ∧ eqI [47, 48, 72] I I' ∧ eqR [] R R' ∧ I' 47 = some 28 ∧ I' 48 = some (nI y)) ∨ (∃  (I' : rI) (R' : rR), (s_fe f 9 p0 e = some e) ∧ (rcS f n E t (by2 f p0) (p0 + 2) = none) ∧ v = some (.int 0) ∧ RS g m0 q z I' R' M' ∧ eqI [47, 48, 72] I I' ∧ eqR [] R R' ∧ I' 72 = some (nI (by2 f p0))))) ∧ (∀ (i p : Nat) (M1 : mi_H) (I1 : rI) (R1 : rR), (RS g m0 q z I1 R1 M1) → (eqI [47, 48, 72] I I1) → (eqR [] R R1) → (I1 51 = some 0) → (I1 52 = some (nI N)) → (I1 53 = some (nI mj)) → (FK n f I1 R1) → (SYT tx cN A I1 R1) → (RPV f n E tx N I1 R1) → (s_fe f 9 p0 e = some e) → (i ≤ by2 f p0) → (s_rcE f e (by2 f p0 - i) p = some e) → (rcS f n E t (by2 f p0 - i) p = rcS f n E t (by2 f p0) (p0 + 2)) →  pl (mT g) kf (mb_197 g).2 (143, [(0, .ref m0), (3, .int (nI (by2 f p0))), (4, .int (nI p)), (5, .int (nI i))], [], M1) (fun v M' => (∃  (I' : rI) (R' : rR), (¬ s_fe f 9 p0 e = some e) ∧ v = some (.int 30) ∧ RS g m0 q z I' R' M' ∧ eqI [47, 48, 72] I I' ∧ eqR [] R R') ∨ (∃  (I' : rI) (R' : rR), (s_fe f 9 p0 e = some e) ∧ (rcS f n E t (by2 f p0) (p0 + 2) = some (37, t)) ∧ v = some (.int 37) ∧ RS g m0 q z I' R' M' ∧ eqI [47, 48, 72] I I' ∧ eqR [] R R') ∨ (∃ (y : Nat) (I' : rI) (R' : rR), (s_fe f 9 p0 e = some e) ∧ (rcS f n E t (by2 f p0) (p0 + 2) = some (28, y)) ∧ v = some (.int (-1)) ∧ RS g m0 q z I' R' M' ∧ eqI [47, 48, 72] I I' ∧ eqR [] R R' ∧ I' 47 = some 28 ∧ I' 48 = some (nI y)) ∨ (∃  (I' : rI) (R' : rR), (s_fe f 9 p0 e = some e) ∧ (rcS f n E t (by2 f p0) (p0 + 2) = none) ∧ v = some (.int 0) ∧ RS g m0 q z I' R' M' ∧ eqI [47, 48, 72] I I' ∧ eqR [] R R' ∧ I' 72 = some (nI (by2 f p0))))) ∧ (∀ (i p j y x9 : Nat) (M1 : mi_H) (I1 : rI) (R1 : rR), (RS g m0 q z I1 R1 M1) → (eqI [47, 48, 72] I I1) → (eqR [] R R1) → (I1 51 = some 0) → (I1 52 = some (nI N)) → (I1 53 = some (nI mj)) → (FK n f I1 R1) → (SYT tx cN A I1 R1) → (RPV f n E tx N I1 R1) → (s_fe f 9 p0 e = some e) → (i < by2 f p0) → (j ≤ by2 f (p + 4)) → (s_atE f e (by2 f (p + 4) - j) y = some x9) → (s_rcE f e (by2 f p0 - (i + 1)) x9 = some e) → (¬ (unqN (tX f n E (by2 f p)) = 0 ∨ fldN (tX f n E (by2 f (p + 2))) = 0)) → (rcS f n E t (by2 f p0 - i) p = rcS f n E t (by2 f p0) (p0 + 2)) → (rcA f E (by2 f (p + 4) - j) y = rcA f E (by2 f (p + 4)) (p + 6)) →  pl (mT g) kf (mb_197 g).2 (235, [(0, .ref m0), (3, .int (nI (by2 f p0))), (4, .int (nI y)), (5, .int (nI i)), (6, .int (nI (by2 f (p + 4)))), (7, .int (nI j))], [], M1) (fun v M' => (∃  (I' : rI) (R' : rR), (¬ s_fe f 9 p0 e = some e) ∧ v = some (.int 30) ∧ RS g m0 q z I' R' M' ∧ eqI [47, 48, 72] I I' ∧ eqR [] R R') ∨ (∃  (I' : rI) (R' : rR), (s_fe f 9 p0 e = some e) ∧ (rcS f n E t (by2 f p0) (p0 + 2) = some (37, t)) ∧ v = some (.int 37) ∧ RS g m0 q z I' R' M' ∧ eqI [47, 48, 72] I I' ∧ eqR [] R R') ∨ (∃ (y : Nat) (I' : rI) (R' : rR), (s_fe f 9 p0 e = some e) ∧ (rcS f n E t (by2 f p0) (p0 + 2) = some (28, y)) ∧ v = some (.int (-1)) ∧ RS g m0 q z I' R' M' ∧ eqI [47, 48, 72] I I' ∧ eqR [] R R' ∧ I' 47 = some 28 ∧ I' 48 = some (nI y)) ∨ (∃  (I' : rI) (R' : rR), (s_fe f 9 p0 e = some e) ∧ (rcS f n E t (by2 f p0) (p0 + 2) = none) ∧ v = some (.int 0) ∧ RS g m0 q z I' R' M' ∧ eqI [47, 48, 72] I I' ∧ eqR [] R R' ∧ I' 72 = some (nI (by2 f p0))))) := by
    intro kf
    induction kf with
    | zero => exact ⟨by intros; exact pl_0, by intros; exact pl_0, by intros; exact pl_0, by intros; exact pl_0⟩
    | succ kf ih =>
      refine ⟨?_, ?_, ?_, ?_⟩
      · skip
        intro i p M1 I1 R1 hR1 hEI1 hER1 hl51 hl52 hl53 hF1 hY1 hP1 h2 hi hp hs
        have hn := hF1.1
        have hu9 := by2_lt f p0
        refine ps_st1 (S' := (26, [(0, .ref m0), (1, .int (nI p0)), (2, .int (nI e)), (3, .int (nI (by2 f p0))), (4, .int (nI p)), (5, .int (nI i))], [.int (nI i)], M1)) rfl rfl rfl ?_
        refine ps_st (S' := (27, [(0, .ref m0), (1, .int (nI p0)), (2, .int (nI e)), (3, .int (nI (by2 f p0))), (4, .int (nI p)), (5, .int (nI i))], [.int (nI (by2 f p0)), .int (nI i)], M1)) rfl rfl rfl ?_
        refine ps_if2 (S1 := (126, [(0, .ref m0), (1, .int (nI p0)), (2, .int (nI e)), (3, .int (nI (by2 f p0))), (4, .int (nI p)), (5, .int (nI i))], [], M1)) (S2 := (30, [(0, .ref m0), (1, .int (nI p0)), (2, .int (nI e)), (3, .int (nI (by2 f p0))), (4, .int (nI p)), (5, .int (nI i))], [], M1)) rfl rfl rfl (fun c_27 => ?_) (fun c_27 => ?_)
        · have c_27 : (nI (by2 f p0)) ≤ (nI i) := of_decide_eq_true c_27
          have n_27 : by2 f p0 ≤ i := (le_nI (p := by2 f p0) (n := i) (Nat.lt_trans (by2_lt _ _) (by decide)) (by omega)).mp c_27
          refine ps_st (S' := (128, [(0, .ref m0), (1, .int (nI p0)), (2, .int (nI e)), (3, .int (nI (by2 f p0))), (4, .int (nI p)), (5, .int (nI i))], [.int (nI p)], M1)) rfl rfl rfl ?_
          refine ps_st (S' := (129, [(0, .ref m0), (1, .int (nI p0)), (2, .int (nI e)), (3, .int (nI (by2 f p0))), (4, .int (nI p)), (5, .int (nI i))], [.int (nI e), .int (nI p)], M1)) rfl rfl rfl ?_
          refine ps_if2 (S1 := (135, [(0, .ref m0), (1, .int (nI p0)), (2, .int (nI e)), (3, .int (nI (by2 f p0))), (4, .int (nI p)), (5, .int (nI i))], [], M1)) (S2 := (132, [(0, .ref m0), (1, .int (nI p0)), (2, .int (nI e)), (3, .int (nI (by2 f p0))), (4, .int (nI p)), (5, .int (nI i))], [], M1)) rfl rfl rfl (fun c_129 => ?_) (fun c_129 => ?_)
          · have c_129 : (nI p) = (nI e) := of_decide_eq_true c_129
            have n_129 : p = e := (eq_nI (p := p) (n := e) (by omega) (by omega)).mp c_129
            refine ps_st (S' := (136, [(0, .ref m0), (1, .int (nI p0)), (2, .int (nI e)), (3, .int (nI (by2 f p0))), (4, .int (nI p)), (5, .int (nI i))], [.int (nI p0)], M1)) rfl rfl rfl ?_
            refine ps_st (S' := (137, [(0, .ref m0), (1, .int (nI p0)), (2, .int (nI e)), (3, .int (nI (by2 f p0))), (4, .int (nI p)), (5, .int (nI i))], [.int 2, .int (nI p0)], M1)) rfl rfl rfl ?_
            refine ps_st (S' := (138, [(0, .ref m0), (1, .int (nI p0)), (2, .int (nI e)), (3, .int (nI (by2 f p0))), (4, .int (nI p)), (5, .int (nI i))], [.int ((nI p0) + 2)], M1)) rfl rfl rfl ?_
            rw [nI_add1 (p := p0) (k := 2) (x := 2) rfl (by omega)]
            show pl _ _ _ (_, [(0, .ref m0), (1, .int (nI p0)), (2, .int (nI e)), (3, .int (nI (by2 f p0))), (4, .int (nI p)), (5, .int (nI i))], [.int (nI (p0 + 2))], M1) _
            refine ps_st (S' := (140, [(4, .int (nI (p0 + 2))), (0, .ref m0), (1, .int (nI p0)), (2, .int (nI e)), (3, .int (nI (by2 f p0))), (5, .int (nI i))], [], M1)) rfl rfl rfl ?_
            refine ps_st (S' := (141, [(4, .int (nI (p0 + 2))), (0, .ref m0), (1, .int (nI p0)), (2, .int (nI e)), (3, .int (nI (by2 f p0))), (5, .int (nI i))], [.int 0], M1)) rfl rfl rfl ?_
            refine ps_st (S' := (143, [(0, .ref m0), (3, .int (nI (by2 f p0))), (4, .int (nI (p0 + 2))), (5, .int 0)], [], M1)) rfl rfl rfl ?_
            exact ih.2.2.1 (0) (p0 + 2) M1 I1 R1 hR1 hEI1 hER1 hl51 hl52 hl53 hF1 hY1 hP1 (by
                rw [fe_9 h2, ← hs, show by2 f p0 - i = 0 by omega, show p = e by omega]
                rfl) (by omega) (by
                rw [show by2 f p0 - 0 = by2 f p0 from rfl, ← hs, show by2 f p0 - i = 0 by omega, show p = e by omega]
                rfl) (rfl)
          · have c_129 : ¬ ((nI p) = (nI e)) := of_decide_eq_false c_129
            have n_129 : ¬ (p = e) := fun h9 => c_129 ((eq_nI (p := p) (n := e) (by omega) (by omega)).mpr h9)
            refine ps_st (S' := (134, [(0, .ref m0), (1, .int (nI p0)), (2, .int (nI e)), (3, .int (nI (by2 f p0))), (4, .int (nI p)), (5, .int (nI i))], [.int 30], M1)) rfl rfl rfl ?_
            exact ps_ret rfl rfl (Or.inl ⟨I1, R1, by
                rw [fe_9 h2, ← hs, show by2 f p0 - i = 0 by omega]
                exact fun h9 => n_129 (Option.some.inj h9), rfl, hR1, hEI1, hER1⟩)
        · have c_27 : ¬ ((nI (by2 f p0)) ≤ (nI i)) := of_decide_eq_false c_27
          have n_27 : ¬ (by2 f p0 ≤ i) := fun h9 => c_27 ((le_nI (p := by2 f p0) (n := i) (Nat.lt_trans (by2_lt _ _) (by decide)) (by omega)).mpr h9)
          refine ps_st (S' := (32, [(0, .ref m0), (1, .int (nI p0)), (2, .int (nI e)), (3, .int (nI (by2 f p0))), (4, .int (nI p)), (5, .int (nI i))], [.int (nI p)], M1)) rfl rfl rfl ?_
          refine ps_st (S' := (34, [(0, .ref m0), (1, .int (nI p0)), (2, .int (nI e)), (3, .int (nI (by2 f p0))), (4, .int (nI p)), (5, .int (nI i))], [.int 6, .int (nI p)], M1)) rfl rfl rfl ?_
          refine ps_st (S' := (35, [(0, .ref m0), (1, .int (nI p0)), (2, .int (nI e)), (3, .int (nI (by2 f p0))), (4, .int (nI p)), (5, .int (nI i))], [.int ((nI p) + 6)], M1)) rfl rfl rfl ?_
          rw [nI_add1 (p := p) (k := 6) (x := 6) rfl (by omega)]
          show pl _ _ _ (_, [(0, .ref m0), (1, .int (nI p0)), (2, .int (nI e)), (3, .int (nI (by2 f p0))), (4, .int (nI p)), (5, .int (nI i))], [.int (nI (p + 6))], M1) _
          refine ps_st (S' := (36, [(0, .ref m0), (1, .int (nI p0)), (2, .int (nI e)), (3, .int (nI (by2 f p0))), (4, .int (nI p)), (5, .int (nI i))], [.int (nI e), .int (nI (p + 6))], M1)) rfl rfl rfl ?_
          refine ps_if2 (S1 := (42, [(0, .ref m0), (1, .int (nI p0)), (2, .int (nI e)), (3, .int (nI (by2 f p0))), (4, .int (nI p)), (5, .int (nI i))], [], M1)) (S2 := (39, [(0, .ref m0), (1, .int (nI p0)), (2, .int (nI e)), (3, .int (nI (by2 f p0))), (4, .int (nI p)), (5, .int (nI i))], [], M1)) rfl rfl rfl (fun c_36 => ?_) (fun c_36 => ?_)
          · have c_36 : (nI (p + 6)) ≤ (nI e) := of_decide_eq_true c_36
            have n_36 : p + 6 ≤ e := (le_nI (p := p + 6) (n := e) (by omega) (by omega)).mp c_36
            refine ps_st (S' := (43, [(0, .ref m0), (1, .int (nI p0)), (2, .int (nI e)), (3, .int (nI (by2 f p0))), (4, .int (nI p)), (5, .int (nI i))], [.ref m0], M1)) rfl rfl rfl ?_
            refine ps_st (S' := (45, [(0, .ref m0), (1, .int (nI p0)), (2, .int (nI e)), (3, .int (nI (by2 f p0))), (4, .int (nI p)), (5, .int (nI i))], [.int (nI p), .ref m0], M1)) rfl rfl rfl ?_
            refine ps_st (S' := (46, [(0, .ref m0), (1, .int (nI p0)), (2, .int (nI e)), (3, .int (nI (by2 f p0))), (4, .int (nI p)), (5, .int (nI i))], [.int 4, .int (nI p), .ref m0], M1)) rfl rfl rfl ?_
            refine ps_st (S' := (47, [(0, .ref m0), (1, .int (nI p0)), (2, .int (nI e)), (3, .int (nI (by2 f p0))), (4, .int (nI p)), (5, .int (nI i))], [.int ((nI p) + 4), .ref m0], M1)) rfl rfl rfl ?_
            rw [nI_add1 (p := p) (k := 4) (x := 4) rfl (by omega)]
            show pl _ _ _ (_, [(0, .ref m0), (1, .int (nI p0)), (2, .int (nI e)), (3, .int (nI (by2 f p0))), (4, .int (nI p)), (5, .int (nI i))], [.int (nI (p + 4)), .ref m0], M1) _
            refine pl_call (a := [.ref m0, .int (nI (p + 4))]) (rest := []) rfl rfl rfl (rd_u2 (n := n) (f := f) (p := (p + 4)) hR1 hF1 (by omega)) (fun v1 M2 q3 => ?_)
            obtain ⟨rfl, rfl⟩ := q3
            show pl _ _ _ (50, [(0, .ref m0), (1, .int (nI p0)), (2, .int (nI e)), (3, .int (nI (by2 f p0))), (4, .int (nI p)), (5, .int (nI i))], [.int (nI (by2 f (p + 4)))], M1) _
            have hu_47 := by2_lt f (p + 4)
            refine ps_st (S' := (52, [(6, .int (nI (by2 f (p + 4)))), (0, .ref m0), (1, .int (nI p0)), (2, .int (nI e)), (3, .int (nI (by2 f p0))), (4, .int (nI p)), (5, .int (nI i))], [], M1)) rfl rfl rfl ?_
            refine ps_st (S' := (55, [(4, .int ((nI p) + 6)), (6, .int (nI (by2 f (p + 4)))), (0, .ref m0), (1, .int (nI p0)), (2, .int (nI e)), (3, .int (nI (by2 f p0))), (5, .int (nI i))], [], M1)) rfl rfl rfl ?_
            rw [nI_add1 (p := p) (k := 6) (x := 6) rfl (by omega)]
            show pl _ _ _ (_, [(4, .int (nI (p + 6))), (6, .int (nI (by2 f (p + 4)))), (0, .ref m0), (1, .int (nI p0)), (2, .int (nI e)), (3, .int (nI (by2 f p0))), (5, .int (nI i))], [], M1) _
            refine ps_st (S' := (56, [(4, .int (nI (p + 6))), (6, .int (nI (by2 f (p + 4)))), (0, .ref m0), (1, .int (nI p0)), (2, .int (nI e)), (3, .int (nI (by2 f p0))), (5, .int (nI i))], [.int 0], M1)) rfl rfl rfl ?_
            refine ps_st (S' := (58, [(0, .ref m0), (1, .int (nI p0)), (2, .int (nI e)), (3, .int (nI (by2 f p0))), (4, .int (nI (p + 6))), (5, .int (nI i)), (6, .int (nI (by2 f (p + 4)))), (7, .int 0)], [], M1)) rfl rfl rfl ?_
            exact ih.2.1 (i) (p) (0) (p + 6) M1 I1 R1 hR1 hEI1 hER1 hl51 hl52 hl53 hF1 hY1 hP1 (h2) (by omega) (by omega) (by omega) (hs) (rfl)
          · have c_36 : ¬ ((nI (p + 6)) ≤ (nI e)) := of_decide_eq_false c_36
            have n_36 : ¬ (p + 6 ≤ e) := fun h9 => c_36 ((le_nI (p := p + 6) (n := e) (by omega) (by omega)).mpr h9)
            refine ps_st (S' := (41, [(0, .ref m0), (1, .int (nI p0)), (2, .int (nI e)), (3, .int (nI (by2 f p0))), (4, .int (nI p)), (5, .int (nI i))], [.int 30], M1)) rfl rfl rfl ?_
            exact ps_ret rfl rfl (Or.inl ⟨I1, R1, by
                rw [fe_9 h2, ← hs, s_rcE_st (i := i) (p := p) (by omega), if_pos (by omega)]
                exact (fun h9 => (by cases h9)), rfl, hR1, hEI1, hER1⟩)
      · skip
        intro i p j y M1 I1 R1 hR1 hEI1 hER1 hl51 hl52 hl53 hF1 hY1 hP1 h2 hi hj hp hs hg
        have hn := hF1.1
        have hu9 := by2_lt f p0
        have hu8 := by2_lt f (p + 4)
        refine ps_st1 (S' := (60, [(0, .ref m0), (1, .int (nI p0)), (2, .int (nI e)), (3, .int (nI (by2 f p0))), (4, .int (nI y)), (5, .int (nI i)), (6, .int (nI (by2 f (p + 4)))), (7, .int (nI j))], [.int (nI j)], M1)) rfl rfl rfl ?_
        refine ps_st (S' := (62, [(0, .ref m0), (1, .int (nI p0)), (2, .int (nI e)), (3, .int (nI (by2 f p0))), (4, .int (nI y)), (5, .int (nI i)), (6, .int (nI (by2 f (p + 4)))), (7, .int (nI j))], [.int (nI (by2 f (p + 4))), .int (nI j)], M1)) rfl rfl rfl ?_
        refine ps_if2 (S1 := (120, [(0, .ref m0), (1, .int (nI p0)), (2, .int (nI e)), (3, .int (nI (by2 f p0))), (4, .int (nI y)), (5, .int (nI i)), (6, .int (nI (by2 f (p + 4)))), (7, .int (nI j))], [], M1)) (S2 := (65, [(0, .ref m0), (1, .int (nI p0)), (2, .int (nI e)), (3, .int (nI (by2 f p0))), (4, .int (nI y)), (5, .int (nI i)), (6, .int (nI (by2 f (p + 4)))), (7, .int (nI j))], [], M1)) rfl rfl rfl (fun c_62 => ?_) (fun c_62 => ?_)
        · have c_62 : (nI (by2 f (p + 4))) ≤ (nI j) := of_decide_eq_true c_62
          have n_62 : by2 f (p + 4) ≤ j := (le_nI (p := by2 f (p + 4)) (n := j) (Nat.lt_trans (by2_lt _ _) (by decide)) (by omega)).mp c_62
          refine ps_st (S' := (123, [(5, .int ((nI i) + 1)), (0, .ref m0), (1, .int (nI p0)), (2, .int (nI e)), (3, .int (nI (by2 f p0))), (4, .int (nI y)), (6, .int (nI (by2 f (p + 4)))), (7, .int (nI j))], [], M1)) rfl rfl rfl ?_
          rw [nI_add1 (p := i) (k := 1) (x := 1) rfl (by omega)]
          show pl _ _ _ (_, [(5, .int (nI (i + 1))), (0, .ref m0), (1, .int (nI p0)), (2, .int (nI e)), (3, .int (nI (by2 f p0))), (4, .int (nI y)), (6, .int (nI (by2 f (p + 4)))), (7, .int (nI j))], [], M1) _
          refine ps_st (S' := (24, [(0, .ref m0), (1, .int (nI p0)), (2, .int (nI e)), (3, .int (nI (by2 f p0))), (4, .int (nI y)), (5, .int (nI (i + 1)))], [], M1)) rfl rfl rfl ?_
          exact ih.1 (i + 1) (y) M1 I1 R1 hR1 hEI1 hER1 hl51 hl52 hl53 hF1 hY1 hP1 (h2) (by omega) (by omega) (by
              rw [← hs, s_rcE_st (i := i) (p := p) (by omega), if_neg (by omega), ← hg, show by2 f (p + 4) - j = 0 by omega]
              rfl)
        · have c_62 : ¬ ((nI (by2 f (p + 4))) ≤ (nI j)) := of_decide_eq_false c_62
          have n_62 : ¬ (by2 f (p + 4) ≤ j) := fun h9 => c_62 ((le_nI (p := by2 f (p + 4)) (n := j) (Nat.lt_trans (by2_lt _ _) (by decide)) (by omega)).mpr h9)
          refine ps_st (S' := (67, [(0, .ref m0), (1, .int (nI p0)), (2, .int (nI e)), (3, .int (nI (by2 f p0))), (4, .int (nI y)), (5, .int (nI i)), (6, .int (nI (by2 f (p + 4)))), (7, .int (nI j))], [.int (nI y)], M1)) rfl rfl rfl ?_
          refine ps_st (S' := (69, [(0, .ref m0), (1, .int (nI p0)), (2, .int (nI e)), (3, .int (nI (by2 f p0))), (4, .int (nI y)), (5, .int (nI i)), (6, .int (nI (by2 f (p + 4)))), (7, .int (nI j))], [.int 6, .int (nI y)], M1)) rfl rfl rfl ?_
          refine ps_st (S' := (70, [(0, .ref m0), (1, .int (nI p0)), (2, .int (nI e)), (3, .int (nI (by2 f p0))), (4, .int (nI y)), (5, .int (nI i)), (6, .int (nI (by2 f (p + 4)))), (7, .int (nI j))], [.int ((nI y) + 6)], M1)) rfl rfl rfl ?_
          rw [nI_add1 (p := y) (k := 6) (x := 6) rfl (by omega)]
          show pl _ _ _ (_, [(0, .ref m0), (1, .int (nI p0)), (2, .int (nI e)), (3, .int (nI (by2 f p0))), (4, .int (nI y)), (5, .int (nI i)), (6, .int (nI (by2 f (p + 4)))), (7, .int (nI j))], [.int (nI (y + 6))], M1) _
          refine ps_st (S' := (71, [(0, .ref m0), (1, .int (nI p0)), (2, .int (nI e)), (3, .int (nI (by2 f p0))), (4, .int (nI y)), (5, .int (nI i)), (6, .int (nI (by2 f (p + 4)))), (7, .int (nI j))], [.int (nI e), .int (nI (y + 6))], M1)) rfl rfl rfl ?_
          refine ps_if2 (S1 := (94, [], [], M1)) (S2 := (74, [(0, .ref m0), (1, .int (nI p0)), (2, .int (nI e)), (3, .int (nI (by2 f p0))), (4, .int (nI y)), (5, .int (nI i)), (6, .int (nI (by2 f (p + 4)))), (7, .int (nI j))], [], M1)) rfl rfl rfl (fun c_71 => ?_) (fun c_71 => ?_)
          · have c_71 : (nI e) < (nI (y + 6)) := of_decide_eq_true c_71
            have n_71 : e < y + 6 := (lt_nI (p := e) (n := y + 6) (by omega) (by omega)).mp c_71
            refine ps_st (S' := (96, [], [.int 30], M1)) rfl rfl rfl ?_
            exact ps_ret rfl rfl (Or.inl ⟨I1, R1, by
                rw [fe_9 h2, ← hs, s_rcE_st (i := i) (p := p) (by omega), if_neg (by omega), ← hg, s_atE_st (i := j) (p := y) (by omega)]
                rw [if_pos (by omega)]
                exact (fun h9 => (by cases h9)), rfl, hR1, hEI1, hER1⟩)
          · have c_71 : ¬ ((nI e) < (nI (y + 6))) := of_decide_eq_false c_71
            have n_71 : ¬ (e < y + 6) := fun h9 => c_71 ((lt_nI (p := e) (n := y + 6) (by omega) (by omega)).mpr h9)
            refine ps_st (S' := (75, [(0, .ref m0), (1, .int (nI p0)), (2, .int (nI e)), (3, .int (nI (by2 f p0))), (4, .int (nI y)), (5, .int (nI i)), (6, .int (nI (by2 f (p + 4)))), (7, .int (nI j))], [.ref m0], M1)) rfl rfl rfl ?_
            refine ps_st (S' := (77, [(0, .ref m0), (1, .int (nI p0)), (2, .int (nI e)), (3, .int (nI (by2 f p0))), (4, .int (nI y)), (5, .int (nI i)), (6, .int (nI (by2 f (p + 4)))), (7, .int (nI j))], [.int (nI y), .ref m0], M1)) rfl rfl rfl ?_
            refine ps_st (S' := (78, [(0, .ref m0), (1, .int (nI p0)), (2, .int (nI e)), (3, .int (nI (by2 f p0))), (4, .int (nI y)), (5, .int (nI i)), (6, .int (nI (by2 f (p + 4)))), (7, .int (nI j))], [.int 2, .int (nI y), .ref m0], M1)) rfl rfl rfl ?_
            refine ps_st (S' := (79, [(0, .ref m0), (1, .int (nI p0)), (2, .int (nI e)), (3, .int (nI (by2 f p0))), (4, .int (nI y)), (5, .int (nI i)), (6, .int (nI (by2 f (p + 4)))), (7, .int (nI j))], [.int ((nI y) + 2), .ref m0], M1)) rfl rfl rfl ?_
            rw [nI_add1 (p := y) (k := 2) (x := 2) rfl (by omega)]
            show pl _ _ _ (_, [(0, .ref m0), (1, .int (nI p0)), (2, .int (nI e)), (3, .int (nI (by2 f p0))), (4, .int (nI y)), (5, .int (nI i)), (6, .int (nI (by2 f (p + 4)))), (7, .int (nI j))], [.int (nI (y + 2)), .ref m0], M1) _
            refine pl_call (a := [.ref m0, .int (nI (y + 2))]) (rest := []) rfl rfl rfl (rd_u4 (n := n) (f := f) (p := (y + 2)) hR1 hF1 (by omega)) (fun v4 M5 q6 => ?_)
            obtain ⟨rfl, rfl⟩ := q6
            show pl _ _ _ (82, [(0, .ref m0), (1, .int (nI p0)), (2, .int (nI e)), (3, .int (nI (by2 f p0))), (4, .int (nI y)), (5, .int (nI i)), (6, .int (nI (by2 f (p + 4)))), (7, .int (nI j))], [.long (nL (by4 f (y + 2)))], M1) _
            have hu_79 := by4_lt f (y + 2)
            refine ps_st (S' := (83, [(0, .ref m0), (1, .int (nI p0)), (2, .int (nI e)), (3, .int (nI (by2 f p0))), (4, .int (nI y)), (5, .int (nI i)), (6, .int (nI (by2 f (p + 4)))), (7, .int (nI j))], [.int (nI e), .long (nL (by4 f (y + 2)))], M1)) rfl rfl rfl ?_
            refine ps_st (S' := (85, [(0, .ref m0), (1, .int (nI p0)), (2, .int (nI e)), (3, .int (nI (by2 f p0))), (4, .int (nI y)), (5, .int (nI i)), (6, .int (nI (by2 f (p + 4)))), (7, .int (nI j))], [.int (nI y), .int (nI e), .long (nL (by4 f (y + 2)))], M1)) rfl rfl rfl ?_
            refine ps_st (S' := (86, [(0, .ref m0), (1, .int (nI p0)), (2, .int (nI e)), (3, .int (nI (by2 f p0))), (4, .int (nI y)), (5, .int (nI i)), (6, .int (nI (by2 f (p + 4)))), (7, .int (nI j))], [.int ((nI e) - (nI y)), .long (nL (by4 f (y + 2)))], M1)) rfl rfl rfl ?_
            rw [nI_sub1 (p := e) (k := y) (x := (nI y)) rfl (by omega) (by omega)]
            show pl _ _ _ (_, [(0, .ref m0), (1, .int (nI p0)), (2, .int (nI e)), (3, .int (nI (by2 f p0))), (4, .int (nI y)), (5, .int (nI i)), (6, .int (nI (by2 f (p + 4)))), (7, .int (nI j))], [.int (nI (e - y)), .long (nL (by4 f (y + 2)))], M1) _
            refine ps_st (S' := (88, [(0, .ref m0), (1, .int (nI p0)), (2, .int (nI e)), (3, .int (nI (by2 f p0))), (4, .int (nI y)), (5, .int (nI i)), (6, .int (nI (by2 f (p + 4)))), (7, .int (nI j))], [.int 6, .int (nI (e - y)), .long (nL (by4 f (y + 2)))], M1)) rfl rfl rfl ?_
            refine ps_st (S' := (89, [(0, .ref m0), (1, .int (nI p0)), (2, .int (nI e)), (3, .int (nI (by2 f p0))), (4, .int (nI y)), (5, .int (nI i)), (6, .int (nI (by2 f (p + 4)))), (7, .int (nI j))], [.int ((nI (e - y)) - 6), .long (nL (by4 f (y + 2)))], M1)) rfl rfl rfl ?_
            rw [nI_sub1 (p := e - y) (k := 6) (x := 6) rfl (by omega) (by omega)]
            show pl _ _ _ (_, [(0, .ref m0), (1, .int (nI p0)), (2, .int (nI e)), (3, .int (nI (by2 f p0))), (4, .int (nI y)), (5, .int (nI i)), (6, .int (nI (by2 f (p + 4)))), (7, .int (nI j))], [.int (nI ((e - y) - 6)), .long (nL (by4 f (y + 2)))], M1) _
            refine ps_st (S' := (90, [(0, .ref m0), (1, .int (nI p0)), (2, .int (nI e)), (3, .int (nI (by2 f p0))), (4, .int (nI y)), (5, .int (nI i)), (6, .int (nI (by2 f (p + 4)))), (7, .int (nI j))], [.long (Int32.toInt64 (nI ((e - y) - 6))), .long (nL (by4 f (y + 2)))], M1)) rfl rfl rfl ?_
            rw [i2l_nL (p := (e - y) - 6) (by omega)]
            show pl _ _ _ (_, [(0, .ref m0), (1, .int (nI p0)), (2, .int (nI e)), (3, .int (nI (by2 f p0))), (4, .int (nI y)), (5, .int (nI i)), (6, .int (nI (by2 f (p + 4)))), (7, .int (nI j))], [.long (nL ((e - y) - 6)), .long (nL (by4 f (y + 2)))], M1) _
            refine ps_st (S' := (91, [(0, .ref m0), (1, .int (nI p0)), (2, .int (nI e)), (3, .int (nI (by2 f p0))), (4, .int (nI y)), (5, .int (nI i)), (6, .int (nI (by2 f (p + 4)))), (7, .int (nI j))], [.int (lg_cmp (nL (by4 f (y + 2))) (nL ((e - y) - 6)))], M1)) rfl rfl rfl ?_
            refine ps_if (S1 := (97, [(0, .ref m0), (1, .int (nI p0)), (2, .int (nI e)), (3, .int (nI (by2 f p0))), (4, .int (nI y)), (5, .int (nI i)), (6, .int (nI (by2 f (p + 4)))), (7, .int (nI j))], [], M1)) (S2 := (94, [], [], M1)) rfl rfl rfl (fun c_91 => ?_) (fun c_91 => ?_)
            · have n_91 : by4 f (y + 2) ≤ (e - y) - 6 := (cL_le (p := by4 f (y + 2)) (k := (e - y) - 6) (x := (nL (by4 f (y + 2)))) (y := (nL ((e - y) - 6))) rfl rfl (by omega) (by omega)).mp (of_decide_eq_true c_91)
              refine ps_st (S' := (99, [(0, .ref m0), (1, .int (nI p0)), (2, .int (nI e)), (3, .int (nI (by2 f p0))), (4, .int (nI y)), (5, .int (nI i)), (6, .int (nI (by2 f (p + 4)))), (7, .int (nI j))], [.int (nI y)], M1)) rfl rfl rfl ?_
              refine ps_st (S' := (101, [(0, .ref m0), (1, .int (nI p0)), (2, .int (nI e)), (3, .int (nI (by2 f p0))), (4, .int (nI y)), (5, .int (nI i)), (6, .int (nI (by2 f (p + 4)))), (7, .int (nI j))], [.int 6, .int (nI y)], M1)) rfl rfl rfl ?_
              refine ps_st (S' := (102, [(0, .ref m0), (1, .int (nI p0)), (2, .int (nI e)), (3, .int (nI (by2 f p0))), (4, .int (nI y)), (5, .int (nI i)), (6, .int (nI (by2 f (p + 4)))), (7, .int (nI j))], [.ref m0, .int 6, .int (nI y)], M1)) rfl rfl rfl ?_
              refine ps_st (S' := (104, [(0, .ref m0), (1, .int (nI p0)), (2, .int (nI e)), (3, .int (nI (by2 f p0))), (4, .int (nI y)), (5, .int (nI i)), (6, .int (nI (by2 f (p + 4)))), (7, .int (nI j))], [.int (nI y), .ref m0, .int 6, .int (nI y)], M1)) rfl rfl rfl ?_
              refine ps_st (S' := (105, [(0, .ref m0), (1, .int (nI p0)), (2, .int (nI e)), (3, .int (nI (by2 f p0))), (4, .int (nI y)), (5, .int (nI i)), (6, .int (nI (by2 f (p + 4)))), (7, .int (nI j))], [.int 2, .int (nI y), .ref m0, .int 6, .int (nI y)], M1)) rfl rfl rfl ?_
              refine ps_st (S' := (106, [(0, .ref m0), (1, .int (nI p0)), (2, .int (nI e)), (3, .int (nI (by2 f p0))), (4, .int (nI y)), (5, .int (nI i)), (6, .int (nI (by2 f (p + 4)))), (7, .int (nI j))], [.int ((nI y) + 2), .ref m0, .int 6, .int (nI y)], M1)) rfl rfl rfl ?_
              rw [nI_add1 (p := y) (k := 2) (x := 2) rfl (by omega)]
              show pl _ _ _ (_, [(0, .ref m0), (1, .int (nI p0)), (2, .int (nI e)), (3, .int (nI (by2 f p0))), (4, .int (nI y)), (5, .int (nI i)), (6, .int (nI (by2 f (p + 4)))), (7, .int (nI j))], [.int (nI (y + 2)), .ref m0, .int 6, .int (nI y)], M1) _
              refine pl_call (a := [.ref m0, .int (nI (y + 2))]) (rest := [.int 6, .int (nI y)]) rfl rfl rfl (rd_u4 (n := n) (f := f) (p := (y + 2)) hR1 hF1 (by omega)) (fun v7 M8 q9 => ?_)
              obtain ⟨rfl, rfl⟩ := q9
              show pl _ _ _ (109, [(0, .ref m0), (1, .int (nI p0)), (2, .int (nI e)), (3, .int (nI (by2 f p0))), (4, .int (nI y)), (5, .int (nI i)), (6, .int (nI (by2 f (p + 4)))), (7, .int (nI j))], [.long (nL (by4 f (y + 2))), .int 6, .int (nI y)], M1) _
              have hu_106 := by4_lt f (y + 2)
              refine ps_st (S' := (110, [(0, .ref m0), (1, .int (nI p0)), (2, .int (nI e)), (3, .int (nI (by2 f p0))), (4, .int (nI y)), (5, .int (nI i)), (6, .int (nI (by2 f (p + 4)))), (7, .int (nI j))], [.int (Int64.toInt32 (nL (by4 f (y + 2)))), .int 6, .int (nI y)], M1)) rfl rfl rfl ?_
              rw [l2i_nL (p := by4 f (y + 2)) (by omega)]
              show pl _ _ _ (_, [(0, .ref m0), (1, .int (nI p0)), (2, .int (nI e)), (3, .int (nI (by2 f p0))), (4, .int (nI y)), (5, .int (nI i)), (6, .int (nI (by2 f (p + 4)))), (7, .int (nI j))], [.int (nI (by4 f (y + 2))), .int 6, .int (nI y)], M1) _
              refine ps_st (S' := (111, [(0, .ref m0), (1, .int (nI p0)), (2, .int (nI e)), (3, .int (nI (by2 f p0))), (4, .int (nI y)), (5, .int (nI i)), (6, .int (nI (by2 f (p + 4)))), (7, .int (nI j))], [.int (6 + (nI (by4 f (y + 2)))), .int (nI y)], M1)) rfl rfl rfl ?_
              rw [nI_add2 (p := 6) (k := by4 f (y + 2)) (x := 6) (y := (nI (by4 f (y + 2)))) rfl rfl (by omega)]
              show pl _ _ _ (_, [(0, .ref m0), (1, .int (nI p0)), (2, .int (nI e)), (3, .int (nI (by2 f p0))), (4, .int (nI y)), (5, .int (nI i)), (6, .int (nI (by2 f (p + 4)))), (7, .int (nI j))], [.int (nI (6 + by4 f (y + 2))), .int (nI y)], M1) _
              refine ps_st (S' := (112, [(0, .ref m0), (1, .int (nI p0)), (2, .int (nI e)), (3, .int (nI (by2 f p0))), (4, .int (nI y)), (5, .int (nI i)), (6, .int (nI (by2 f (p + 4)))), (7, .int (nI j))], [.int ((nI y) + (nI (6 + by4 f (y + 2))))], M1)) rfl rfl rfl ?_
              rw [nI_add1 (p := y) (k := 6 + by4 f (y + 2)) (x := (nI (6 + by4 f (y + 2)))) rfl (by omega)]
              rw [show nI (y + (6 + by4 f (y + 2))) = nI (y + 6 + by4 f (y + 2)) from congrArg nI (by omega)]
              show pl _ _ _ (_, [(0, .ref m0), (1, .int (nI p0)), (2, .int (nI e)), (3, .int (nI (by2 f p0))), (4, .int (nI y)), (5, .int (nI i)), (6, .int (nI (by2 f (p + 4)))), (7, .int (nI j))], [.int (nI (y + 6 + by4 f (y + 2)))], M1) _
              refine ps_st (S' := (114, [(4, .int (nI (y + 6 + by4 f (y + 2)))), (0, .ref m0), (1, .int (nI p0)), (2, .int (nI e)), (3, .int (nI (by2 f p0))), (5, .int (nI i)), (6, .int (nI (by2 f (p + 4)))), (7, .int (nI j))], [], M1)) rfl rfl rfl ?_
              refine ps_st (S' := (117, [(7, .int ((nI j) + 1)), (4, .int (nI (y + 6 + by4 f (y + 2)))), (0, .ref m0), (1, .int (nI p0)), (2, .int (nI e)), (3, .int (nI (by2 f p0))), (5, .int (nI i)), (6, .int (nI (by2 f (p + 4))))], [], M1)) rfl rfl rfl ?_
              rw [nI_add1 (p := j) (k := 1) (x := 1) rfl (by omega)]
              show pl _ _ _ (_, [(7, .int (nI (j + 1))), (4, .int (nI (y + 6 + by4 f (y + 2)))), (0, .ref m0), (1, .int (nI p0)), (2, .int (nI e)), (3, .int (nI (by2 f p0))), (5, .int (nI i)), (6, .int (nI (by2 f (p + 4))))], [], M1) _
              refine ps_st (S' := (58, [(0, .ref m0), (1, .int (nI p0)), (2, .int (nI e)), (3, .int (nI (by2 f p0))), (4, .int (nI (y + 6 + by4 f (y + 2)))), (5, .int (nI i)), (6, .int (nI (by2 f (p + 4)))), (7, .int (nI (j + 1)))], [], M1)) rfl rfl rfl ?_
              exact ih.2.1 (i) (p) (j + 1) (y + 6 + by4 f (y + 2)) M1 I1 R1 hR1 hEI1 hER1 hl51 hl52 hl53 hF1 hY1 hP1 (h2) (hi) (by omega) (by omega) (hs) (by
                  rw [← hg, s_atE_st (i := j) (p := y) (by omega), if_neg (by omega), if_neg (by omega)])
            · have n_91 : ¬ (by4 f (y + 2) ≤ (e - y) - 6) := fun h9 => of_decide_eq_false c_91 ((cL_le (p := by4 f (y + 2)) (k := (e - y) - 6) (x := (nL (by4 f (y + 2)))) (y := (nL ((e - y) - 6))) rfl rfl (by omega) (by omega)).mpr h9)
              refine ps_st (S' := (96, [], [.int 30], M1)) rfl rfl rfl ?_
              exact ps_ret rfl rfl (Or.inl ⟨I1, R1, by
                  rw [fe_9 h2, ← hs, s_rcE_st (i := i) (p := p) (by omega), if_neg (by omega), ← hg, s_atE_st (i := j) (p := y) (by omega)]
                  rw [if_neg (by omega), if_pos (by omega)]
                  exact (fun h9 => (by cases h9)), rfl, hR1, hEI1, hER1⟩)
      · skip
        intro i p M1 I1 R1 hR1 hEI1 hER1 hl51 hl52 hl53 hF1 hY1 hP1 hfe hi hf hs
        have hn := hF1.1
        have hu9 := by2_lt f p0
        refine ps_st1 (S' := (145, [(0, .ref m0), (3, .int (nI (by2 f p0))), (4, .int (nI p)), (5, .int (nI i))], [.int (nI i)], M1)) rfl rfl rfl ?_
        refine ps_st (S' := (146, [(0, .ref m0), (3, .int (nI (by2 f p0))), (4, .int (nI p)), (5, .int (nI i))], [.int (nI (by2 f p0)), .int (nI i)], M1)) rfl rfl rfl ?_
        refine ps_if2 (S1 := (296, [(0, .ref m0), (3, .int (nI (by2 f p0))), (4, .int (nI p)), (5, .int (nI i))], [], M1)) (S2 := (149, [(0, .ref m0), (3, .int (nI (by2 f p0))), (4, .int (nI p)), (5, .int (nI i))], [], M1)) rfl rfl rfl (fun c_146 => ?_) (fun c_146 => ?_)
        · have c_146 : (nI (by2 f p0)) ≤ (nI i) := of_decide_eq_true c_146
          have n_146 : by2 f p0 ≤ i := (le_nI (p := by2 f p0) (n := i) (Nat.lt_trans (by2_lt _ _) (by decide)) (by omega)).mp c_146
          refine ps_st (S' := (297, [(0, .ref m0), (3, .int (nI (by2 f p0))), (4, .int (nI p)), (5, .int (nI i))], [.ref m0], M1)) rfl rfl rfl ?_
          refine ps_st (S' := (298, [(0, .ref m0), (3, .int (nI (by2 f p0))), (4, .int (nI p)), (5, .int (nI i))], [.int (nI (by2 f p0)), .ref m0], M1)) rfl rfl rfl ?_
          refine pr_put (j := 72) rfl hR1 rfl (fun M10 I11 hR12 hi13 hI14 => ?_)
          have hi15 := (hI14 51 (by decide)).trans hl51
          have hi16 := (hI14 52 (by decide)).trans hl52
          have hi17 := (hI14 53 (by decide)).trans hl53
          have hF_18 := hF1.mono (pIx hI14 (by decide)) (fun _ _ => rfl)
          have hY_19 := hY1.mono (pIx hI14 (by decide)) (fun _ _ => rfl)
          have hP_20 := hP1.mono (pIx hI14 (by decide)) (fun _ _ => rfl)
          have hEI21 := hEI1.put hI14 (by decide)
          show pl _ _ _ (301, [(0, .ref m0), (3, .int (nI (by2 f p0))), (4, .int (nI p)), (5, .int (nI i))], [], M10) _
          refine ps_st (S' := (302, [(0, .ref m0), (3, .int (nI (by2 f p0))), (4, .int (nI p)), (5, .int (nI i))], [.int 0], M10)) rfl rfl rfl ?_
          exact ps_ret rfl rfl (Or.inr (Or.inr (Or.inr ⟨I11, R1, hfe, by
              rw [← hs, show by2 f p0 - i = 0 by omega]
              rfl, rfl, hR12, hEI21, hER1, hi13⟩)))
        · have c_146 : ¬ ((nI (by2 f p0)) ≤ (nI i)) := of_decide_eq_false c_146
          have n_146 : ¬ (by2 f p0 ≤ i) := fun h9 => c_146 ((le_nI (p := by2 f p0) (n := i) (Nat.lt_trans (by2_lt _ _) (by decide)) (by omega)).mpr h9)
          obtain ⟨hq5, y9, hq6, hq7⟩ := s_rcE_in (i := i) (p := p) hf (by omega)
          refine ps_st (S' := (150, [(0, .ref m0), (3, .int (nI (by2 f p0))), (4, .int (nI p)), (5, .int (nI i))], [.ref m0], M1)) rfl rfl rfl ?_
          refine ps_st (S' := (151, [(0, .ref m0), (3, .int (nI (by2 f p0))), (4, .int (nI p)), (5, .int (nI i))], [.ref m0, .ref m0], M1)) rfl rfl rfl ?_
          refine ps_st (S' := (153, [(0, .ref m0), (3, .int (nI (by2 f p0))), (4, .int (nI p)), (5, .int (nI i))], [.int (nI p), .ref m0, .ref m0], M1)) rfl rfl rfl ?_
          refine pl_call (a := [.ref m0, .int (nI p)]) (rest := [.ref m0]) rfl rfl rfl (rd_u2 (n := n) (f := f) (p := p) hR1 hF1 (by omega)) (fun v22 M23 q24 => ?_)
          obtain ⟨rfl, rfl⟩ := q24
          show pl _ _ _ (156, [(0, .ref m0), (3, .int (nI (by2 f p0))), (4, .int (nI p)), (5, .int (nI i))], [.int (nI (by2 f p)), .ref m0], M1) _
          have hu_153 := by2_lt f p
          refine pl_call (a := [.ref m0, .int (nI (by2 f p))]) (rest := []) rfl rfl rfl (rd_tag (n := n) (f := f) (tx := tx) (cN := cN) (A := A) (N := N) (mj := mj) (E := E) (k := (by2 f p)) hR1 hl51 hl52 hl53 hF1 hY1 hP1 (hEP) (hN) (hmj) (by2_lt _ _)) (fun v25 M26 q27 => ?_)
          obtain ⟨rfl, rfl⟩ := q27
          show pl _ _ _ (159, [(0, .ref m0), (3, .int (nI (by2 f p0))), (4, .int (nI p)), (5, .int (nI i))], [.int (nI (tg f E (by2 f p)))], M1) _
          have htg_156 := tg_lt f E (by2 f p)
          refine ps_st (S' := (160, [(0, .ref m0), (3, .int (nI (by2 f p0))), (4, .int (nI p)), (5, .int (nI i))], [.int 1, .int (nI (tg f E (by2 f p)))], M1)) rfl rfl rfl ?_
          refine ps_if2 (S1 := (216, [], [], M1)) (S2 := (163, [(0, .ref m0), (3, .int (nI (by2 f p0))), (4, .int (nI p)), (5, .int (nI i))], [], M1)) rfl rfl rfl (fun c_160 => ?_) (fun c_160 => ?_)
          · have c_160 : ¬ (nI (tg f E (by2 f p))) = 1 := of_decide_eq_true c_160
            have n_160 : ¬ (tg f E (by2 f p) = 1) := fun h9 => c_160 ((eq_nI (p := tg f E (by2 f p)) (n := 1) (Nat.lt_trans (tg_lt _ _ _) (by decide)) (by decide)).mpr h9)
            refine ps_st (S' := (218, [], [.int 37], M1)) rfl rfl rfl ?_
            exact ps_ret rfl rfl (Or.inr (Or.inl ⟨I1, R1, hfe, by
                rw [← hs, rcS_st (i := i) (by omega), if_pos (Or.inl (by rw [tx_no (by omega)]; decide))], rfl, hR1, hEI1, hER1⟩))
          · have c_160 : ¬ (¬ (nI (tg f E (by2 f p))) = 1) := of_decide_eq_false c_160
            have n_160 : tg f E (by2 f p) = 1 := (eq_nI (p := tg f E (by2 f p)) (n := 1) (Nat.lt_trans (tg_lt _ _ _) (by decide)) (by decide)).mp (Decidable.not_not.mp c_160)
            refine ps_st (S' := (164, [(0, .ref m0), (3, .int (nI (by2 f p0))), (4, .int (nI p)), (5, .int (nI i))], [.ref m0], M1)) rfl rfl rfl ?_
            refine ps_st (S' := (165, [(0, .ref m0), (3, .int (nI (by2 f p0))), (4, .int (nI p)), (5, .int (nI i))], [.ref m0, .ref m0], M1)) rfl rfl rfl ?_
            refine ps_st (S' := (166, [(0, .ref m0), (3, .int (nI (by2 f p0))), (4, .int (nI p)), (5, .int (nI i))], [.ref m0, .ref m0, .ref m0], M1)) rfl rfl rfl ?_
            refine ps_st (S' := (168, [(0, .ref m0), (3, .int (nI (by2 f p0))), (4, .int (nI p)), (5, .int (nI i))], [.int (nI p), .ref m0, .ref m0, .ref m0], M1)) rfl rfl rfl ?_
            refine pl_call (a := [.ref m0, .int (nI p)]) (rest := [.ref m0, .ref m0]) rfl rfl rfl (rd_u2 (n := n) (f := f) (p := p) hR1 hF1 (by omega)) (fun v28 M29 q30 => ?_)
            obtain ⟨rfl, rfl⟩ := q30
            show pl _ _ _ (171, [(0, .ref m0), (3, .int (nI (by2 f p0))), (4, .int (nI p)), (5, .int (nI i))], [.int (nI (by2 f p)), .ref m0, .ref m0], M1) _
            have hu_168 := by2_lt f p
            refine pl_call (a := [.ref m0, .int (nI (by2 f p))]) (rest := [.ref m0]) rfl rfl rfl (rd_symOf (n := n) (f := f) (tx := tx) (cN := cN) (A := A) (N := N) (mj := mj) (E := E) (k := (by2 f p)) hR1 hl51 hl52 hl53 hF1 hY1 hP1 (hEP) (hN) (hmj) (by omega)) (fun v31 M32 q33 => ?_)
            obtain ⟨s34, q171_s, rfl, rfl⟩ := q33
            show pl _ _ _ (174, [(0, .ref m0), (3, .int (nI (by2 f p0))), (4, .int (nI p)), (5, .int (nI i))], [.int (nI s34), .ref m0], M1) _
            have hsl_171 := q171_s.1
            have htl_171 := hY1.1.2.2.1
            refine ps_st (S' := (175, [(0, .ref m0), (3, .int (nI (by2 f p0))), (4, .int (nI p)), (5, .int (nI i))], [.int 1, .int (nI s34), .ref m0], M1)) rfl rfl rfl ?_
            refine pl_call (a := [.ref m0, .int (nI s34), .int 1]) (rest := []) rfl rfl rfl (rd_unq1 (tx := tx) (cN := cN) (A := A) (s := s34) (l := (tX f n E (by2 f p))) hR1 hY1 (q171_s)) (fun v35 M36 q37 => ?_)
            obtain ⟨rfl, rfl⟩ := q37
            show pl _ _ _ (178, [(0, .ref m0), (3, .int (nI (by2 f p0))), (4, .int (nI p)), (5, .int (nI i))], [.int (nI (unqN (tX f n E (by2 f p))))], M1) _
            refine ps_if (S1 := (216, [], [], M1)) (S2 := (181, [(0, .ref m0), (3, .int (nI (by2 f p0))), (4, .int (nI p)), (5, .int (nI i))], [], M1)) rfl rfl rfl (fun c_178 => ?_) (fun c_178 => ?_)
            · have c_178 : (nI (unqN (tX f n E (by2 f p)))) = 0 := of_decide_eq_true c_178
              have n_178 : unqN (tX f n E (by2 f p)) = 0 := (eq_nI (p := unqN (tX f n E (by2 f p))) (n := 0) (Nat.lt_trans (le1_unq _) (by decide)) (by decide)).mp c_178
              refine ps_st (S' := (218, [], [.int 37], M1)) rfl rfl rfl ?_
              exact ps_ret rfl rfl (Or.inr (Or.inl ⟨I1, R1, hfe, by
                  rw [← hs, rcS_st (i := i) (by omega), if_pos (by omega)], rfl, hR1, hEI1, hER1⟩))
            · have c_178 : ¬ ((nI (unqN (tX f n E (by2 f p)))) = 0) := of_decide_eq_false c_178
              have n_178 : ¬ (unqN (tX f n E (by2 f p)) = 0) := fun h9 => c_178 ((eq_nI (p := unqN (tX f n E (by2 f p))) (n := 0) (Nat.lt_trans (le1_unq _) (by decide)) (by decide)).mpr h9)
              refine ps_st (S' := (182, [(0, .ref m0), (3, .int (nI (by2 f p0))), (4, .int (nI p)), (5, .int (nI i))], [.ref m0], M1)) rfl rfl rfl ?_
              refine ps_st (S' := (183, [(0, .ref m0), (3, .int (nI (by2 f p0))), (4, .int (nI p)), (5, .int (nI i))], [.ref m0, .ref m0], M1)) rfl rfl rfl ?_
              refine ps_st (S' := (185, [(0, .ref m0), (3, .int (nI (by2 f p0))), (4, .int (nI p)), (5, .int (nI i))], [.int (nI p), .ref m0, .ref m0], M1)) rfl rfl rfl ?_
              refine ps_st (S' := (186, [(0, .ref m0), (3, .int (nI (by2 f p0))), (4, .int (nI p)), (5, .int (nI i))], [.int 2, .int (nI p), .ref m0, .ref m0], M1)) rfl rfl rfl ?_
              refine ps_st (S' := (187, [(0, .ref m0), (3, .int (nI (by2 f p0))), (4, .int (nI p)), (5, .int (nI i))], [.int ((nI p) + 2), .ref m0, .ref m0], M1)) rfl rfl rfl ?_
              rw [nI_add1 (p := p) (k := 2) (x := 2) rfl (by omega)]
              show pl _ _ _ (_, [(0, .ref m0), (3, .int (nI (by2 f p0))), (4, .int (nI p)), (5, .int (nI i))], [.int (nI (p + 2)), .ref m0, .ref m0], M1) _
              refine pl_call (a := [.ref m0, .int (nI (p + 2))]) (rest := [.ref m0]) rfl rfl rfl (rd_u2 (n := n) (f := f) (p := (p + 2)) hR1 hF1 (by omega)) (fun v38 M39 q40 => ?_)
              obtain ⟨rfl, rfl⟩ := q40
              show pl _ _ _ (190, [(0, .ref m0), (3, .int (nI (by2 f p0))), (4, .int (nI p)), (5, .int (nI i))], [.int (nI (by2 f (p + 2))), .ref m0], M1) _
              have hu_187 := by2_lt f (p + 2)
              refine pl_call (a := [.ref m0, .int (nI (by2 f (p + 2)))]) (rest := []) rfl rfl rfl (rd_tag (n := n) (f := f) (tx := tx) (cN := cN) (A := A) (N := N) (mj := mj) (E := E) (k := (by2 f (p + 2))) hR1 hl51 hl52 hl53 hF1 hY1 hP1 (hEP) (hN) (hmj) (by2_lt _ _)) (fun v41 M42 q43 => ?_)
              obtain ⟨rfl, rfl⟩ := q43
              show pl _ _ _ (193, [(0, .ref m0), (3, .int (nI (by2 f p0))), (4, .int (nI p)), (5, .int (nI i))], [.int (nI (tg f E (by2 f (p + 2))))], M1) _
              have htg_190 := tg_lt f E (by2 f (p + 2))
              refine ps_st (S' := (194, [(0, .ref m0), (3, .int (nI (by2 f p0))), (4, .int (nI p)), (5, .int (nI i))], [.int 1, .int (nI (tg f E (by2 f (p + 2))))], M1)) rfl rfl rfl ?_
              refine ps_if2 (S1 := (216, [], [], M1)) (S2 := (197, [(0, .ref m0), (3, .int (nI (by2 f p0))), (4, .int (nI p)), (5, .int (nI i))], [], M1)) rfl rfl rfl (fun c_194 => ?_) (fun c_194 => ?_)
              · have c_194 : ¬ (nI (tg f E (by2 f (p + 2)))) = 1 := of_decide_eq_true c_194
                have n_194 : ¬ (tg f E (by2 f (p + 2)) = 1) := fun h9 => c_194 ((eq_nI (p := tg f E (by2 f (p + 2))) (n := 1) (Nat.lt_trans (tg_lt _ _ _) (by decide)) (by decide)).mpr h9)
                refine ps_st (S' := (218, [], [.int 37], M1)) rfl rfl rfl ?_
                exact ps_ret rfl rfl (Or.inr (Or.inl ⟨I1, R1, hfe, by
                    rw [← hs, rcS_st (i := i) (by omega), if_pos (Or.inr (by rw [tx_no (by omega)]; decide))], rfl, hR1, hEI1, hER1⟩))
              · have c_194 : ¬ (¬ (nI (tg f E (by2 f (p + 2)))) = 1) := of_decide_eq_false c_194
                have n_194 : tg f E (by2 f (p + 2)) = 1 := (eq_nI (p := tg f E (by2 f (p + 2))) (n := 1) (Nat.lt_trans (tg_lt _ _ _) (by decide)) (by decide)).mp (Decidable.not_not.mp c_194)
                refine ps_st (S' := (198, [(0, .ref m0), (3, .int (nI (by2 f p0))), (4, .int (nI p)), (5, .int (nI i))], [.ref m0], M1)) rfl rfl rfl ?_
                refine ps_st (S' := (199, [(0, .ref m0), (3, .int (nI (by2 f p0))), (4, .int (nI p)), (5, .int (nI i))], [.ref m0, .ref m0], M1)) rfl rfl rfl ?_
                refine ps_st (S' := (200, [(0, .ref m0), (3, .int (nI (by2 f p0))), (4, .int (nI p)), (5, .int (nI i))], [.ref m0, .ref m0, .ref m0], M1)) rfl rfl rfl ?_
                refine ps_st (S' := (202, [(0, .ref m0), (3, .int (nI (by2 f p0))), (4, .int (nI p)), (5, .int (nI i))], [.int (nI p), .ref m0, .ref m0, .ref m0], M1)) rfl rfl rfl ?_
                refine ps_st (S' := (203, [(0, .ref m0), (3, .int (nI (by2 f p0))), (4, .int (nI p)), (5, .int (nI i))], [.int 2, .int (nI p), .ref m0, .ref m0, .ref m0], M1)) rfl rfl rfl ?_
                refine ps_st (S' := (204, [(0, .ref m0), (3, .int (nI (by2 f p0))), (4, .int (nI p)), (5, .int (nI i))], [.int ((nI p) + 2), .ref m0, .ref m0, .ref m0], M1)) rfl rfl rfl ?_
                rw [nI_add1 (p := p) (k := 2) (x := 2) rfl (by omega)]
                show pl _ _ _ (_, [(0, .ref m0), (3, .int (nI (by2 f p0))), (4, .int (nI p)), (5, .int (nI i))], [.int (nI (p + 2)), .ref m0, .ref m0, .ref m0], M1) _
                refine pl_call (a := [.ref m0, .int (nI (p + 2))]) (rest := [.ref m0, .ref m0]) rfl rfl rfl (rd_u2 (n := n) (f := f) (p := (p + 2)) hR1 hF1 (by omega)) (fun v44 M45 q46 => ?_)
                obtain ⟨rfl, rfl⟩ := q46
                show pl _ _ _ (207, [(0, .ref m0), (3, .int (nI (by2 f p0))), (4, .int (nI p)), (5, .int (nI i))], [.int (nI (by2 f (p + 2))), .ref m0, .ref m0], M1) _
                have hu_204 := by2_lt f (p + 2)
                refine pl_call (a := [.ref m0, .int (nI (by2 f (p + 2)))]) (rest := [.ref m0]) rfl rfl rfl (rd_symOf (n := n) (f := f) (tx := tx) (cN := cN) (A := A) (N := N) (mj := mj) (E := E) (k := (by2 f (p + 2))) hR1 hl51 hl52 hl53 hF1 hY1 hP1 (hEP) (hN) (hmj) (by omega)) (fun v47 M48 q49 => ?_)
                obtain ⟨s50, q207_s, rfl, rfl⟩ := q49
                show pl _ _ _ (210, [(0, .ref m0), (3, .int (nI (by2 f p0))), (4, .int (nI p)), (5, .int (nI i))], [.int (nI s50), .ref m0], M1) _
                have hsl_207 := q207_s.1
                have htl_207 := hY1.1.2.2.1
                refine pl_call (a := [.ref m0, .int (nI s50)]) (rest := []) rfl rfl rfl (rd_isField (tx := tx) (cN := cN) (A := A) (s := s50) (l := (tX f n E (by2 f (p + 2)))) hR1 hY1 (q207_s)) (fun v51 M52 q53 => ?_)
                obtain ⟨rfl, rfl⟩ := q53
                show pl _ _ _ (213, [(0, .ref m0), (3, .int (nI (by2 f p0))), (4, .int (nI p)), (5, .int (nI i))], [.int (nI (fldN (tX f n E (by2 f (p + 2)))))], M1) _
                refine ps_if (S1 := (219, [(0, .ref m0), (3, .int (nI (by2 f p0))), (4, .int (nI p)), (5, .int (nI i))], [], M1)) (S2 := (216, [], [], M1)) rfl rfl rfl (fun c_213 => ?_) (fun c_213 => ?_)
                · have c_213 : ¬ (nI (fldN (tX f n E (by2 f (p + 2))))) = 0 := of_decide_eq_true c_213
                  have n_213 : ¬ (fldN (tX f n E (by2 f (p + 2))) = 0) := fun h9 => c_213 ((eq_nI (p := fldN (tX f n E (by2 f (p + 2)))) (n := 0) (Nat.lt_trans (le1_fld _) (by decide)) (by decide)).mpr h9)
                  refine ps_st (S' := (220, [(0, .ref m0), (3, .int (nI (by2 f p0))), (4, .int (nI p)), (5, .int (nI i))], [.ref m0], M1)) rfl rfl rfl ?_
                  refine ps_st (S' := (222, [(0, .ref m0), (3, .int (nI (by2 f p0))), (4, .int (nI p)), (5, .int (nI i))], [.int (nI p), .ref m0], M1)) rfl rfl rfl ?_
                  refine ps_st (S' := (223, [(0, .ref m0), (3, .int (nI (by2 f p0))), (4, .int (nI p)), (5, .int (nI i))], [.int 4, .int (nI p), .ref m0], M1)) rfl rfl rfl ?_
                  refine ps_st (S' := (224, [(0, .ref m0), (3, .int (nI (by2 f p0))), (4, .int (nI p)), (5, .int (nI i))], [.int ((nI p) + 4), .ref m0], M1)) rfl rfl rfl ?_
                  rw [nI_add1 (p := p) (k := 4) (x := 4) rfl (by omega)]
                  show pl _ _ _ (_, [(0, .ref m0), (3, .int (nI (by2 f p0))), (4, .int (nI p)), (5, .int (nI i))], [.int (nI (p + 4)), .ref m0], M1) _
                  refine pl_call (a := [.ref m0, .int (nI (p + 4))]) (rest := []) rfl rfl rfl (rd_u2 (n := n) (f := f) (p := (p + 4)) hR1 hF1 (by omega)) (fun v54 M55 q56 => ?_)
                  obtain ⟨rfl, rfl⟩ := q56
                  show pl _ _ _ (227, [(0, .ref m0), (3, .int (nI (by2 f p0))), (4, .int (nI p)), (5, .int (nI i))], [.int (nI (by2 f (p + 4)))], M1) _
                  have hu_224 := by2_lt f (p + 4)
                  refine ps_st (S' := (229, [(6, .int (nI (by2 f (p + 4)))), (0, .ref m0), (3, .int (nI (by2 f p0))), (4, .int (nI p)), (5, .int (nI i))], [], M1)) rfl rfl rfl ?_
                  refine ps_st (S' := (232, [(4, .int ((nI p) + 6)), (6, .int (nI (by2 f (p + 4)))), (0, .ref m0), (3, .int (nI (by2 f p0))), (5, .int (nI i))], [], M1)) rfl rfl rfl ?_
                  rw [nI_add1 (p := p) (k := 6) (x := 6) rfl (by omega)]
                  show pl _ _ _ (_, [(4, .int (nI (p + 6))), (6, .int (nI (by2 f (p + 4)))), (0, .ref m0), (3, .int (nI (by2 f p0))), (5, .int (nI i))], [], M1) _
                  refine ps_st (S' := (233, [(4, .int (nI (p + 6))), (6, .int (nI (by2 f (p + 4)))), (0, .ref m0), (3, .int (nI (by2 f p0))), (5, .int (nI i))], [.int 0], M1)) rfl rfl rfl ?_
                  refine ps_st (S' := (235, [(0, .ref m0), (3, .int (nI (by2 f p0))), (4, .int (nI (p + 6))), (5, .int (nI i)), (6, .int (nI (by2 f (p + 4)))), (7, .int 0)], [], M1)) rfl rfl rfl ?_
                  exact ih.2.2.2 (i) (p) (0) (p + 6) (y9) M1 I1 R1 hR1 hEI1 hER1 hl51 hl52 hl53 hF1 hY1 hP1 (hfe) (by omega) (by omega) (hq6) (hq7) (by omega) (hs) (rfl)
                · have c_213 : ¬ (¬ (nI (fldN (tX f n E (by2 f (p + 2))))) = 0) := of_decide_eq_false c_213
                  have n_213 : fldN (tX f n E (by2 f (p + 2))) = 0 := (eq_nI (p := fldN (tX f n E (by2 f (p + 2)))) (n := 0) (Nat.lt_trans (le1_fld _) (by decide)) (by decide)).mp (Decidable.not_not.mp c_213)
                  refine ps_st (S' := (218, [], [.int 37], M1)) rfl rfl rfl ?_
                  exact ps_ret rfl rfl (Or.inr (Or.inl ⟨I1, R1, hfe, by
                      rw [← hs, rcS_st (i := i) (by omega), if_pos (by omega)], rfl, hR1, hEI1, hER1⟩))
      · skip
        intro i p j y x9 M1 I1 R1 hR1 hEI1 hER1 hl51 hl52 hl53 hF1 hY1 hP1 hfe hi hj hg hf2 h37 hs hd
        have hn := hF1.1
        have hu9 := by2_lt f p0
        have hu8 := by2_lt f (p + 4)
        refine ps_st1 (S' := (237, [(0, .ref m0), (3, .int (nI (by2 f p0))), (4, .int (nI y)), (5, .int (nI i)), (6, .int (nI (by2 f (p + 4)))), (7, .int (nI j))], [.int (nI j)], M1)) rfl rfl rfl ?_
        refine ps_st (S' := (239, [(0, .ref m0), (3, .int (nI (by2 f p0))), (4, .int (nI y)), (5, .int (nI i)), (6, .int (nI (by2 f (p + 4)))), (7, .int (nI j))], [.int (nI (by2 f (p + 4))), .int (nI j)], M1)) rfl rfl rfl ?_
        refine ps_if2 (S1 := (290, [(0, .ref m0), (3, .int (nI (by2 f p0))), (4, .int (nI y)), (5, .int (nI i)), (6, .int (nI (by2 f (p + 4)))), (7, .int (nI j))], [], M1)) (S2 := (242, [(0, .ref m0), (3, .int (nI (by2 f p0))), (4, .int (nI y)), (5, .int (nI i)), (6, .int (nI (by2 f (p + 4)))), (7, .int (nI j))], [], M1)) rfl rfl rfl (fun c_239 => ?_) (fun c_239 => ?_)
        · have c_239 : (nI (by2 f (p + 4))) ≤ (nI j) := of_decide_eq_true c_239
          have n_239 : by2 f (p + 4) ≤ j := (le_nI (p := by2 f (p + 4)) (n := j) (Nat.lt_trans (by2_lt _ _) (by decide)) (by omega)).mp c_239
          refine ps_st (S' := (293, [(5, .int ((nI i) + 1)), (0, .ref m0), (3, .int (nI (by2 f p0))), (4, .int (nI y)), (6, .int (nI (by2 f (p + 4)))), (7, .int (nI j))], [], M1)) rfl rfl rfl ?_
          rw [nI_add1 (p := i) (k := 1) (x := 1) rfl (by omega)]
          show pl _ _ _ (_, [(5, .int (nI (i + 1))), (0, .ref m0), (3, .int (nI (by2 f p0))), (4, .int (nI y)), (6, .int (nI (by2 f (p + 4)))), (7, .int (nI j))], [], M1) _
          refine ps_st (S' := (143, [(0, .ref m0), (3, .int (nI (by2 f p0))), (4, .int (nI y)), (5, .int (nI (i + 1)))], [], M1)) rfl rfl rfl ?_
          exact ih.2.2.1 (i + 1) (y) M1 I1 R1 hR1 hEI1 hER1 hl51 hl52 hl53 hF1 hY1 hP1 (hfe) (by omega) (by
              rw [show by2 f (p + 4) - j = 0 by omega] at hg
              have e9 : y = x9 := Option.some.inj (show some y = some x9 from hg)
              rw [e9]
              exact hf2) (by
              rw [← hs, rcS_st (i := i) (by omega), if_neg h37, ← hd, show by2 f (p + 4) - j = 0 by omega]
              rfl)
        · have c_239 : ¬ ((nI (by2 f (p + 4))) ≤ (nI j)) := of_decide_eq_false c_239
          have n_239 : ¬ (by2 f (p + 4) ≤ j) := fun h9 => c_239 ((le_nI (p := by2 f (p + 4)) (n := j) (Nat.lt_trans (by2_lt _ _) (by decide)) (by omega)).mpr h9)
          obtain ⟨hw5, hw6, hw7⟩ := s_atE_in (i := j) (p := y) hg (by omega)
          refine ps_st (S' := (243, [(0, .ref m0), (3, .int (nI (by2 f p0))), (4, .int (nI y)), (5, .int (nI i)), (6, .int (nI (by2 f (p + 4)))), (7, .int (nI j))], [.ref m0], M1)) rfl rfl rfl ?_
          refine ps_st (S' := (244, [(0, .ref m0), (3, .int (nI (by2 f p0))), (4, .int (nI y)), (5, .int (nI i)), (6, .int (nI (by2 f (p + 4)))), (7, .int (nI j))], [.ref m0, .ref m0], M1)) rfl rfl rfl ?_
          refine ps_st (S' := (246, [(0, .ref m0), (3, .int (nI (by2 f p0))), (4, .int (nI y)), (5, .int (nI i)), (6, .int (nI (by2 f (p + 4)))), (7, .int (nI j))], [.int (nI y), .ref m0, .ref m0], M1)) rfl rfl rfl ?_
          refine pl_call (a := [.ref m0, .int (nI y)]) (rest := [.ref m0]) rfl rfl rfl (rd_u2 (n := n) (f := f) (p := y) hR1 hF1 (by omega)) (fun v57 M58 q59 => ?_)
          obtain ⟨rfl, rfl⟩ := q59
          show pl _ _ _ (249, [(0, .ref m0), (3, .int (nI (by2 f p0))), (4, .int (nI y)), (5, .int (nI i)), (6, .int (nI (by2 f (p + 4)))), (7, .int (nI j))], [.int (nI (by2 f y)), .ref m0], M1) _
          have hu_246 := by2_lt f y
          refine pl_call (a := [.ref m0, .int (nI (by2 f y))]) (rest := []) rfl rfl rfl (rd_tag (n := n) (f := f) (tx := tx) (cN := cN) (A := A) (N := N) (mj := mj) (E := E) (k := (by2 f y)) hR1 hl51 hl52 hl53 hF1 hY1 hP1 (hEP) (hN) (hmj) (by2_lt _ _)) (fun v60 M61 q62 => ?_)
          obtain ⟨rfl, rfl⟩ := q62
          show pl _ _ _ (252, [(0, .ref m0), (3, .int (nI (by2 f p0))), (4, .int (nI y)), (5, .int (nI i)), (6, .int (nI (by2 f (p + 4)))), (7, .int (nI j))], [.int (nI (tg f E (by2 f y)))], M1) _
          have htg_249 := tg_lt f E (by2 f y)
          refine ps_st (S' := (253, [(0, .ref m0), (3, .int (nI (by2 f p0))), (4, .int (nI y)), (5, .int (nI i)), (6, .int (nI (by2 f (p + 4)))), (7, .int (nI j))], [.int 1, .int (nI (tg f E (by2 f y)))], M1)) rfl rfl rfl ?_
          refine ps_if2 (S1 := (267, [(0, .ref m0), (3, .int (nI (by2 f p0))), (4, .int (nI y)), (5, .int (nI i)), (6, .int (nI (by2 f (p + 4)))), (7, .int (nI j))], [], M1)) (S2 := (256, [(0, .ref m0), (3, .int (nI (by2 f p0))), (4, .int (nI y)), (5, .int (nI i)), (6, .int (nI (by2 f (p + 4)))), (7, .int (nI j))], [], M1)) rfl rfl rfl (fun c_253 => ?_) (fun c_253 => ?_)
          · have c_253 : (nI (tg f E (by2 f y))) = 1 := of_decide_eq_true c_253
            have n_253 : tg f E (by2 f y) = 1 := (eq_nI (p := tg f E (by2 f y)) (n := 1) (Nat.lt_trans (tg_lt _ _ _) (by decide)) (by decide)).mp c_253
            refine ps_st (S' := (269, [(0, .ref m0), (3, .int (nI (by2 f p0))), (4, .int (nI y)), (5, .int (nI i)), (6, .int (nI (by2 f (p + 4)))), (7, .int (nI j))], [.int (nI y)], M1)) rfl rfl rfl ?_
            refine ps_st (S' := (271, [(0, .ref m0), (3, .int (nI (by2 f p0))), (4, .int (nI y)), (5, .int (nI i)), (6, .int (nI (by2 f (p + 4)))), (7, .int (nI j))], [.int 6, .int (nI y)], M1)) rfl rfl rfl ?_
            refine ps_st (S' := (272, [(0, .ref m0), (3, .int (nI (by2 f p0))), (4, .int (nI y)), (5, .int (nI i)), (6, .int (nI (by2 f (p + 4)))), (7, .int (nI j))], [.ref m0, .int 6, .int (nI y)], M1)) rfl rfl rfl ?_
            refine ps_st (S' := (274, [(0, .ref m0), (3, .int (nI (by2 f p0))), (4, .int (nI y)), (5, .int (nI i)), (6, .int (nI (by2 f (p + 4)))), (7, .int (nI j))], [.int (nI y), .ref m0, .int 6, .int (nI y)], M1)) rfl rfl rfl ?_
            refine ps_st (S' := (275, [(0, .ref m0), (3, .int (nI (by2 f p0))), (4, .int (nI y)), (5, .int (nI i)), (6, .int (nI (by2 f (p + 4)))), (7, .int (nI j))], [.int 2, .int (nI y), .ref m0, .int 6, .int (nI y)], M1)) rfl rfl rfl ?_
            refine ps_st (S' := (276, [(0, .ref m0), (3, .int (nI (by2 f p0))), (4, .int (nI y)), (5, .int (nI i)), (6, .int (nI (by2 f (p + 4)))), (7, .int (nI j))], [.int ((nI y) + 2), .ref m0, .int 6, .int (nI y)], M1)) rfl rfl rfl ?_
            rw [nI_add1 (p := y) (k := 2) (x := 2) rfl (by omega)]
            show pl _ _ _ (_, [(0, .ref m0), (3, .int (nI (by2 f p0))), (4, .int (nI y)), (5, .int (nI i)), (6, .int (nI (by2 f (p + 4)))), (7, .int (nI j))], [.int (nI (y + 2)), .ref m0, .int 6, .int (nI y)], M1) _
            refine pl_call (a := [.ref m0, .int (nI (y + 2))]) (rest := [.int 6, .int (nI y)]) rfl rfl rfl (rd_u4 (n := n) (f := f) (p := (y + 2)) hR1 hF1 (by omega)) (fun v63 M64 q65 => ?_)
            obtain ⟨rfl, rfl⟩ := q65
            show pl _ _ _ (279, [(0, .ref m0), (3, .int (nI (by2 f p0))), (4, .int (nI y)), (5, .int (nI i)), (6, .int (nI (by2 f (p + 4)))), (7, .int (nI j))], [.long (nL (by4 f (y + 2))), .int 6, .int (nI y)], M1) _
            have hu_276 := by4_lt f (y + 2)
            refine ps_st (S' := (280, [(0, .ref m0), (3, .int (nI (by2 f p0))), (4, .int (nI y)), (5, .int (nI i)), (6, .int (nI (by2 f (p + 4)))), (7, .int (nI j))], [.int (Int64.toInt32 (nL (by4 f (y + 2)))), .int 6, .int (nI y)], M1)) rfl rfl rfl ?_
            rw [l2i_nL (p := by4 f (y + 2)) (by omega)]
            show pl _ _ _ (_, [(0, .ref m0), (3, .int (nI (by2 f p0))), (4, .int (nI y)), (5, .int (nI i)), (6, .int (nI (by2 f (p + 4)))), (7, .int (nI j))], [.int (nI (by4 f (y + 2))), .int 6, .int (nI y)], M1) _
            refine ps_st (S' := (281, [(0, .ref m0), (3, .int (nI (by2 f p0))), (4, .int (nI y)), (5, .int (nI i)), (6, .int (nI (by2 f (p + 4)))), (7, .int (nI j))], [.int (6 + (nI (by4 f (y + 2)))), .int (nI y)], M1)) rfl rfl rfl ?_
            rw [nI_add2 (p := 6) (k := by4 f (y + 2)) (x := 6) (y := (nI (by4 f (y + 2)))) rfl rfl (by omega)]
            show pl _ _ _ (_, [(0, .ref m0), (3, .int (nI (by2 f p0))), (4, .int (nI y)), (5, .int (nI i)), (6, .int (nI (by2 f (p + 4)))), (7, .int (nI j))], [.int (nI (6 + by4 f (y + 2))), .int (nI y)], M1) _
            refine ps_st (S' := (282, [(0, .ref m0), (3, .int (nI (by2 f p0))), (4, .int (nI y)), (5, .int (nI i)), (6, .int (nI (by2 f (p + 4)))), (7, .int (nI j))], [.int ((nI y) + (nI (6 + by4 f (y + 2))))], M1)) rfl rfl rfl ?_
            rw [nI_add1 (p := y) (k := 6 + by4 f (y + 2)) (x := (nI (6 + by4 f (y + 2)))) rfl (by omega)]
            rw [show nI (y + (6 + by4 f (y + 2))) = nI (y + 6 + by4 f (y + 2)) from congrArg nI (by omega)]
            show pl _ _ _ (_, [(0, .ref m0), (3, .int (nI (by2 f p0))), (4, .int (nI y)), (5, .int (nI i)), (6, .int (nI (by2 f (p + 4)))), (7, .int (nI j))], [.int (nI (y + 6 + by4 f (y + 2)))], M1) _
            refine ps_st (S' := (284, [(4, .int (nI (y + 6 + by4 f (y + 2)))), (0, .ref m0), (3, .int (nI (by2 f p0))), (5, .int (nI i)), (6, .int (nI (by2 f (p + 4)))), (7, .int (nI j))], [], M1)) rfl rfl rfl ?_
            refine ps_st (S' := (287, [(7, .int ((nI j) + 1)), (4, .int (nI (y + 6 + by4 f (y + 2)))), (0, .ref m0), (3, .int (nI (by2 f p0))), (5, .int (nI i)), (6, .int (nI (by2 f (p + 4))))], [], M1)) rfl rfl rfl ?_
            rw [nI_add1 (p := j) (k := 1) (x := 1) rfl (by omega)]
            show pl _ _ _ (_, [(7, .int (nI (j + 1))), (4, .int (nI (y + 6 + by4 f (y + 2)))), (0, .ref m0), (3, .int (nI (by2 f p0))), (5, .int (nI i)), (6, .int (nI (by2 f (p + 4))))], [], M1) _
            refine ps_st (S' := (235, [(0, .ref m0), (3, .int (nI (by2 f p0))), (4, .int (nI (y + 6 + by4 f (y + 2)))), (5, .int (nI i)), (6, .int (nI (by2 f (p + 4)))), (7, .int (nI (j + 1)))], [], M1)) rfl rfl rfl ?_
            exact ih.2.2.2 (i) (p) (j + 1) (y + 6 + by4 f (y + 2)) (x9) M1 I1 R1 hR1 hEI1 hER1 hl51 hl52 hl53 hF1 hY1 hP1 (hfe) (hi) (by omega) (hw7) (hf2) (h37) (hs) (by
                rw [← hd, rcA_st (i := j) (by omega), if_neg (by omega)])
          · have c_253 : ¬ ((nI (tg f E (by2 f y))) = 1) := of_decide_eq_false c_253
            have n_253 : ¬ (tg f E (by2 f y) = 1) := fun h9 => c_253 ((eq_nI (p := tg f E (by2 f y)) (n := 1) (Nat.lt_trans (tg_lt _ _ _) (by decide)) (by decide)).mpr h9)
            refine ps_st (S' := (257, [(0, .ref m0), (3, .int (nI (by2 f p0))), (4, .int (nI y)), (5, .int (nI i)), (6, .int (nI (by2 f (p + 4)))), (7, .int (nI j))], [.ref m0], M1)) rfl rfl rfl ?_
            refine ps_st (S' := (259, [(0, .ref m0), (3, .int (nI (by2 f p0))), (4, .int (nI y)), (5, .int (nI i)), (6, .int (nI (by2 f (p + 4)))), (7, .int (nI j))], [.int 28, .ref m0], M1)) rfl rfl rfl ?_
            refine ps_st (S' := (261, [(0, .ref m0), (3, .int (nI (by2 f p0))), (4, .int (nI y)), (5, .int (nI i)), (6, .int (nI (by2 f (p + 4)))), (7, .int (nI j))], [.int (nI y), .int 28, .ref m0], M1)) rfl rfl rfl ?_
            refine pl_call (a := [.ref m0, .int 28, .int (nI y)]) (rest := []) rfl rfl rfl (rd_wrong (x1 := 28) (x2 := (nI y)) hR1) (fun v66 M67 q68 => ?_)
            obtain ⟨I69, R70, rfl, hR71, hI72, hX73, hi74, hi75⟩ := q68
            have hi76 := (hI72 51 (by decide)).trans hl51
            have hi77 := (hI72 52 (by decide)).trans hl52
            have hi78 := (hI72 53 (by decide)).trans hl53
            have hF_79 := hF1.mono (cIx hI72 (by decide)) (cRx hX73 (by decide))
            have hY_80 := hY1.mono (cIx hI72 (by decide)) (cRx hX73 (by decide))
            have hP_81 := hP1.mono (cIx hI72 (by decide)) (cRx hX73 (by decide))
            have hEI82 := hEI1.tr hI72 (by decide)
            have hER83 := hER1.tr hX73 (by decide)
            show pl _ _ _ (264, [(0, .ref m0), (3, .int (nI (by2 f p0))), (4, .int (nI y)), (5, .int (nI i)), (6, .int (nI (by2 f (p + 4)))), (7, .int (nI j))], [.int 0], M67) _
            refine ps_st (S' := (265, [(0, .ref m0), (3, .int (nI (by2 f p0))), (4, .int (nI y)), (5, .int (nI i)), (6, .int (nI (by2 f (p + 4)))), (7, .int (nI j))], [], M67)) rfl rfl rfl ?_
            refine ps_st (S' := (266, [(0, .ref m0), (3, .int (nI (by2 f p0))), (4, .int (nI y)), (5, .int (nI i)), (6, .int (nI (by2 f (p + 4)))), (7, .int (nI j))], [.int (-1)], M67)) rfl rfl rfl ?_
            exact ps_ret rfl rfl (Or.inr (Or.inr (Or.inl ⟨y, I69, R70, hfe, by
                rw [← hs, rcS_st (i := i) (by omega), if_neg h37, ← hd, rcA_st (i := j) (by omega), if_pos (by omega)], rfl, hR71, hEI82, hER83, hi74, hi75⟩)))
  refine ps_st (S' := (1, [(0, .ref m0), (1, .int (nI p0)), (2, .int (nI e))], [.int (nI e)], M)) rfl rfl rfl ?_
  refine ps_st (S' := (2, [(0, .ref m0), (1, .int (nI p0)), (2, .int (nI e))], [.int (nI p0), .int (nI e)], M)) rfl rfl rfl ?_
  refine ps_st (S' := (3, [(0, .ref m0), (1, .int (nI p0)), (2, .int (nI e))], [.int ((nI e) - (nI p0))], M)) rfl rfl rfl ?_
  refine ps_st (S' := (4, [(0, .ref m0), (1, .int (nI p0)), (2, .int (nI e))], [.int 2, .int ((nI e) - (nI p0))], M)) rfl rfl rfl ?_
  refine ps_if2 (S1 := (10, [(0, .ref m0), (1, .int (nI p0)), (2, .int (nI e))], [], M)) (S2 := (7, [(0, .ref m0), (1, .int (nI p0)), (2, .int (nI e))], [], M)) rfl rfl rfl (fun c_4 => ?_) (fun c_4 => ?_)
  · have c_4 : 2 ≤ ((nI e) - (nI p0)) := of_decide_eq_true c_4
    have n_4 : 2 + p0 ≤ e := (le_sub1 (e := e) (p := p0) (k := 2) (by omega) (by omega) (by omega)).mp c_4
    refine ps_st (S' := (11, [(0, .ref m0), (1, .int (nI p0)), (2, .int (nI e))], [.ref m0], M)) rfl rfl rfl ?_
    refine ps_st (S' := (12, [(0, .ref m0), (1, .int (nI p0)), (2, .int (nI e))], [.int (nI p0), .ref m0], M)) rfl rfl rfl ?_
    refine pl_call (a := [.ref m0, .int (nI p0)]) (rest := []) rfl rfl rfl (rd_u2 (n := n) (f := f) (p := p0) hR hF (by omega)) (fun v84 M85 q86 => ?_)
    obtain ⟨rfl, rfl⟩ := q86
    show pl _ _ _ (15, [(0, .ref m0), (1, .int (nI p0)), (2, .int (nI e))], [.int (nI (by2 f p0))], M) _
    have hu_12 := by2_lt f p0
    refine ps_st (S' := (16, [(3, .int (nI (by2 f p0))), (0, .ref m0), (1, .int (nI p0)), (2, .int (nI e))], [], M)) rfl rfl rfl ?_
    refine ps_st (S' := (17, [(3, .int (nI (by2 f p0))), (0, .ref m0), (1, .int (nI p0)), (2, .int (nI e))], [.int (nI p0)], M)) rfl rfl rfl ?_
    refine ps_st (S' := (18, [(3, .int (nI (by2 f p0))), (0, .ref m0), (1, .int (nI p0)), (2, .int (nI e))], [.int 2, .int (nI p0)], M)) rfl rfl rfl ?_
    refine ps_st (S' := (19, [(3, .int (nI (by2 f p0))), (0, .ref m0), (1, .int (nI p0)), (2, .int (nI e))], [.int ((nI p0) + 2)], M)) rfl rfl rfl ?_
    rw [nI_add1 (p := p0) (k := 2) (x := 2) rfl (by omega)]
    show pl _ _ _ (_, [(3, .int (nI (by2 f p0))), (0, .ref m0), (1, .int (nI p0)), (2, .int (nI e))], [.int (nI (p0 + 2))], M) _
    refine ps_st (S' := (21, [(4, .int (nI (p0 + 2))), (3, .int (nI (by2 f p0))), (0, .ref m0), (1, .int (nI p0)), (2, .int (nI e))], [], M)) rfl rfl rfl ?_
    refine ps_st (S' := (22, [(4, .int (nI (p0 + 2))), (3, .int (nI (by2 f p0))), (0, .ref m0), (1, .int (nI p0)), (2, .int (nI e))], [.int 0], M)) rfl rfl rfl ?_
    refine ps_st (S' := (24, [(0, .ref m0), (1, .int (nI p0)), (2, .int (nI e)), (3, .int (nI (by2 f p0))), (4, .int (nI (p0 + 2))), (5, .int 0)], [], M)) rfl rfl rfl ?_
    exact (LL kf).1 (0) (p0 + 2) M I R hR hEI hER hi51 hi52 hi53 hF hY hP (by omega) (by omega) (by omega) (rfl)
  · have c_4 : ¬ (2 ≤ ((nI e) - (nI p0))) := of_decide_eq_false c_4
    have n_4 : ¬ (2 + p0 ≤ e) := fun h8 => c_4 ((le_sub1 (e := e) (p := p0) (k := 2) (by omega) (by omega) (by omega)).mpr h8)
    refine ps_st (S' := (9, [(0, .ref m0), (1, .int (nI p0)), (2, .int (nI e))], [.int 30], M)) rfl rfl rfl ?_
    exact ps_ret rfl rfl (Or.inl ⟨I, R, fe_2 (by omega), rfl, hR, hEI, hER⟩)
end
section
/-! attributes that the reference knows (my own text) -/
section KNA
def kiN (i : Nat) : Nat := [1, 2, 2, 3, 4, 4, 4, 4, 4, 4].getD i 0
def kfN (i : Nat) : Nat := [0, 0, 0, 50, 0, 51, 55, 55, 60, 61].getD i 0
theorem kiN_lt (i : Nat) : kiN i < 5 := by
  have : ∀ i, i < 10 → kiN i < 5 := by decide
  by_cases h : i < 10
  · exact this i h
  · unfold kiN
    rw [List.getD_eq_getElem?_getD, List.getElem?_eq_none (by simp; omega)]
    decide
theorem kfN_lt (i : Nat) : kfN i < 62 := by
  have : ∀ i, i < 10 → kfN i < 62 := by decide
  by_cases h : i < 10
  · exact this i h
  · unfold kfN
    rw [List.getD_eq_getElem?_getD, List.getElem?_eq_none (by simp; omega)]
    decide
/-- the last name ahead of number i that this text is -/
def kb (mj wh : Nat) (l : List Nat) : Nat → Option Nat
  | 0 => none
  | i + 1 => if kiN i = wh ∧ kfN i ≤ mj ∧ ¬ eqN l (ltx (15 + i)) = 0 then some i else kb mj wh l i
theorem kb_3 {mj : Nat} {l : List Nat} : kb mj 3 l 10 = if 50 ≤ mj ∧ ¬ eqN l (ltx 18) = 0 then some 3 else none := by
  simp only [kb, kiN, kfN]
  simp
/-- the row of names, its kinds and versions -/
def KX (I : rI) (R : rR) : Prop := ∀ i, i < 10 → R 63 i = some (nI (kiN i)) ∧ R 64 i = some (nI (kfN i))
theorem KX.mono {I I' : rI} {R R' : rR} (h : KX I R) (hI : ∀ k, k ∈ ([] : List Nat) → I' k = I k) (hR : ∀ k, k ∈ [63, 64] → R' k = R k) : KX I' R' := fun i hi => by
  rw [hR 63 (by decide), hR 64 (by decide)]
  exact h i hi
theorem knl_at : ∀ j, j < 10 → knl[j]? = some (15 + j) := by decide
variable {g : xe_G} {m0 : Nat} {q : Nat → Nat} {z : Nat × Nat} {I : rI} {R : rR} {M : mi_H} {T : Nat → Option (Nat × mi_B)} {k pc : Nat} {tb : mi_B} {lv : List (Nat × Value)} {s0 : List Value} {S' : mi_S} {Q : Option Value → mi_H → Prop}
theorem pr_kn {j : Nat} (h1 : tb.1 pc = some (.inl (o_ald (.object "java/lang/String")))) (hR : RS g m0 q z I R M) (hj : j < 10) (e1 : mi_nk tb.2 (pc + 1, lv, .ref (g.2.1 (15 + j)) :: s0, M) = S') (kk : pl T k tb S' Q) : pl T k tb (pc, lv, .int (nI j) :: .ref (q 62) :: s0, M) Q := by
  subst e1
  refine pl_st h1 (fun S1 h => ?_)
  have hg : mi_ga M (q 62) (.object "java/lang/String") = some (10, fun i => (knl[i]?).map (fun j => Value.ref (g.2.1 j))) := by
    unfold mi_ga
    rw [hR.2.2.1]
    simp
  unfold o_ald at h
  simp only [hg] at h
  split at h
  · cases h
  · rw [nI_toNat (by omega), knl_at j hj] at h
    cases h
    exact kk
theorem pr_knl (h1 : tb.1 pc = some (.inl (o_alen (.object "java/lang/String")))) (hR : RS g m0 q z I R M) (e1 : mi_nk tb.2 (pc + 1, lv, .int (nI 10) :: s0, M) = S') (kk : pl T k tb S' Q) : pl T k tb (pc, lv, .ref (q 62) :: s0, M) Q := by
  subst e1
  have hg : mi_ga M (q 62) (.object "java/lang/String") = some (10, fun i => (knl[i]?).map (fun j => Value.ref (g.2.1 j))) := by
    unfold mi_ga
    rw [hR.2.2.1]
    simp
  exact pl_is h1 (S' := (pc + 1, lv, .int (nI 10) :: s0, M)) (by simp only [o_alen, hg]; rfl) kk
end KNA
theorem lt_eq3 : ltx 18 = ltx 10 := by decide +kernel
set_option maxHeartbeats 1000000 in
theorem rd_attr3 {g : xe_G} {m0 : Nat} {q : Nat → Nat} {z : Nat × Nat} {I : rI} {R : rR} {M : mi_H} {x2 x3 x4 x5 x6 : Int32} (hR : RS g m0 q z I R M)    : pt (mT g) 177 [.ref m0, .int 3, .int x2, .int x3, .int x4, .int x5, .int x6] M (fun v M' => (v = some (.int 0) ∧ M = M')) := by
  refine pt_in (b := mb_177 g) rfl (fun kf => ?_)
  show pl (mT g) kf (mb_177 g).2 (0, [(0, .ref m0), (1, .int 3), (2, .int x2), (3, .int x3), (4, .int x4), (5, .int x5), (6, .int x6)], [], M) _
  refine ps_st (S' := (1, [(0, .ref m0), (1, .int 3), (2, .int x2), (3, .int x3), (4, .int x4), (5, .int x5), (6, .int x6)], [.int 3], M)) rfl rfl rfl ?_
  refine ps_st (S' := (398, [(0, .ref m0), (1, .int 3), (2, .int x2), (3, .int x3), (4, .int x4), (5, .int x5), (6, .int x6)], [], M)) rfl rfl rfl ?_
  refine ps_st (S' := (399, [(0, .ref m0), (1, .int 3), (2, .int x2), (3, .int x3), (4, .int x4), (5, .int x5), (6, .int x6)], [.int 0], M)) rfl rfl rfl ?_
  exact ps_ret rfl rfl (⟨rfl, rfl⟩)
set_option maxHeartbeats 4000000 in
theorem rd_checkAttributes3 {g : xe_G} {m0 : Nat} {q : Nat → Nat} {z : Nat × Nat} {I : rI} {R : rR} {M : mi_H} {n : Nat} {f : Nat → Int32} {tx : List (List Nat)} {cN : Nat} {A : Nat → Nat} {N mj : Nat} {E : List (Nat × Nat)} {p1 e x : Nat} (hR : RS g m0 q z I R M) (hi51 : I 51 = some 0) (hi52 : I 52 = some (nI N)) (hi53 : I 53 = some (nI mj)) (hF : FK n f I R) (hY : SYT tx cN A I R) (hP : RPV f n E tx N I R) (hK : KX I R) (hEP : EP f n E) (hN : N < 65536) (hmj : mj < 65536) (hin : p1 + 2 ≤ e ∧ e ≤ n) (hat : s_atE f e (by2 f p1) (p1 + 2) = some e) : pt (mT g) 187 [.ref m0, .int (nI p1), .int 3, .int (nI x)] M (fun v M' => (∃ (e9 : Nat × Nat) (I' : rI) (R' : rR), (caS f n E mj (by2 f p1) (p1 + 2) 0 = .inl e9) ∧ v = some (.int (-1)) ∧ RS g m0 q z I' R' M' ∧ eqI [47, 48] I I' ∧ eqR [] R R' ∧ I' 47 = some (nI e9.1) ∧ I' 48 = some (nI e9.2)) ∨ (∃ (s' : Nat) (I' : rI) (R' : rR), (caS f n E mj (by2 f p1) (p1 + 2) 0 = .inr s') ∧ v = some (.int (nI e)) ∧ RS g m0 q z I' R' M' ∧ eqI [47, 48] I I' ∧ eqR [] R R')) := by
  refine pt_in (b := mb_187 g) rfl (fun kf => ?_)
  show pl (mT g) kf (mb_187 g).2 (0, [(0, .ref m0), (1, .int (nI p1)), (2, .int 3), (3, .int (nI x))], [], M) _
  have hEI : eqI [47, 48] I I := eqI.rf
  have hER : eqR [] R R := eqR.rf
  have hn := hF.1
  have LL : ∀ (kf : Nat), (∀ (i p s2 s3 : Nat) (M1 : mi_H) (I1 : rI) (R1 : rR), (RS g m0 q z I1 R1 M1) → (eqI [47, 48] I I1) → (eqR [] R R1) → (I1 51 = some 0) → (I1 52 = some (nI N)) → (I1 53 = some (nI mj)) → (FK n f I1 R1) → (SYT tx cN A I1 R1) → (RPV f n E tx N I1 R1) → (KX I1 R1) → (i ≤ by2 f p1) → (s2 < 2048 ∧ s3 < 2048) → (sb s3 3 = sb s2 4) → (s_atE f e (by2 f p1 - i) p = some e) → (caS f n E mj (by2 f p1 - i) p s2 = caS f n E mj (by2 f p1) (p1 + 2) 0) →  pl (mT g) kf (mb_187 g).2 (18, [(0, .ref m0), (2, .int 3), (3, .int (nI x)), (4, .int (nI (by2 f p1))), (5, .int (nI p)), (6, .int (nI s3)), (7, .int (nI i))], [], M1) (fun v M' => (∃ (e9 : Nat × Nat) (I' : rI) (R' : rR), (caS f n E mj (by2 f p1) (p1 + 2) 0 = .inl e9) ∧ v = some (.int (-1)) ∧ RS g m0 q z I' R' M' ∧ eqI [47, 48] I I' ∧ eqR [] R R' ∧ I' 47 = some (nI e9.1) ∧ I' 48 = some (nI e9.2)) ∨ (∃ (s' : Nat) (I' : rI) (R' : rR), (caS f n E mj (by2 f p1) (p1 + 2) 0 = .inr s') ∧ v = some (.int (nI e)) ∧ RS g m0 q z I' R' M' ∧ eqI [47, 48] I I' ∧ eqR [] R R'))) ∧ (∀ (i p s2 s3 k t : Nat) (M1 : mi_H) (I1 : rI) (R1 : rR), (RS g m0 q z I1 R1 M1) → (eqI [47, 48] I I1) → (eqR [] R R1) → (I1 51 = some 0) → (I1 52 = some (nI N)) → (I1 53 = some (nI mj)) → (FK n f I1 R1) → (SYT tx cN A I1 R1) → (RPV f n E tx N I1 R1) → (KX I1 R1) → (i < by2 f p1) → (s2 < 2048 ∧ s3 < 2048) → (sb s3 3 = sb s2 4) → (s_atE f e (by2 f p1 - i) p = some e) → (caS f n E mj (by2 f p1 - i) p s2 = caS f n E mj (by2 f p1) (p1 + 2) 0) → (k ≤ 10) → (tg f E (by2 f p) = 1) → (t < tx.length ∧ tx.getD t [] = tX f n E (by2 f p)) →  pl (mT g) kf (mb_187 g).2 (79, [(0, .ref m0), (2, .int 3), (3, .int (nI x)), (4, .int (nI (by2 f p1))), (5, .int (nI p)), (6, .int (nI s3)), (7, .int (nI i)), (8, .int (nI (by4 f (p + 2)))), (9, .int (nI t)), (10, .int (gI (kb mj 3 (tX f n E (by2 f p)) k))), (11, .int (nI k))], [], M1) (fun v M' => (∃ (e9 : Nat × Nat) (I' : rI) (R' : rR), (caS f n E mj (by2 f p1) (p1 + 2) 0 = .inl e9) ∧ v = some (.int (-1)) ∧ RS g m0 q z I' R' M' ∧ eqI [47, 48] I I' ∧ eqR [] R R' ∧ I' 47 = some (nI e9.1) ∧ I' 48 = some (nI e9.2)) ∨ (∃ (s' : Nat) (I' : rI) (R' : rR), (caS f n E mj (by2 f p1) (p1 + 2) 0 = .inr s') ∧ v = some (.int (nI e)) ∧ RS g m0 q z I' R' M' ∧ eqI [47, 48] I I' ∧ eqR [] R R'))) := by
    intro kf
    induction kf with
    | zero => exact ⟨by intros; exact pl_0, by intros; exact pl_0⟩
    | succ kf ih =>
      refine ⟨?_, ?_⟩
      · skip
        intro i p s2 s3 M1 I1 R1 hR1 hEI1 hER1 hl51 hl52 hl53 hF1 hY1 hP1 hK1 hi hl hb ha hs9
        have hn := hF1.1
        have hu9 := by2_lt f p1
        have htl := hY1.1.2.2.1
        refine ps_st1 (S' := (20, [(0, .ref m0), (2, .int 3), (3, .int (nI x)), (4, .int (nI (by2 f p1))), (5, .int (nI p)), (6, .int (nI s3)), (7, .int (nI i))], [.int (nI i)], M1)) rfl rfl rfl ?_
        refine ps_st (S' := (22, [(0, .ref m0), (2, .int 3), (3, .int (nI x)), (4, .int (nI (by2 f p1))), (5, .int (nI p)), (6, .int (nI s3)), (7, .int (nI i))], [.int (nI (by2 f p1)), .int (nI i)], M1)) rfl rfl rfl ?_
        refine ps_if2 (S1 := (284, [(0, .ref m0), (2, .int 3), (3, .int (nI x)), (4, .int (nI (by2 f p1))), (5, .int (nI p)), (6, .int (nI s3)), (7, .int (nI i))], [], M1)) (S2 := (25, [(0, .ref m0), (2, .int 3), (3, .int (nI x)), (4, .int (nI (by2 f p1))), (5, .int (nI p)), (6, .int (nI s3)), (7, .int (nI i))], [], M1)) rfl rfl rfl (fun c_22 => ?_) (fun c_22 => ?_)
        · have c_22 : (nI (by2 f p1)) ≤ (nI i) := of_decide_eq_true c_22
          have n_22 : by2 f p1 ≤ i := (le_nI (p := by2 f p1) (n := i) (Nat.lt_trans (by2_lt _ _) (by decide)) (by omega)).mp c_22
          refine ps_st (S' := (286, [(0, .ref m0), (2, .int 3), (3, .int (nI x)), (4, .int (nI (by2 f p1))), (5, .int (nI p)), (6, .int (nI s3)), (7, .int (nI i))], [.int (nI p)], M1)) rfl rfl rfl ?_
          exact ps_reti rfl (Or.inr ⟨s2, I1, R1, by rw [← hs9, show by2 f p1 - i = 0 by omega]; rfl, by rw [show e = p by (rw [show by2 f p1 - i = 0 by omega] at ha; exact (Option.some.inj ha).symm)], hR1, hEI1, hER1⟩)
        · have c_22 : ¬ ((nI (by2 f p1)) ≤ (nI i)) := of_decide_eq_false c_22
          have n_22 : ¬ (by2 f p1 ≤ i) := fun h9 => c_22 ((le_nI (p := by2 f p1) (n := i) (Nat.lt_trans (by2_lt _ _) (by decide)) (by omega)).mpr h9)
          obtain ⟨hq5, hq6, hq7⟩ := s_atE_in (i := i) (p := p) ha (by omega)
          refine ps_st (S' := (26, [(0, .ref m0), (2, .int 3), (3, .int (nI x)), (4, .int (nI (by2 f p1))), (5, .int (nI p)), (6, .int (nI s3)), (7, .int (nI i))], [.ref m0], M1)) rfl rfl rfl ?_
          refine ps_st (S' := (28, [(0, .ref m0), (2, .int 3), (3, .int (nI x)), (4, .int (nI (by2 f p1))), (5, .int (nI p)), (6, .int (nI s3)), (7, .int (nI i))], [.int (nI p), .ref m0], M1)) rfl rfl rfl ?_
          refine ps_st (S' := (29, [(0, .ref m0), (2, .int 3), (3, .int (nI x)), (4, .int (nI (by2 f p1))), (5, .int (nI p)), (6, .int (nI s3)), (7, .int (nI i))], [.int 2, .int (nI p), .ref m0], M1)) rfl rfl rfl ?_
          refine ps_st (S' := (30, [(0, .ref m0), (2, .int 3), (3, .int (nI x)), (4, .int (nI (by2 f p1))), (5, .int (nI p)), (6, .int (nI s3)), (7, .int (nI i))], [.int ((nI p) + 2), .ref m0], M1)) rfl rfl rfl ?_
          rw [nI_add1 (p := p) (k := 2) (x := 2) rfl (by omega)]
          show pl _ _ _ (_, [(0, .ref m0), (2, .int 3), (3, .int (nI x)), (4, .int (nI (by2 f p1))), (5, .int (nI p)), (6, .int (nI s3)), (7, .int (nI i))], [.int (nI (p + 2)), .ref m0], M1) _
          refine pl_call (a := [.ref m0, .int (nI (p + 2))]) (rest := []) rfl rfl rfl (rd_u4 (n := n) (f := f) (p := (p + 2)) hR1 hF1 (by omega)) (fun v1 M2 q3 => ?_)
          obtain ⟨rfl, rfl⟩ := q3
          show pl _ _ _ (33, [(0, .ref m0), (2, .int 3), (3, .int (nI x)), (4, .int (nI (by2 f p1))), (5, .int (nI p)), (6, .int (nI s3)), (7, .int (nI i))], [.long (nL (by4 f (p + 2)))], M1) _
          have hu_30 := by4_lt f (p + 2)
          refine ps_st (S' := (34, [(0, .ref m0), (2, .int 3), (3, .int (nI x)), (4, .int (nI (by2 f p1))), (5, .int (nI p)), (6, .int (nI s3)), (7, .int (nI i))], [.int (Int64.toInt32 (nL (by4 f (p + 2))))], M1)) rfl rfl rfl ?_
          rw [l2i_nL (p := by4 f (p + 2)) (by omega)]
          show pl _ _ _ (_, [(0, .ref m0), (2, .int 3), (3, .int (nI x)), (4, .int (nI (by2 f p1))), (5, .int (nI p)), (6, .int (nI s3)), (7, .int (nI i))], [.int (nI (by4 f (p + 2)))], M1) _
          refine ps_st (S' := (36, [(8, .int (nI (by4 f (p + 2)))), (0, .ref m0), (2, .int 3), (3, .int (nI x)), (4, .int (nI (by2 f p1))), (5, .int (nI p)), (6, .int (nI s3)), (7, .int (nI i))], [], M1)) rfl rfl rfl ?_
          refine ps_st (S' := (37, [(8, .int (nI (by4 f (p + 2)))), (0, .ref m0), (2, .int 3), (3, .int (nI x)), (4, .int (nI (by2 f p1))), (5, .int (nI p)), (6, .int (nI s3)), (7, .int (nI i))], [.ref m0], M1)) rfl rfl rfl ?_
          refine ps_st (S' := (38, [(8, .int (nI (by4 f (p + 2)))), (0, .ref m0), (2, .int 3), (3, .int (nI x)), (4, .int (nI (by2 f p1))), (5, .int (nI p)), (6, .int (nI s3)), (7, .int (nI i))], [.ref m0, .ref m0], M1)) rfl rfl rfl ?_
          refine ps_st (S' := (40, [(8, .int (nI (by4 f (p + 2)))), (0, .ref m0), (2, .int 3), (3, .int (nI x)), (4, .int (nI (by2 f p1))), (5, .int (nI p)), (6, .int (nI s3)), (7, .int (nI i))], [.int (nI p), .ref m0, .ref m0], M1)) rfl rfl rfl ?_
          refine pl_call (a := [.ref m0, .int (nI p)]) (rest := [.ref m0]) rfl rfl rfl (rd_u2 (n := n) (f := f) (p := p) hR1 hF1 (by omega)) (fun v4 M5 q6 => ?_)
          obtain ⟨rfl, rfl⟩ := q6
          show pl _ _ _ (43, [(8, .int (nI (by4 f (p + 2)))), (0, .ref m0), (2, .int 3), (3, .int (nI x)), (4, .int (nI (by2 f p1))), (5, .int (nI p)), (6, .int (nI s3)), (7, .int (nI i))], [.int (nI (by2 f p)), .ref m0], M1) _
          have hu_40 := by2_lt f p
          refine pl_call (a := [.ref m0, .int (nI (by2 f p))]) (rest := []) rfl rfl rfl (rd_tag (n := n) (f := f) (tx := tx) (cN := cN) (A := A) (N := N) (mj := mj) (E := E) (k := (by2 f p)) hR1 hl51 hl52 hl53 hF1 hY1 hP1 (hEP) (hN) (hmj) (by2_lt _ _)) (fun v7 M8 q9 => ?_)
          obtain ⟨rfl, rfl⟩ := q9
          show pl _ _ _ (46, [(8, .int (nI (by4 f (p + 2)))), (0, .ref m0), (2, .int 3), (3, .int (nI x)), (4, .int (nI (by2 f p1))), (5, .int (nI p)), (6, .int (nI s3)), (7, .int (nI i))], [.int (nI (tg f E (by2 f p)))], M1) _
          have htg_43 := tg_lt f E (by2 f p)
          refine ps_st (S' := (47, [(8, .int (nI (by4 f (p + 2)))), (0, .ref m0), (2, .int 3), (3, .int (nI x)), (4, .int (nI (by2 f p1))), (5, .int (nI p)), (6, .int (nI s3)), (7, .int (nI i))], [.int 1, .int (nI (tg f E (by2 f p)))], M1)) rfl rfl rfl ?_
          refine ps_if2 (S1 := (61, [(8, .int (nI (by4 f (p + 2)))), (0, .ref m0), (2, .int 3), (3, .int (nI x)), (4, .int (nI (by2 f p1))), (5, .int (nI p)), (6, .int (nI s3)), (7, .int (nI i))], [], M1)) (S2 := (50, [(8, .int (nI (by4 f (p + 2)))), (0, .ref m0), (2, .int 3), (3, .int (nI x)), (4, .int (nI (by2 f p1))), (5, .int (nI p)), (6, .int (nI s3)), (7, .int (nI i))], [], M1)) rfl rfl rfl (fun c_47 => ?_) (fun c_47 => ?_)
          · have c_47 : (nI (tg f E (by2 f p))) = 1 := of_decide_eq_true c_47
            have n_47 : tg f E (by2 f p) = 1 := (eq_nI (p := tg f E (by2 f p)) (n := 1) (Nat.lt_trans (tg_lt _ _ _) (by decide)) (by decide)).mp c_47
            refine ps_st (S' := (62, [(8, .int (nI (by4 f (p + 2)))), (0, .ref m0), (2, .int 3), (3, .int (nI x)), (4, .int (nI (by2 f p1))), (5, .int (nI p)), (6, .int (nI s3)), (7, .int (nI i))], [.ref m0], M1)) rfl rfl rfl ?_
            refine ps_st (S' := (63, [(8, .int (nI (by4 f (p + 2)))), (0, .ref m0), (2, .int 3), (3, .int (nI x)), (4, .int (nI (by2 f p1))), (5, .int (nI p)), (6, .int (nI s3)), (7, .int (nI i))], [.ref m0, .ref m0], M1)) rfl rfl rfl ?_
            refine ps_st (S' := (65, [(8, .int (nI (by4 f (p + 2)))), (0, .ref m0), (2, .int 3), (3, .int (nI x)), (4, .int (nI (by2 f p1))), (5, .int (nI p)), (6, .int (nI s3)), (7, .int (nI i))], [.int (nI p), .ref m0, .ref m0], M1)) rfl rfl rfl ?_
            refine pl_call (a := [.ref m0, .int (nI p)]) (rest := [.ref m0]) rfl rfl rfl (rd_u2 (n := n) (f := f) (p := p) hR1 hF1 (by omega)) (fun v10 M11 q12 => ?_)
            obtain ⟨rfl, rfl⟩ := q12
            show pl _ _ _ (68, [(8, .int (nI (by4 f (p + 2)))), (0, .ref m0), (2, .int 3), (3, .int (nI x)), (4, .int (nI (by2 f p1))), (5, .int (nI p)), (6, .int (nI s3)), (7, .int (nI i))], [.int (nI (by2 f p)), .ref m0], M1) _
            have hu_65 := by2_lt f p
            refine pl_call (a := [.ref m0, .int (nI (by2 f p))]) (rest := []) rfl rfl rfl (rd_symOf (n := n) (f := f) (tx := tx) (cN := cN) (A := A) (N := N) (mj := mj) (E := E) (k := (by2 f p)) hR1 hl51 hl52 hl53 hF1 hY1 hP1 (hEP) (hN) (hmj) (by omega)) (fun v13 M14 q15 => ?_)
            obtain ⟨s16, q68_s, rfl, rfl⟩ := q15
            show pl _ _ _ (71, [(8, .int (nI (by4 f (p + 2)))), (0, .ref m0), (2, .int 3), (3, .int (nI x)), (4, .int (nI (by2 f p1))), (5, .int (nI p)), (6, .int (nI s3)), (7, .int (nI i))], [.int (nI s16)], M1) _
            have hsl_68 := q68_s.1
            have htl_68 := hY1.1.2.2.1
            refine ps_st (S' := (73, [(9, .int (nI s16)), (8, .int (nI (by4 f (p + 2)))), (0, .ref m0), (2, .int 3), (3, .int (nI x)), (4, .int (nI (by2 f p1))), (5, .int (nI p)), (6, .int (nI s3)), (7, .int (nI i))], [], M1)) rfl rfl rfl ?_
            refine ps_st (S' := (74, [(9, .int (nI s16)), (8, .int (nI (by4 f (p + 2)))), (0, .ref m0), (2, .int 3), (3, .int (nI x)), (4, .int (nI (by2 f p1))), (5, .int (nI p)), (6, .int (nI s3)), (7, .int (nI i))], [.int (-1)], M1)) rfl rfl rfl ?_
            refine ps_st (S' := (76, [(10, .int (-1)), (9, .int (nI s16)), (8, .int (nI (by4 f (p + 2)))), (0, .ref m0), (2, .int 3), (3, .int (nI x)), (4, .int (nI (by2 f p1))), (5, .int (nI p)), (6, .int (nI s3)), (7, .int (nI i))], [], M1)) rfl rfl rfl ?_
            refine ps_st (S' := (77, [(10, .int (-1)), (9, .int (nI s16)), (8, .int (nI (by4 f (p + 2)))), (0, .ref m0), (2, .int 3), (3, .int (nI x)), (4, .int (nI (by2 f p1))), (5, .int (nI p)), (6, .int (nI s3)), (7, .int (nI i))], [.int 0], M1)) rfl rfl rfl ?_
            refine ps_st (S' := (79, [(0, .ref m0), (2, .int 3), (3, .int (nI x)), (4, .int (nI (by2 f p1))), (5, .int (nI p)), (6, .int (nI s3)), (7, .int (nI i)), (8, .int (nI (by4 f (p + 2)))), (9, .int (nI s16)), (10, .int (-1)), (11, .int 0)], [], M1)) rfl rfl rfl ?_
            exact ih.2 (i) (p) (s2) (s3) (0) (s16) M1 I1 R1 hR1 hEI1 hER1 hl51 hl52 hl53 hF1 hY1 hP1 hK1 (by omega) (hl) (hb) (ha) (hs9) (by omega) (by omega) (q68_s)
          · have c_47 : ¬ ((nI (tg f E (by2 f p))) = 1) := of_decide_eq_false c_47
            have n_47 : ¬ (tg f E (by2 f p) = 1) := fun h9 => c_47 ((eq_nI (p := tg f E (by2 f p)) (n := 1) (Nat.lt_trans (tg_lt _ _ _) (by decide)) (by decide)).mpr h9)
            refine ps_st (S' := (51, [(8, .int (nI (by4 f (p + 2)))), (0, .ref m0), (2, .int 3), (3, .int (nI x)), (4, .int (nI (by2 f p1))), (5, .int (nI p)), (6, .int (nI s3)), (7, .int (nI i))], [.ref m0], M1)) rfl rfl rfl ?_
            refine ps_st (S' := (53, [(8, .int (nI (by4 f (p + 2)))), (0, .ref m0), (2, .int 3), (3, .int (nI x)), (4, .int (nI (by2 f p1))), (5, .int (nI p)), (6, .int (nI s3)), (7, .int (nI i))], [.int 28, .ref m0], M1)) rfl rfl rfl ?_
            refine ps_st (S' := (55, [(8, .int (nI (by4 f (p + 2)))), (0, .ref m0), (2, .int 3), (3, .int (nI x)), (4, .int (nI (by2 f p1))), (5, .int (nI p)), (6, .int (nI s3)), (7, .int (nI i))], [.int (nI p), .int 28, .ref m0], M1)) rfl rfl rfl ?_
            refine pl_call (a := [.ref m0, .int 28, .int (nI p)]) (rest := []) rfl rfl rfl (rd_wrong (x1 := 28) (x2 := (nI p)) hR1) (fun v17 M18 q19 => ?_)
            obtain ⟨I20, R21, rfl, hR22, hI23, hX24, hi25, hi26⟩ := q19
            have hi27 := (hI23 51 (by decide)).trans hl51
            have hi28 := (hI23 52 (by decide)).trans hl52
            have hi29 := (hI23 53 (by decide)).trans hl53
            have hF_30 := hF1.mono (cIx hI23 (by decide)) (cRx hX24 (by decide))
            have hY_31 := hY1.mono (cIx hI23 (by decide)) (cRx hX24 (by decide))
            have hP_32 := hP1.mono (cIx hI23 (by decide)) (cRx hX24 (by decide))
            have hK_33 := hK1.mono (cIx hI23 (by decide)) (cRx hX24 (by decide))
            have hEI34 := hEI1.tr hI23 (by decide)
            have hER35 := hER1.tr hX24 (by decide)
            show pl _ _ _ (58, [(8, .int (nI (by4 f (p + 2)))), (0, .ref m0), (2, .int 3), (3, .int (nI x)), (4, .int (nI (by2 f p1))), (5, .int (nI p)), (6, .int (nI s3)), (7, .int (nI i))], [.int 0], M18) _
            refine ps_st (S' := (59, [(8, .int (nI (by4 f (p + 2)))), (0, .ref m0), (2, .int 3), (3, .int (nI x)), (4, .int (nI (by2 f p1))), (5, .int (nI p)), (6, .int (nI s3)), (7, .int (nI i))], [], M18)) rfl rfl rfl ?_
            refine ps_st (S' := (60, [(8, .int (nI (by4 f (p + 2)))), (0, .ref m0), (2, .int 3), (3, .int (nI x)), (4, .int (nI (by2 f p1))), (5, .int (nI p)), (6, .int (nI s3)), (7, .int (nI i))], [.int (-1)], M18)) rfl rfl rfl ?_
            exact ps_ret rfl rfl (Or.inl ⟨(28, p), I20, R21, by
                rw [← hs9, caS_st (i := i) (p := p) (s := s2) (by omega)]
                rw [show nwS f E s2 (smN4 f n E mj (by2 f p)) p = .inl (28, p) by unfold nwS; rw [if_pos (by omega)]], rfl, hR22, hEI34, hER35, hi25, hi26⟩)
      · skip
        intro i p s2 s3 k t M1 I1 R1 hR1 hEI1 hER1 hl51 hl52 hl53 hF1 hY1 hP1 hK1 hi0 hl hb ha hs9 hk h1 hsy
        have hn := hF1.1
        have hu9 := by2_lt f p1
        have htl := hY1.1.2.2.1
        obtain ⟨hq5, hq6, hq7⟩ := s_atE_in (i := i) (p := p) ha hi0
        refine ps_st1 (S' := (81, [(0, .ref m0), (2, .int 3), (3, .int (nI x)), (4, .int (nI (by2 f p1))), (5, .int (nI p)), (6, .int (nI s3)), (7, .int (nI i)), (8, .int (nI (by4 f (p + 2)))), (9, .int (nI t)), (10, .int (gI (kb mj 3 (tX f n E (by2 f p)) k))), (11, .int (nI k))], [.int (nI k)], M1)) rfl rfl rfl ?_
        refine ps_st (S' := (82, [(0, .ref m0), (2, .int 3), (3, .int (nI x)), (4, .int (nI (by2 f p1))), (5, .int (nI p)), (6, .int (nI s3)), (7, .int (nI i)), (8, .int (nI (by4 f (p + 2)))), (9, .int (nI t)), (10, .int (gI (kb mj 3 (tX f n E (by2 f p)) k))), (11, .int (nI k))], [.ref m0, .int (nI k)], M1)) rfl rfl rfl ?_
        refine pr_ref (j := 62) (S' := (85, [(0, .ref m0), (2, .int 3), (3, .int (nI x)), (4, .int (nI (by2 f p1))), (5, .int (nI p)), (6, .int (nI s3)), (7, .int (nI i)), (8, .int (nI (by4 f (p + 2)))), (9, .int (nI t)), (10, .int (gI (kb mj 3 (tX f n E (by2 f p)) k))), (11, .int (nI k))], [.ref (q 62), .int (nI k)], M1)) rfl hR1 rfl rfl ?_
        refine pr_knl (S' := (86, [(0, .ref m0), (2, .int 3), (3, .int (nI x)), (4, .int (nI (by2 f p1))), (5, .int (nI p)), (6, .int (nI s3)), (7, .int (nI i)), (8, .int (nI (by4 f (p + 2)))), (9, .int (nI t)), (10, .int (gI (kb mj 3 (tX f n E (by2 f p)) k))), (11, .int (nI k))], [.int (nI 10), .int (nI k)], M1)) rfl hR1 rfl ?_
        refine ps_if2 (S1 := (140, [(0, .ref m0), (2, .int 3), (3, .int (nI x)), (4, .int (nI (by2 f p1))), (5, .int (nI p)), (6, .int (nI s3)), (7, .int (nI i)), (8, .int (nI (by4 f (p + 2)))), (9, .int (nI t)), (10, .int (gI (kb mj 3 (tX f n E (by2 f p)) k))), (11, .int (nI k))], [], M1)) (S2 := (89, [(0, .ref m0), (2, .int 3), (3, .int (nI x)), (4, .int (nI (by2 f p1))), (5, .int (nI p)), (6, .int (nI s3)), (7, .int (nI i)), (8, .int (nI (by4 f (p + 2)))), (9, .int (nI t)), (10, .int (gI (kb mj 3 (tX f n E (by2 f p)) k))), (11, .int (nI k))], [], M1)) rfl rfl rfl (fun c_86 => ?_) (fun c_86 => ?_)
        · have c_86 : (nI 10) ≤ (nI k) := of_decide_eq_true c_86
          have n_86 : 10 ≤ k := (le_nI (p := 10) (n := k) (by decide) (by omega)).mp c_86
          have ek : k = 10 := by omega
          have hkk := kb_3 (mj := mj) (l := tX f n E (by2 f p))
          refine ps_st (S' := (142, [(0, .ref m0), (2, .int 3), (3, .int (nI x)), (4, .int (nI (by2 f p1))), (5, .int (nI p)), (6, .int (nI s3)), (7, .int (nI i)), (8, .int (nI (by4 f (p + 2)))), (9, .int (nI t)), (10, .int (gI (kb mj 3 (tX f n E (by2 f p)) k))), (11, .int (nI k))], [.int (gI (kb mj 3 (tX f n E (by2 f p)) k))], M1)) rfl rfl rfl ?_
          refine ps_if (S1 := (268, [(0, .ref m0), (2, .int 3), (3, .int (nI x)), (4, .int (nI (by2 f p1))), (5, .int (nI p)), (6, .int (nI s3)), (7, .int (nI i)), (8, .int (nI (by4 f (p + 2))))], [], M1)) (S2 := (145, [(0, .ref m0), (2, .int 3), (3, .int (nI x)), (4, .int (nI (by2 f p1))), (5, .int (nI p)), (6, .int (nI s3)), (7, .int (nI i)), (8, .int (nI (by4 f (p + 2)))), (9, .int (nI t)), (10, .int (gI (kb mj 3 (tX f n E (by2 f p)) k))), (11, .int (nI k))], [], M1)) rfl rfl rfl (fun c_142 => ?_) (fun c_142 => ?_)
          · have c_142 : (gI (kb mj 3 (tX f n E (by2 f p)) k)) < 0 := of_decide_eq_true c_142
            have hc3 : ¬ (50 ≤ mj ∧ ¬ eqN (tX f n E (by2 f p)) (ltx 18) = 0) := fun h9 => by
              rw [ek, hkk, if_pos h9] at c_142
              exact absurd c_142 (by decide)
            have hsm : smN4 f n E mj (by2 f p) = 0 := by
              unfold smN4
              rw [← lt_eq3, if_neg hc3]
            refine ps_st (S' := (270, [(0, .ref m0), (2, .int 3), (3, .int (nI x)), (4, .int (nI (by2 f p1))), (5, .int (nI p)), (6, .int (nI s3)), (7, .int (nI i)), (8, .int (nI (by4 f (p + 2))))], [.int (nI p)], M1)) rfl rfl rfl ?_
            refine ps_st (S' := (272, [(0, .ref m0), (2, .int 3), (3, .int (nI x)), (4, .int (nI (by2 f p1))), (5, .int (nI p)), (6, .int (nI s3)), (7, .int (nI i)), (8, .int (nI (by4 f (p + 2))))], [.int 6, .int (nI p)], M1)) rfl rfl rfl ?_
            refine ps_st (S' := (274, [(0, .ref m0), (2, .int 3), (3, .int (nI x)), (4, .int (nI (by2 f p1))), (5, .int (nI p)), (6, .int (nI s3)), (7, .int (nI i)), (8, .int (nI (by4 f (p + 2))))], [.int (nI (by4 f (p + 2))), .int 6, .int (nI p)], M1)) rfl rfl rfl ?_
            refine ps_st (S' := (275, [(0, .ref m0), (2, .int 3), (3, .int (nI x)), (4, .int (nI (by2 f p1))), (5, .int (nI p)), (6, .int (nI s3)), (7, .int (nI i)), (8, .int (nI (by4 f (p + 2))))], [.int (6 + (nI (by4 f (p + 2)))), .int (nI p)], M1)) rfl rfl rfl ?_
            rw [nI_add2 (p := 6) (k := by4 f (p + 2)) (x := 6) (y := (nI (by4 f (p + 2)))) rfl rfl (by omega)]
            show pl _ _ _ (_, [(0, .ref m0), (2, .int 3), (3, .int (nI x)), (4, .int (nI (by2 f p1))), (5, .int (nI p)), (6, .int (nI s3)), (7, .int (nI i)), (8, .int (nI (by4 f (p + 2))))], [.int (nI (6 + by4 f (p + 2))), .int (nI p)], M1) _
            refine ps_st (S' := (276, [(0, .ref m0), (2, .int 3), (3, .int (nI x)), (4, .int (nI (by2 f p1))), (5, .int (nI p)), (6, .int (nI s3)), (7, .int (nI i)), (8, .int (nI (by4 f (p + 2))))], [.int ((nI p) + (nI (6 + by4 f (p + 2))))], M1)) rfl rfl rfl ?_
            rw [nI_add1 (p := p) (k := 6 + by4 f (p + 2)) (x := (nI (6 + by4 f (p + 2)))) rfl (by omega)]
            rw [show nI (p + (6 + by4 f (p + 2))) = nI (p + 6 + by4 f (p + 2)) from congrArg nI (by omega)]
            show pl _ _ _ (_, [(0, .ref m0), (2, .int 3), (3, .int (nI x)), (4, .int (nI (by2 f p1))), (5, .int (nI p)), (6, .int (nI s3)), (7, .int (nI i)), (8, .int (nI (by4 f (p + 2))))], [.int (nI (p + 6 + by4 f (p + 2)))], M1) _
            refine ps_st (S' := (278, [(5, .int (nI (p + 6 + by4 f (p + 2)))), (0, .ref m0), (2, .int 3), (3, .int (nI x)), (4, .int (nI (by2 f p1))), (6, .int (nI s3)), (7, .int (nI i)), (8, .int (nI (by4 f (p + 2))))], [], M1)) rfl rfl rfl ?_
            refine ps_st (S' := (281, [(7, .int ((nI i) + 1)), (5, .int (nI (p + 6 + by4 f (p + 2)))), (0, .ref m0), (2, .int 3), (3, .int (nI x)), (4, .int (nI (by2 f p1))), (6, .int (nI s3)), (8, .int (nI (by4 f (p + 2))))], [], M1)) rfl rfl rfl ?_
            rw [nI_add1 (p := i) (k := 1) (x := 1) rfl (by omega)]
            show pl _ _ _ (_, [(7, .int (nI (i + 1))), (5, .int (nI (p + 6 + by4 f (p + 2)))), (0, .ref m0), (2, .int 3), (3, .int (nI x)), (4, .int (nI (by2 f p1))), (6, .int (nI s3)), (8, .int (nI (by4 f (p + 2))))], [], M1) _
            refine ps_st (S' := (18, [(0, .ref m0), (2, .int 3), (3, .int (nI x)), (4, .int (nI (by2 f p1))), (5, .int (nI (p + 6 + by4 f (p + 2)))), (6, .int (nI s3)), (7, .int (nI (i + 1)))], [], M1)) rfl rfl rfl ?_
            exact ih.1 (i + 1) (p + 6 + by4 f (p + 2)) (s2) (s3) M1 I1 R1 hR1 hEI1 hER1 hl51 hl52 hl53 hF1 hY1 hP1 hK1 (by omega) (hl) (hb) (hq7) (by
                rw [← hs9, caS_st (i := i) (p := p) (s := s2) (by omega), hsm, show nwS f E s2 0 p = .inr s2 by unfold nwS; rw [if_neg (by omega), if_pos rfl]])
          · have c_142 : ¬ ((gI (kb mj 3 (tX f n E (by2 f p)) k)) < 0) := of_decide_eq_false c_142
            have hc3 : 50 ≤ mj ∧ ¬ eqN (tX f n E (by2 f p)) (ltx 18) = 0 := by
              by_cases h9 : 50 ≤ mj ∧ ¬ eqN (tX f n E (by2 f p)) (ltx 18) = 0
              · exact h9
              · rw [ek, hkk, if_neg h9] at c_142; exact absurd (by decide) c_142
            have hsm : smN4 f n E mj (by2 f p) = 4 := by
              unfold smN4
              rw [← lt_eq3, if_pos hc3]
            rw [show gI (kb mj 3 (tX f n E (by2 f p)) k) = nI 3 by rw [ek, hkk, if_pos hc3]; rfl]
            show pl _ _ _ (145, [(0, .ref m0), (2, .int 3), (3, .int (nI x)), (4, .int (nI (by2 f p1))), (5, .int (nI p)), (6, .int (nI s3)), (7, .int (nI i)), (8, .int (nI (by4 f (p + 2)))), (9, .int (nI t)), (10, .int (nI 3)), (11, .int (nI k))], [], M1) _
            refine ps_st (S' := (146, [(0, .ref m0), (2, .int 3), (3, .int (nI x)), (4, .int (nI (by2 f p1))), (5, .int (nI p)), (6, .int (nI s3)), (7, .int (nI i)), (8, .int (nI (by4 f (p + 2)))), (9, .int (nI t)), (10, .int (nI 3)), (11, .int (nI k))], [.int 3], M1)) rfl rfl rfl ?_
            refine ps_st (S' := (147, [(0, .ref m0), (2, .int 3), (3, .int (nI x)), (4, .int (nI (by2 f p1))), (5, .int (nI p)), (6, .int (nI s3)), (7, .int (nI i)), (8, .int (nI (by4 f (p + 2)))), (9, .int (nI t)), (10, .int (nI 3)), (11, .int (nI k))], [.int 1, .int 3], M1)) rfl rfl rfl ?_
            refine ps_if2 (S1 := (160, [(0, .ref m0), (2, .int 3), (3, .int (nI x)), (4, .int (nI (by2 f p1))), (5, .int (nI p)), (6, .int (nI s3)), (7, .int (nI i)), (8, .int (nI (by4 f (p + 2)))), (10, .int (nI 3))], [], M1)) (S2 := (150, [(0, .ref m0), (2, .int 3), (3, .int (nI x)), (4, .int (nI (by2 f p1))), (5, .int (nI p)), (6, .int (nI s3)), (7, .int (nI i)), (8, .int (nI (by4 f (p + 2)))), (9, .int (nI t)), (10, .int (nI 3)), (11, .int (nI k))], [], M1)) rfl rfl rfl (fun c_147 => ?_) (fun c_147 => ?_)
            rotate_left
            · exact absurd (by decide) (of_decide_eq_false c_147)
            refine ps_st (S' := (161, [(0, .ref m0), (2, .int 3), (3, .int (nI x)), (4, .int (nI (by2 f p1))), (5, .int (nI p)), (6, .int (nI s3)), (7, .int (nI i)), (8, .int (nI (by4 f (p + 2)))), (10, .int (nI 3))], [.int 3], M1)) rfl rfl rfl ?_
            refine ps_st (S' := (162, [(0, .ref m0), (2, .int 3), (3, .int (nI x)), (4, .int (nI (by2 f p1))), (5, .int (nI p)), (6, .int (nI s3)), (7, .int (nI i)), (8, .int (nI (by4 f (p + 2)))), (10, .int (nI 3))], [.int 2, .int 3], M1)) rfl rfl rfl ?_
            refine ps_if2 (S1 := (175, [(0, .ref m0), (2, .int 3), (3, .int (nI x)), (4, .int (nI (by2 f p1))), (5, .int (nI p)), (6, .int (nI s3)), (7, .int (nI i)), (8, .int (nI (by4 f (p + 2)))), (10, .int (nI 3))], [], M1)) (S2 := (165, [(0, .ref m0), (2, .int 3), (3, .int (nI x)), (4, .int (nI (by2 f p1))), (5, .int (nI p)), (6, .int (nI s3)), (7, .int (nI i)), (8, .int (nI (by4 f (p + 2)))), (10, .int (nI 3))], [], M1)) rfl rfl rfl (fun c_162 => ?_) (fun c_162 => ?_)
            rotate_left
            · exact absurd (by decide) (of_decide_eq_false c_162)
            refine ps_st (S' := (176, [(0, .ref m0), (2, .int 3), (3, .int (nI x)), (4, .int (nI (by2 f p1))), (5, .int (nI p)), (6, .int (nI s3)), (7, .int (nI i)), (8, .int (nI (by4 f (p + 2)))), (10, .int (nI 3))], [.int 3], M1)) rfl rfl rfl ?_
            refine ps_st (S' := (177, [(0, .ref m0), (2, .int 3), (3, .int (nI x)), (4, .int (nI (by2 f p1))), (5, .int (nI p)), (6, .int (nI s3)), (7, .int (nI i)), (8, .int (nI (by4 f (p + 2)))), (10, .int (nI 3))], [.int 4, .int 3], M1)) rfl rfl rfl ?_
            refine ps_if2 (S1 := (190, [(0, .ref m0), (2, .int 3), (3, .int (nI x)), (4, .int (nI (by2 f p1))), (5, .int (nI p)), (6, .int (nI s3)), (7, .int (nI i)), (8, .int (nI (by4 f (p + 2)))), (10, .int (nI 3))], [], M1)) (S2 := (180, [(0, .ref m0), (2, .int 3), (3, .int (nI x)), (4, .int (nI (by2 f p1))), (5, .int (nI p)), (6, .int (nI s3)), (7, .int (nI i)), (8, .int (nI (by4 f (p + 2)))), (10, .int (nI 3))], [], M1)) rfl rfl rfl (fun c_177 => ?_) (fun c_177 => ?_)
            rotate_left
            · exact absurd (by decide) (of_decide_eq_false c_177)
            refine ps_st (S' := (192, [(0, .ref m0), (2, .int 3), (3, .int (nI x)), (4, .int (nI (by2 f p1))), (5, .int (nI p)), (6, .int (nI s3)), (7, .int (nI i)), (8, .int (nI (by4 f (p + 2)))), (10, .int (nI 3))], [.int (nI s3)], M1)) rfl rfl rfl ?_
            refine ps_st (S' := (194, [(0, .ref m0), (2, .int 3), (3, .int (nI x)), (4, .int (nI (by2 f p1))), (5, .int (nI p)), (6, .int (nI s3)), (7, .int (nI i)), (8, .int (nI (by4 f (p + 2)))), (10, .int (nI 3))], [.int (nI 3), .int (nI s3)], M1)) rfl rfl rfl ?_
            refine ps_st (S' := (195, [(0, .ref m0), (2, .int 3), (3, .int (nI x)), (4, .int (nI (by2 f p1))), (5, .int (nI p)), (6, .int (nI s3)), (7, .int (nI i)), (8, .int (nI (by4 f (p + 2)))), (10, .int (nI 3))], [.int ((nI s3) >>> ((nI 3) &&& 31))], M1)) rfl rfl rfl ?_
            refine ps_st (S' := (196, [(0, .ref m0), (2, .int 3), (3, .int (nI x)), (4, .int (nI (by2 f p1))), (5, .int (nI p)), (6, .int (nI s3)), (7, .int (nI i)), (8, .int (nI (by4 f (p + 2)))), (10, .int (nI 3))], [.int 1, .int ((nI s3) >>> ((nI 3) &&& 31))], M1)) rfl rfl rfl ?_
            refine ps_st (S' := (197, [(0, .ref m0), (2, .int 3), (3, .int (nI x)), (4, .int (nI (by2 f p1))), (5, .int (nI p)), (6, .int (nI s3)), (7, .int (nI i)), (8, .int (nI (by4 f (p + 2)))), (10, .int (nI 3))], [.int (((nI s3) >>> ((nI 3) &&& 31)) &&& 1)], M1)) rfl rfl rfl ?_
            rw [shr_k s3 (by omega) 3 (by omega)]
            show pl _ _ _ (_, [(0, .ref m0), (2, .int 3), (3, .int (nI x)), (4, .int (nI (by2 f p1))), (5, .int (nI p)), (6, .int (nI s3)), (7, .int (nI i)), (8, .int (nI (by4 f (p + 2)))), (10, .int (nI 3))], [.int (nI (sb s3 3))], M1) _
            refine ps_st (S' := (198, [(0, .ref m0), (2, .int 3), (3, .int (nI x)), (4, .int (nI (by2 f p1))), (5, .int (nI p)), (6, .int (nI s3)), (7, .int (nI i)), (8, .int (nI (by4 f (p + 2)))), (10, .int (nI 3))], [.int 1, .int (nI (sb s3 3))], M1)) rfl rfl rfl ?_
            refine ps_if2 (S1 := (212, [(0, .ref m0), (2, .int 3), (3, .int (nI x)), (4, .int (nI (by2 f p1))), (5, .int (nI p)), (6, .int (nI s3)), (7, .int (nI i)), (8, .int (nI (by4 f (p + 2)))), (10, .int (nI 3))], [], M1)) (S2 := (201, [(0, .ref m0), (2, .int 3), (3, .int (nI x)), (4, .int (nI (by2 f p1))), (5, .int (nI p)), (6, .int (nI s3)), (7, .int (nI i)), (8, .int (nI (by4 f (p + 2)))), (10, .int (nI 3))], [], M1)) rfl rfl rfl (fun c_198 => ?_) (fun c_198 => ?_)
            · have c_198 : ¬ (nI (sb s3 3)) = 1 := of_decide_eq_true c_198
              have n_198 : ¬ (sb s3 3 = 1) := fun h9 => c_198 ((eq_nI (p := sb s3 3) (n := 1) (Nat.lt_trans (sb_lt _ _) (by decide)) (by decide)).mpr h9)
              refine ps_st (S' := (213, [(0, .ref m0), (2, .int 3), (3, .int (nI x)), (4, .int (nI (by2 f p1))), (5, .int (nI p)), (6, .int (nI s3)), (7, .int (nI i)), (8, .int (nI (by4 f (p + 2)))), (10, .int (nI 3))], [.ref m0], M1)) rfl rfl rfl ?_
              refine ps_st (S' := (215, [(0, .ref m0), (2, .int 3), (3, .int (nI x)), (4, .int (nI (by2 f p1))), (5, .int (nI p)), (6, .int (nI s3)), (7, .int (nI i)), (8, .int (nI (by4 f (p + 2)))), (10, .int (nI 3))], [.int (nI 3), .ref m0], M1)) rfl rfl rfl ?_
              refine ps_st (S' := (217, [(0, .ref m0), (2, .int 3), (3, .int (nI x)), (4, .int (nI (by2 f p1))), (5, .int (nI p)), (6, .int (nI s3)), (7, .int (nI i)), (8, .int (nI (by4 f (p + 2)))), (10, .int (nI 3))], [.int (nI p), .int (nI 3), .ref m0], M1)) rfl rfl rfl ?_
              refine ps_st (S' := (219, [(0, .ref m0), (2, .int 3), (3, .int (nI x)), (4, .int (nI (by2 f p1))), (5, .int (nI p)), (6, .int (nI s3)), (7, .int (nI i)), (8, .int (nI (by4 f (p + 2)))), (10, .int (nI 3))], [.int (nI p), .int (nI p), .int (nI 3), .ref m0], M1)) rfl rfl rfl ?_
              refine ps_st (S' := (221, [(0, .ref m0), (2, .int 3), (3, .int (nI x)), (4, .int (nI (by2 f p1))), (5, .int (nI p)), (6, .int (nI s3)), (7, .int (nI i)), (8, .int (nI (by4 f (p + 2)))), (10, .int (nI 3))], [.int 6, .int (nI p), .int (nI p), .int (nI 3), .ref m0], M1)) rfl rfl rfl ?_
              refine ps_st (S' := (222, [(0, .ref m0), (2, .int 3), (3, .int (nI x)), (4, .int (nI (by2 f p1))), (5, .int (nI p)), (6, .int (nI s3)), (7, .int (nI i)), (8, .int (nI (by4 f (p + 2)))), (10, .int (nI 3))], [.int ((nI p) + 6), .int (nI p), .int (nI 3), .ref m0], M1)) rfl rfl rfl ?_
              rw [nI_add1 (p := p) (k := 6) (x := 6) rfl (by omega)]
              show pl _ _ _ (_, [(0, .ref m0), (2, .int 3), (3, .int (nI x)), (4, .int (nI (by2 f p1))), (5, .int (nI p)), (6, .int (nI s3)), (7, .int (nI i)), (8, .int (nI (by4 f (p + 2)))), (10, .int (nI 3))], [.int (nI (p + 6)), .int (nI p), .int (nI 3), .ref m0], M1) _
              refine ps_st (S' := (224, [(0, .ref m0), (2, .int 3), (3, .int (nI x)), (4, .int (nI (by2 f p1))), (5, .int (nI p)), (6, .int (nI s3)), (7, .int (nI i)), (8, .int (nI (by4 f (p + 2)))), (10, .int (nI 3))], [.int (nI p), .int (nI (p + 6)), .int (nI p), .int (nI 3), .ref m0], M1)) rfl rfl rfl ?_
              refine ps_st (S' := (226, [(0, .ref m0), (2, .int 3), (3, .int (nI x)), (4, .int (nI (by2 f p1))), (5, .int (nI p)), (6, .int (nI s3)), (7, .int (nI i)), (8, .int (nI (by4 f (p + 2)))), (10, .int (nI 3))], [.int 6, .int (nI p), .int (nI (p + 6)), .int (nI p), .int (nI 3), .ref m0], M1)) rfl rfl rfl ?_
              refine ps_st (S' := (227, [(0, .ref m0), (2, .int 3), (3, .int (nI x)), (4, .int (nI (by2 f p1))), (5, .int (nI p)), (6, .int (nI s3)), (7, .int (nI i)), (8, .int (nI (by4 f (p + 2)))), (10, .int (nI 3))], [.int ((nI p) + 6), .int (nI (p + 6)), .int (nI p), .int (nI 3), .ref m0], M1)) rfl rfl rfl ?_
              rw [nI_add1 (p := p) (k := 6) (x := 6) rfl (by omega)]
              show pl _ _ _ (_, [(0, .ref m0), (2, .int 3), (3, .int (nI x)), (4, .int (nI (by2 f p1))), (5, .int (nI p)), (6, .int (nI s3)), (7, .int (nI i)), (8, .int (nI (by4 f (p + 2)))), (10, .int (nI 3))], [.int (nI (p + 6)), .int (nI (p + 6)), .int (nI p), .int (nI 3), .ref m0], M1) _
              refine ps_st (S' := (229, [(0, .ref m0), (2, .int 3), (3, .int (nI x)), (4, .int (nI (by2 f p1))), (5, .int (nI p)), (6, .int (nI s3)), (7, .int (nI i)), (8, .int (nI (by4 f (p + 2)))), (10, .int (nI 3))], [.int (nI (by4 f (p + 2))), .int (nI (p + 6)), .int (nI (p + 6)), .int (nI p), .int (nI 3), .ref m0], M1)) rfl rfl rfl ?_
              refine ps_st (S' := (230, [(0, .ref m0), (2, .int 3), (3, .int (nI x)), (4, .int (nI (by2 f p1))), (5, .int (nI p)), (6, .int (nI s3)), (7, .int (nI i)), (8, .int (nI (by4 f (p + 2)))), (10, .int (nI 3))], [.int ((nI (p + 6)) + (nI (by4 f (p + 2)))), .int (nI (p + 6)), .int (nI p), .int (nI 3), .ref m0], M1)) rfl rfl rfl ?_
              rw [nI_add1 (p := p + 6) (k := by4 f (p + 2)) (x := (nI (by4 f (p + 2)))) rfl (by omega)]
              show pl _ _ _ (_, [(0, .ref m0), (2, .int 3), (3, .int (nI x)), (4, .int (nI (by2 f p1))), (5, .int (nI p)), (6, .int (nI s3)), (7, .int (nI i)), (8, .int (nI (by4 f (p + 2)))), (10, .int (nI 3))], [.int (nI (p + 6 + by4 f (p + 2))), .int (nI (p + 6)), .int (nI p), .int (nI 3), .ref m0], M1) _
              refine ps_st (S' := (231, [(0, .ref m0), (2, .int 3), (3, .int (nI x)), (4, .int (nI (by2 f p1))), (5, .int (nI p)), (6, .int (nI s3)), (7, .int (nI i)), (8, .int (nI (by4 f (p + 2)))), (10, .int (nI 3))], [.int (nI x), .int (nI (p + 6 + by4 f (p + 2))), .int (nI (p + 6)), .int (nI p), .int (nI 3), .ref m0], M1)) rfl rfl rfl ?_
              refine ps_st (S' := (233, [(0, .ref m0), (2, .int 3), (3, .int (nI x)), (4, .int (nI (by2 f p1))), (5, .int (nI p)), (6, .int (nI s3)), (7, .int (nI i)), (8, .int (nI (by4 f (p + 2)))), (10, .int (nI 3))], [.int (nI s3), .int (nI x), .int (nI (p + 6 + by4 f (p + 2))), .int (nI (p + 6)), .int (nI p), .int (nI 3), .ref m0], M1)) rfl rfl rfl ?_
              refine pl_call (a := [.ref m0, .int (nI 3), .int (nI p), .int (nI (p + 6)), .int (nI (p + 6 + by4 f (p + 2))), .int (nI x), .int (nI s3)]) (rest := []) rfl rfl rfl (rd_attr3 (x2 := (nI p)) (x3 := (nI (p + 6))) (x4 := (nI (p + 6 + by4 f (p + 2)))) (x5 := (nI x)) (x6 := (nI s3)) hR1) (fun v36 M37 q38 => ?_)
              obtain ⟨rfl, rfl⟩ := q38
              show pl _ _ _ (236, [(0, .ref m0), (2, .int 3), (3, .int (nI x)), (4, .int (nI (by2 f p1))), (5, .int (nI p)), (6, .int (nI s3)), (7, .int (nI i)), (8, .int (nI (by4 f (p + 2)))), (10, .int (nI 3))], [.int 0], M1) _
              refine ps_st (S' := (238, [(11, .int 0), (0, .ref m0), (2, .int 3), (3, .int (nI x)), (4, .int (nI (by2 f p1))), (5, .int (nI p)), (6, .int (nI s3)), (7, .int (nI i)), (8, .int (nI (by4 f (p + 2)))), (10, .int (nI 3))], [], M1)) rfl rfl rfl ?_
              refine ps_st (S' := (240, [(11, .int 0), (0, .ref m0), (2, .int 3), (3, .int (nI x)), (4, .int (nI (by2 f p1))), (5, .int (nI p)), (6, .int (nI s3)), (7, .int (nI i)), (8, .int (nI (by4 f (p + 2)))), (10, .int (nI 3))], [.int (nI s3)], M1)) rfl rfl rfl ?_
              refine ps_st (S' := (241, [(11, .int 0), (0, .ref m0), (2, .int 3), (3, .int (nI x)), (4, .int (nI (by2 f p1))), (5, .int (nI p)), (6, .int (nI s3)), (7, .int (nI i)), (8, .int (nI (by4 f (p + 2)))), (10, .int (nI 3))], [.int 1, .int (nI s3)], M1)) rfl rfl rfl ?_
              refine ps_st (S' := (243, [(11, .int 0), (0, .ref m0), (2, .int 3), (3, .int (nI x)), (4, .int (nI (by2 f p1))), (5, .int (nI p)), (6, .int (nI s3)), (7, .int (nI i)), (8, .int (nI (by4 f (p + 2)))), (10, .int (nI 3))], [.int (nI 3), .int 1, .int (nI s3)], M1)) rfl rfl rfl ?_
              refine ps_st (S' := (244, [(11, .int 0), (0, .ref m0), (2, .int 3), (3, .int (nI x)), (4, .int (nI (by2 f p1))), (5, .int (nI p)), (6, .int (nI s3)), (7, .int (nI i)), (8, .int (nI (by4 f (p + 2)))), (10, .int (nI 3))], [.int (1 <<< ((nI 3) &&& 31)), .int (nI s3)], M1)) rfl rfl rfl ?_
              refine ps_st (S' := (245, [(11, .int 0), (0, .ref m0), (2, .int 3), (3, .int (nI x)), (4, .int (nI (by2 f p1))), (5, .int (nI p)), (6, .int (nI s3)), (7, .int (nI i)), (8, .int (nI (by4 f (p + 2)))), (10, .int (nI 3))], [.int ((nI s3) ||| (1 <<< ((nI 3) &&& 31)))], M1)) rfl rfl rfl ?_
              rw [or_k s3 3 (by omega)]
              show pl _ _ _ (_, [(11, .int 0), (0, .ref m0), (2, .int 3), (3, .int (nI x)), (4, .int (nI (by2 f p1))), (5, .int (nI p)), (6, .int (nI s3)), (7, .int (nI i)), (8, .int (nI (by4 f (p + 2)))), (10, .int (nI 3))], [.int (nI (so s3 3))], M1) _
              refine ps_st (S' := (247, [(6, .int (nI (so s3 3))), (11, .int 0), (0, .ref m0), (2, .int 3), (3, .int (nI x)), (4, .int (nI (by2 f p1))), (5, .int (nI p)), (7, .int (nI i)), (8, .int (nI (by4 f (p + 2)))), (10, .int (nI 3))], [], M1)) rfl rfl rfl ?_
              refine ps_st (S' := (249, [(6, .int (nI (so s3 3))), (11, .int 0), (0, .ref m0), (2, .int 3), (3, .int (nI x)), (4, .int (nI (by2 f p1))), (5, .int (nI p)), (7, .int (nI i)), (8, .int (nI (by4 f (p + 2)))), (10, .int (nI 3))], [.int 0], M1)) rfl rfl rfl ?_
              refine ps_if (S1 := (261, [(0, .ref m0), (2, .int 3), (3, .int (nI x)), (4, .int (nI (by2 f p1))), (5, .int (nI p)), (6, .int (nI (so s3 3))), (7, .int (nI i)), (8, .int (nI (by4 f (p + 2)))), (11, .int 0)], [], M1)) (S2 := (252, [(6, .int (nI (so s3 3))), (11, .int 0), (0, .ref m0), (2, .int 3), (3, .int (nI x)), (4, .int (nI (by2 f p1))), (5, .int (nI p)), (7, .int (nI i)), (8, .int (nI (by4 f (p + 2)))), (10, .int (nI 3))], [], M1)) rfl rfl rfl (fun c_249 => ?_) (fun c_249 => ?_)
              rotate_left
              · exact absurd (by decide) (of_decide_eq_false c_249)
              refine ps_st (S' := (263, [(0, .ref m0), (2, .int 3), (3, .int (nI x)), (4, .int (nI (by2 f p1))), (5, .int (nI p)), (6, .int (nI (so s3 3))), (7, .int (nI i)), (8, .int (nI (by4 f (p + 2)))), (11, .int 0)], [.int 0], M1)) rfl rfl rfl ?_
              refine ps_if (S1 := (268, [(0, .ref m0), (2, .int 3), (3, .int (nI x)), (4, .int (nI (by2 f p1))), (5, .int (nI p)), (6, .int (nI (so s3 3))), (7, .int (nI i)), (8, .int (nI (by4 f (p + 2))))], [], M1)) (S2 := (266, [(0, .ref m0), (2, .int 3), (3, .int (nI x)), (4, .int (nI (by2 f p1))), (5, .int (nI p)), (6, .int (nI (so s3 3))), (7, .int (nI i)), (8, .int (nI (by4 f (p + 2)))), (11, .int 0)], [], M1)) rfl rfl rfl (fun c_263 => ?_) (fun c_263 => ?_)
              rotate_left
              · exact absurd (by decide) (of_decide_eq_false c_263)
              refine ps_st (S' := (270, [(0, .ref m0), (2, .int 3), (3, .int (nI x)), (4, .int (nI (by2 f p1))), (5, .int (nI p)), (6, .int (nI (so s3 3))), (7, .int (nI i)), (8, .int (nI (by4 f (p + 2))))], [.int (nI p)], M1)) rfl rfl rfl ?_
              refine ps_st (S' := (272, [(0, .ref m0), (2, .int 3), (3, .int (nI x)), (4, .int (nI (by2 f p1))), (5, .int (nI p)), (6, .int (nI (so s3 3))), (7, .int (nI i)), (8, .int (nI (by4 f (p + 2))))], [.int 6, .int (nI p)], M1)) rfl rfl rfl ?_
              refine ps_st (S' := (274, [(0, .ref m0), (2, .int 3), (3, .int (nI x)), (4, .int (nI (by2 f p1))), (5, .int (nI p)), (6, .int (nI (so s3 3))), (7, .int (nI i)), (8, .int (nI (by4 f (p + 2))))], [.int (nI (by4 f (p + 2))), .int 6, .int (nI p)], M1)) rfl rfl rfl ?_
              refine ps_st (S' := (275, [(0, .ref m0), (2, .int 3), (3, .int (nI x)), (4, .int (nI (by2 f p1))), (5, .int (nI p)), (6, .int (nI (so s3 3))), (7, .int (nI i)), (8, .int (nI (by4 f (p + 2))))], [.int (6 + (nI (by4 f (p + 2)))), .int (nI p)], M1)) rfl rfl rfl ?_
              rw [nI_add2 (p := 6) (k := by4 f (p + 2)) (x := 6) (y := (nI (by4 f (p + 2)))) rfl rfl (by omega)]
              show pl _ _ _ (_, [(0, .ref m0), (2, .int 3), (3, .int (nI x)), (4, .int (nI (by2 f p1))), (5, .int (nI p)), (6, .int (nI (so s3 3))), (7, .int (nI i)), (8, .int (nI (by4 f (p + 2))))], [.int (nI (6 + by4 f (p + 2))), .int (nI p)], M1) _
              refine ps_st (S' := (276, [(0, .ref m0), (2, .int 3), (3, .int (nI x)), (4, .int (nI (by2 f p1))), (5, .int (nI p)), (6, .int (nI (so s3 3))), (7, .int (nI i)), (8, .int (nI (by4 f (p + 2))))], [.int ((nI p) + (nI (6 + by4 f (p + 2))))], M1)) rfl rfl rfl ?_
              rw [nI_add1 (p := p) (k := 6 + by4 f (p + 2)) (x := (nI (6 + by4 f (p + 2)))) rfl (by omega)]
              rw [show nI (p + (6 + by4 f (p + 2))) = nI (p + 6 + by4 f (p + 2)) from congrArg nI (by omega)]
              show pl _ _ _ (_, [(0, .ref m0), (2, .int 3), (3, .int (nI x)), (4, .int (nI (by2 f p1))), (5, .int (nI p)), (6, .int (nI (so s3 3))), (7, .int (nI i)), (8, .int (nI (by4 f (p + 2))))], [.int (nI (p + 6 + by4 f (p + 2)))], M1) _
              refine ps_st (S' := (278, [(5, .int (nI (p + 6 + by4 f (p + 2)))), (0, .ref m0), (2, .int 3), (3, .int (nI x)), (4, .int (nI (by2 f p1))), (6, .int (nI (so s3 3))), (7, .int (nI i)), (8, .int (nI (by4 f (p + 2))))], [], M1)) rfl rfl rfl ?_
              refine ps_st (S' := (281, [(7, .int ((nI i) + 1)), (5, .int (nI (p + 6 + by4 f (p + 2)))), (0, .ref m0), (2, .int 3), (3, .int (nI x)), (4, .int (nI (by2 f p1))), (6, .int (nI (so s3 3))), (8, .int (nI (by4 f (p + 2))))], [], M1)) rfl rfl rfl ?_
              rw [nI_add1 (p := i) (k := 1) (x := 1) rfl (by omega)]
              show pl _ _ _ (_, [(7, .int (nI (i + 1))), (5, .int (nI (p + 6 + by4 f (p + 2)))), (0, .ref m0), (2, .int 3), (3, .int (nI x)), (4, .int (nI (by2 f p1))), (6, .int (nI (so s3 3))), (8, .int (nI (by4 f (p + 2))))], [], M1) _
              refine ps_st (S' := (18, [(0, .ref m0), (2, .int 3), (3, .int (nI x)), (4, .int (nI (by2 f p1))), (5, .int (nI (p + 6 + by4 f (p + 2)))), (6, .int (nI (so s3 3))), (7, .int (nI (i + 1)))], [], M1)) rfl rfl rfl ?_
              have hsb9 := sb_lt s3 3
              exact ih.1 (i + 1) (p + 6 + by4 f (p + 2)) (so s2 4) (so s3 3) M1 I1 R1 hR1 hEI1 hER1 hl51 hl52 hl53 hF1 hY1 hP1 hK1 (by omega) (⟨so_lt hl.1 (by decide), so_lt hl.2 (by decide)⟩) (by rw [sb_so, sb_so]; rfl) (hq7) (by
                  rw [← hs9, caS_st (i := i) (p := p) (s := s2) (by omega), hsm, show nwS f E s2 4 p = .inr (so s2 4) by unfold nwS; rw [if_neg (by omega), if_neg (by decide), if_neg (by omega)]])
            · have c_198 : ¬ (¬ (nI (sb s3 3)) = 1) := of_decide_eq_false c_198
              have n_198 : sb s3 3 = 1 := (eq_nI (p := sb s3 3) (n := 1) (Nat.lt_trans (sb_lt _ _) (by decide)) (by decide)).mp (Decidable.not_not.mp c_198)
              refine ps_st (S' := (202, [(0, .ref m0), (2, .int 3), (3, .int (nI x)), (4, .int (nI (by2 f p1))), (5, .int (nI p)), (6, .int (nI s3)), (7, .int (nI i)), (8, .int (nI (by4 f (p + 2)))), (10, .int (nI 3))], [.ref m0], M1)) rfl rfl rfl ?_
              refine ps_st (S' := (204, [(0, .ref m0), (2, .int 3), (3, .int (nI x)), (4, .int (nI (by2 f p1))), (5, .int (nI p)), (6, .int (nI s3)), (7, .int (nI i)), (8, .int (nI (by4 f (p + 2)))), (10, .int (nI 3))], [.int 29, .ref m0], M1)) rfl rfl rfl ?_
              refine ps_st (S' := (206, [(0, .ref m0), (2, .int 3), (3, .int (nI x)), (4, .int (nI (by2 f p1))), (5, .int (nI p)), (6, .int (nI s3)), (7, .int (nI i)), (8, .int (nI (by4 f (p + 2)))), (10, .int (nI 3))], [.int (nI p), .int 29, .ref m0], M1)) rfl rfl rfl ?_
              refine pl_call (a := [.ref m0, .int 29, .int (nI p)]) (rest := []) rfl rfl rfl (rd_wrong (x1 := 29) (x2 := (nI p)) hR1) (fun v39 M40 q41 => ?_)
              obtain ⟨I42, R43, rfl, hR44, hI45, hX46, hi47, hi48⟩ := q41
              have hi49 := (hI45 51 (by decide)).trans hl51
              have hi50 := (hI45 52 (by decide)).trans hl52
              have hi54 := (hI45 53 (by decide)).trans hl53
              have hF_55 := hF1.mono (cIx hI45 (by decide)) (cRx hX46 (by decide))
              have hY_56 := hY1.mono (cIx hI45 (by decide)) (cRx hX46 (by decide))
              have hP_57 := hP1.mono (cIx hI45 (by decide)) (cRx hX46 (by decide))
              have hK_58 := hK1.mono (cIx hI45 (by decide)) (cRx hX46 (by decide))
              have hEI59 := hEI1.tr hI45 (by decide)
              have hER60 := hER1.tr hX46 (by decide)
              show pl _ _ _ (209, [(0, .ref m0), (2, .int 3), (3, .int (nI x)), (4, .int (nI (by2 f p1))), (5, .int (nI p)), (6, .int (nI s3)), (7, .int (nI i)), (8, .int (nI (by4 f (p + 2)))), (10, .int (nI 3))], [.int 0], M40) _
              refine ps_st (S' := (210, [(0, .ref m0), (2, .int 3), (3, .int (nI x)), (4, .int (nI (by2 f p1))), (5, .int (nI p)), (6, .int (nI s3)), (7, .int (nI i)), (8, .int (nI (by4 f (p + 2)))), (10, .int (nI 3))], [], M40)) rfl rfl rfl ?_
              refine ps_st (S' := (211, [(0, .ref m0), (2, .int 3), (3, .int (nI x)), (4, .int (nI (by2 f p1))), (5, .int (nI p)), (6, .int (nI s3)), (7, .int (nI i)), (8, .int (nI (by4 f (p + 2)))), (10, .int (nI 3))], [.int (-1)], M40)) rfl rfl rfl ?_
              exact ps_ret rfl rfl (Or.inl ⟨(29, p), I42, R43, by
                  rw [← hs9, caS_st (i := i) (p := p) (s := s2) (by omega)]
                  rw [hsm, show nwS f E s2 4 p = .inl (29, p) by unfold nwS; rw [if_neg (by omega), if_neg (by decide), if_pos (by omega)]], rfl, hR44, hEI59, hER60, hi47, hi48⟩)
        · have c_86 : ¬ ((nI 10) ≤ (nI k)) := of_decide_eq_false c_86
          have n_86 : ¬ (10 ≤ k) := fun h9 => c_86 ((le_nI (p := 10) (n := k) (by decide) (by omega)).mpr h9)
          refine ps_st (S' := (90, [(0, .ref m0), (2, .int 3), (3, .int (nI x)), (4, .int (nI (by2 f p1))), (5, .int (nI p)), (6, .int (nI s3)), (7, .int (nI i)), (8, .int (nI (by4 f (p + 2)))), (9, .int (nI t)), (10, .int (gI (kb mj 3 (tX f n E (by2 f p)) k))), (11, .int (nI k))], [.ref m0], M1)) rfl rfl rfl ?_
          refine pr_ref (j := 63) (S' := (93, [(0, .ref m0), (2, .int 3), (3, .int (nI x)), (4, .int (nI (by2 f p1))), (5, .int (nI p)), (6, .int (nI s3)), (7, .int (nI i)), (8, .int (nI (by4 f (p + 2)))), (9, .int (nI t)), (10, .int (gI (kb mj 3 (tX f n E (by2 f p)) k))), (11, .int (nI k))], [.ref (q 63)], M1)) rfl hR1 rfl rfl ?_
          refine ps_st (S' := (95, [(0, .ref m0), (2, .int 3), (3, .int (nI x)), (4, .int (nI (by2 f p1))), (5, .int (nI p)), (6, .int (nI s3)), (7, .int (nI i)), (8, .int (nI (by4 f (p + 2)))), (9, .int (nI t)), (10, .int (gI (kb mj 3 (tX f n E (by2 f p)) k))), (11, .int (nI k))], [.int (nI k), .ref (q 63)], M1)) rfl rfl rfl ?_
          have hki_95 := kiN_lt k
          refine pr_ld (a := 63) (j := k) (y := (nI (kiN k))) (S' := (96, [(0, .ref m0), (2, .int 3), (3, .int (nI x)), (4, .int (nI (by2 f p1))), (5, .int (nI p)), (6, .int (nI s3)), (7, .int (nI i)), (8, .int (nI (by4 f (p + 2)))), (9, .int (nI t)), (10, .int (gI (kb mj 3 (tX f n E (by2 f p)) k))), (11, .int (nI k))], [.int (nI (kiN k))], M1)) rfl hR1 rfl (by omega) (fun _ => (hK1 k (by omega)).1) rfl (fun i1_95 => ?_)
          refine ps_st (S' := (97, [(0, .ref m0), (2, .int 3), (3, .int (nI x)), (4, .int (nI (by2 f p1))), (5, .int (nI p)), (6, .int (nI s3)), (7, .int (nI i)), (8, .int (nI (by4 f (p + 2)))), (9, .int (nI t)), (10, .int (gI (kb mj 3 (tX f n E (by2 f p)) k))), (11, .int (nI k))], [.int 3, .int (nI (kiN k))], M1)) rfl rfl rfl ?_
          refine ps_if2 (S1 := (134, [(0, .ref m0), (2, .int 3), (3, .int (nI x)), (4, .int (nI (by2 f p1))), (5, .int (nI p)), (6, .int (nI s3)), (7, .int (nI i)), (8, .int (nI (by4 f (p + 2)))), (9, .int (nI t)), (10, .int (gI (kb mj 3 (tX f n E (by2 f p)) k))), (11, .int (nI k))], [], M1)) (S2 := (100, [(0, .ref m0), (2, .int 3), (3, .int (nI x)), (4, .int (nI (by2 f p1))), (5, .int (nI p)), (6, .int (nI s3)), (7, .int (nI i)), (8, .int (nI (by4 f (p + 2)))), (9, .int (nI t)), (10, .int (gI (kb mj 3 (tX f n E (by2 f p)) k))), (11, .int (nI k))], [], M1)) rfl rfl rfl (fun c_97 => ?_) (fun c_97 => ?_)
          · have c_97 : ¬ (nI (kiN k)) = 3 := of_decide_eq_true c_97
            have n_97 : ¬ (kiN k = 3) := fun h9 => c_97 ((eq_nI (p := kiN k) (n := 3) (Nat.lt_trans (kiN_lt _) (by decide)) (by decide)).mpr h9)
            refine ps_st (S' := (137, [(11, .int ((nI k) + 1)), (0, .ref m0), (2, .int 3), (3, .int (nI x)), (4, .int (nI (by2 f p1))), (5, .int (nI p)), (6, .int (nI s3)), (7, .int (nI i)), (8, .int (nI (by4 f (p + 2)))), (9, .int (nI t)), (10, .int (gI (kb mj 3 (tX f n E (by2 f p)) k)))], [], M1)) rfl rfl rfl ?_
            rw [nI_add1 (p := k) (k := 1) (x := 1) rfl (by omega)]
            show pl _ _ _ (_, [(11, .int (nI (k + 1))), (0, .ref m0), (2, .int 3), (3, .int (nI x)), (4, .int (nI (by2 f p1))), (5, .int (nI p)), (6, .int (nI s3)), (7, .int (nI i)), (8, .int (nI (by4 f (p + 2)))), (9, .int (nI t)), (10, .int (gI (kb mj 3 (tX f n E (by2 f p)) k)))], [], M1) _
            refine ps_st (S' := (79, [(0, .ref m0), (2, .int 3), (3, .int (nI x)), (4, .int (nI (by2 f p1))), (5, .int (nI p)), (6, .int (nI s3)), (7, .int (nI i)), (8, .int (nI (by4 f (p + 2)))), (9, .int (nI t)), (10, .int (gI (kb mj 3 (tX f n E (by2 f p)) k))), (11, .int (nI (k + 1)))], [], M1)) rfl rfl rfl ?_
            have hkb : (gI (kb mj 3 (tX f n E (by2 f p)) k)) = gI (kb mj 3 (tX f n E (by2 f p)) (k + 1)) := by
              conv => rhs; unfold kb
              rw [if_neg (by omega)]
            rw [hkb]
            exact ih.2 (i) (p) (s2) (s3) (k + 1) (t) M1 I1 R1 hR1 hEI1 hER1 hl51 hl52 hl53 hF1 hY1 hP1 hK1 (hi0) (hl) (hb) (ha) (hs9) (by omega) (h1) (hsy)
          · have c_97 : ¬ (¬ (nI (kiN k)) = 3) := of_decide_eq_false c_97
            have n_97 : kiN k = 3 := (eq_nI (p := kiN k) (n := 3) (Nat.lt_trans (kiN_lt _) (by decide)) (by decide)).mp (Decidable.not_not.mp c_97)
            refine ps_st (S' := (101, [(0, .ref m0), (2, .int 3), (3, .int (nI x)), (4, .int (nI (by2 f p1))), (5, .int (nI p)), (6, .int (nI s3)), (7, .int (nI i)), (8, .int (nI (by4 f (p + 2)))), (9, .int (nI t)), (10, .int (gI (kb mj 3 (tX f n E (by2 f p)) k))), (11, .int (nI k))], [.ref m0], M1)) rfl rfl rfl ?_
            refine pr_int (j := 53) (S' := (104, [(0, .ref m0), (2, .int 3), (3, .int (nI x)), (4, .int (nI (by2 f p1))), (5, .int (nI p)), (6, .int (nI s3)), (7, .int (nI i)), (8, .int (nI (by4 f (p + 2)))), (9, .int (nI t)), (10, .int (gI (kb mj 3 (tX f n E (by2 f p)) k))), (11, .int (nI k))], [.int (nI mj)], M1)) rfl hR1 rfl hl53 rfl ?_
            refine ps_st (S' := (105, [(0, .ref m0), (2, .int 3), (3, .int (nI x)), (4, .int (nI (by2 f p1))), (5, .int (nI p)), (6, .int (nI s3)), (7, .int (nI i)), (8, .int (nI (by4 f (p + 2)))), (9, .int (nI t)), (10, .int (gI (kb mj 3 (tX f n E (by2 f p)) k))), (11, .int (nI k))], [.ref m0, .int (nI mj)], M1)) rfl rfl rfl ?_
            refine pr_ref (j := 64) (S' := (108, [(0, .ref m0), (2, .int 3), (3, .int (nI x)), (4, .int (nI (by2 f p1))), (5, .int (nI p)), (6, .int (nI s3)), (7, .int (nI i)), (8, .int (nI (by4 f (p + 2)))), (9, .int (nI t)), (10, .int (gI (kb mj 3 (tX f n E (by2 f p)) k))), (11, .int (nI k))], [.ref (q 64), .int (nI mj)], M1)) rfl hR1 rfl rfl ?_
            refine ps_st (S' := (110, [(0, .ref m0), (2, .int 3), (3, .int (nI x)), (4, .int (nI (by2 f p1))), (5, .int (nI p)), (6, .int (nI s3)), (7, .int (nI i)), (8, .int (nI (by4 f (p + 2)))), (9, .int (nI t)), (10, .int (gI (kb mj 3 (tX f n E (by2 f p)) k))), (11, .int (nI k))], [.int (nI k), .ref (q 64), .int (nI mj)], M1)) rfl rfl rfl ?_
            have hkf_110 := kfN_lt k
            refine pr_ld (a := 64) (j := k) (y := (nI (kfN k))) (S' := (111, [(0, .ref m0), (2, .int 3), (3, .int (nI x)), (4, .int (nI (by2 f p1))), (5, .int (nI p)), (6, .int (nI s3)), (7, .int (nI i)), (8, .int (nI (by4 f (p + 2)))), (9, .int (nI t)), (10, .int (gI (kb mj 3 (tX f n E (by2 f p)) k))), (11, .int (nI k))], [.int (nI (kfN k)), .int (nI mj)], M1)) rfl hR1 rfl (by omega) (fun _ => (hK1 k (by omega)).2) rfl (fun i1_110 => ?_)
            refine ps_if2 (S1 := (134, [(0, .ref m0), (2, .int 3), (3, .int (nI x)), (4, .int (nI (by2 f p1))), (5, .int (nI p)), (6, .int (nI s3)), (7, .int (nI i)), (8, .int (nI (by4 f (p + 2)))), (9, .int (nI t)), (10, .int (gI (kb mj 3 (tX f n E (by2 f p)) k))), (11, .int (nI k))], [], M1)) (S2 := (114, [(0, .ref m0), (2, .int 3), (3, .int (nI x)), (4, .int (nI (by2 f p1))), (5, .int (nI p)), (6, .int (nI s3)), (7, .int (nI i)), (8, .int (nI (by4 f (p + 2)))), (9, .int (nI t)), (10, .int (gI (kb mj 3 (tX f n E (by2 f p)) k))), (11, .int (nI k))], [], M1)) rfl rfl rfl (fun c_111 => ?_) (fun c_111 => ?_)
            · have c_111 : (nI mj) < (nI (kfN k)) := of_decide_eq_true c_111
              have n_111 : mj < kfN k := (lt_nI (p := mj) (n := kfN k) (by omega) (Nat.lt_trans (kfN_lt _) (by decide))).mp c_111
              refine ps_st (S' := (137, [(11, .int ((nI k) + 1)), (0, .ref m0), (2, .int 3), (3, .int (nI x)), (4, .int (nI (by2 f p1))), (5, .int (nI p)), (6, .int (nI s3)), (7, .int (nI i)), (8, .int (nI (by4 f (p + 2)))), (9, .int (nI t)), (10, .int (gI (kb mj 3 (tX f n E (by2 f p)) k)))], [], M1)) rfl rfl rfl ?_
              rw [nI_add1 (p := k) (k := 1) (x := 1) rfl (by omega)]
              show pl _ _ _ (_, [(11, .int (nI (k + 1))), (0, .ref m0), (2, .int 3), (3, .int (nI x)), (4, .int (nI (by2 f p1))), (5, .int (nI p)), (6, .int (nI s3)), (7, .int (nI i)), (8, .int (nI (by4 f (p + 2)))), (9, .int (nI t)), (10, .int (gI (kb mj 3 (tX f n E (by2 f p)) k)))], [], M1) _
              refine ps_st (S' := (79, [(0, .ref m0), (2, .int 3), (3, .int (nI x)), (4, .int (nI (by2 f p1))), (5, .int (nI p)), (6, .int (nI s3)), (7, .int (nI i)), (8, .int (nI (by4 f (p + 2)))), (9, .int (nI t)), (10, .int (gI (kb mj 3 (tX f n E (by2 f p)) k))), (11, .int (nI (k + 1)))], [], M1)) rfl rfl rfl ?_
              have hkb : (gI (kb mj 3 (tX f n E (by2 f p)) k)) = gI (kb mj 3 (tX f n E (by2 f p)) (k + 1)) := by
                conv => rhs; unfold kb
                rw [if_neg (by omega)]
              rw [hkb]
              exact ih.2 (i) (p) (s2) (s3) (k + 1) (t) M1 I1 R1 hR1 hEI1 hER1 hl51 hl52 hl53 hF1 hY1 hP1 hK1 (hi0) (hl) (hb) (ha) (hs9) (by omega) (h1) (hsy)
            · have c_111 : ¬ ((nI mj) < (nI (kfN k))) := of_decide_eq_false c_111
              have n_111 : ¬ (mj < kfN k) := fun h9 => c_111 ((lt_nI (p := mj) (n := kfN k) (by omega) (Nat.lt_trans (kfN_lt _) (by decide))).mpr h9)
              refine ps_st (S' := (115, [(0, .ref m0), (2, .int 3), (3, .int (nI x)), (4, .int (nI (by2 f p1))), (5, .int (nI p)), (6, .int (nI s3)), (7, .int (nI i)), (8, .int (nI (by4 f (p + 2)))), (9, .int (nI t)), (10, .int (gI (kb mj 3 (tX f n E (by2 f p)) k))), (11, .int (nI k))], [.ref m0], M1)) rfl rfl rfl ?_
              refine ps_st (S' := (117, [(0, .ref m0), (2, .int 3), (3, .int (nI x)), (4, .int (nI (by2 f p1))), (5, .int (nI p)), (6, .int (nI s3)), (7, .int (nI i)), (8, .int (nI (by4 f (p + 2)))), (9, .int (nI t)), (10, .int (gI (kb mj 3 (tX f n E (by2 f p)) k))), (11, .int (nI k))], [.int (nI t), .ref m0], M1)) rfl rfl rfl ?_
              refine ps_st (S' := (118, [(0, .ref m0), (2, .int 3), (3, .int (nI x)), (4, .int (nI (by2 f p1))), (5, .int (nI p)), (6, .int (nI s3)), (7, .int (nI i)), (8, .int (nI (by4 f (p + 2)))), (9, .int (nI t)), (10, .int (gI (kb mj 3 (tX f n E (by2 f p)) k))), (11, .int (nI k))], [.ref m0, .int (nI t), .ref m0], M1)) rfl rfl rfl ?_
              refine pr_ref (j := 62) (S' := (121, [(0, .ref m0), (2, .int 3), (3, .int (nI x)), (4, .int (nI (by2 f p1))), (5, .int (nI p)), (6, .int (nI s3)), (7, .int (nI i)), (8, .int (nI (by4 f (p + 2)))), (9, .int (nI t)), (10, .int (gI (kb mj 3 (tX f n E (by2 f p)) k))), (11, .int (nI k))], [.ref (q 62), .int (nI t), .ref m0], M1)) rfl hR1 rfl rfl ?_
              refine ps_st (S' := (123, [(0, .ref m0), (2, .int 3), (3, .int (nI x)), (4, .int (nI (by2 f p1))), (5, .int (nI p)), (6, .int (nI s3)), (7, .int (nI i)), (8, .int (nI (by4 f (p + 2)))), (9, .int (nI t)), (10, .int (gI (kb mj 3 (tX f n E (by2 f p)) k))), (11, .int (nI k))], [.int (nI k), .ref (q 62), .int (nI t), .ref m0], M1)) rfl rfl rfl ?_
              refine pr_kn (j := k) (S' := (124, [(0, .ref m0), (2, .int 3), (3, .int (nI x)), (4, .int (nI (by2 f p1))), (5, .int (nI p)), (6, .int (nI s3)), (7, .int (nI i)), (8, .int (nI (by4 f (p + 2)))), (9, .int (nI t)), (10, .int (gI (kb mj 3 (tX f n E (by2 f p)) k))), (11, .int (nI k))], [.ref (g.2.1 (15 + k)), .int (nI t), .ref m0], M1)) rfl hR1 (by omega) rfl ?_
              refine pl_call (a := [.ref m0, .int (nI t), .ref (g.2.1 (15 + k))]) (rest := []) rfl rfl rfl (rd_is (tx := tx) (cN := cN) (A := A) (s := t) (l := (tX f n E (by2 f p))) (lk := (15 + k)) hR1 hY1 (hsy) (⟨by omega, by omega⟩)) (fun v61 M62 q63 => ?_)
              obtain ⟨rfl, rfl⟩ := q63
              show pl _ _ _ (127, [(0, .ref m0), (2, .int 3), (3, .int (nI x)), (4, .int (nI (by2 f p1))), (5, .int (nI p)), (6, .int (nI s3)), (7, .int (nI i)), (8, .int (nI (by4 f (p + 2)))), (9, .int (nI t)), (10, .int (gI (kb mj 3 (tX f n E (by2 f p)) k))), (11, .int (nI k))], [.int (nI (eqN (tX f n E (by2 f p)) (ltx (15 + k))))], M1) _
              refine ps_if (S1 := (134, [(0, .ref m0), (2, .int 3), (3, .int (nI x)), (4, .int (nI (by2 f p1))), (5, .int (nI p)), (6, .int (nI s3)), (7, .int (nI i)), (8, .int (nI (by4 f (p + 2)))), (9, .int (nI t)), (10, .int (gI (kb mj 3 (tX f n E (by2 f p)) k))), (11, .int (nI k))], [], M1)) (S2 := (130, [(0, .ref m0), (2, .int 3), (3, .int (nI x)), (4, .int (nI (by2 f p1))), (5, .int (nI p)), (6, .int (nI s3)), (7, .int (nI i)), (8, .int (nI (by4 f (p + 2)))), (9, .int (nI t)), (10, .int (gI (kb mj 3 (tX f n E (by2 f p)) k))), (11, .int (nI k))], [], M1)) rfl rfl rfl (fun c_127 => ?_) (fun c_127 => ?_)
              · have c_127 : (nI (eqN (tX f n E (by2 f p)) (ltx (15 + k)))) = 0 := of_decide_eq_true c_127
                have n_127 : eqN (tX f n E (by2 f p)) (ltx (15 + k)) = 0 := (eq_nI (p := eqN (tX f n E (by2 f p)) (ltx (15 + k))) (n := 0) (Nat.lt_trans (le1_eq _ _) (by decide)) (by decide)).mp c_127
                refine ps_st (S' := (137, [(11, .int ((nI k) + 1)), (0, .ref m0), (2, .int 3), (3, .int (nI x)), (4, .int (nI (by2 f p1))), (5, .int (nI p)), (6, .int (nI s3)), (7, .int (nI i)), (8, .int (nI (by4 f (p + 2)))), (9, .int (nI t)), (10, .int (gI (kb mj 3 (tX f n E (by2 f p)) k)))], [], M1)) rfl rfl rfl ?_
                rw [nI_add1 (p := k) (k := 1) (x := 1) rfl (by omega)]
                show pl _ _ _ (_, [(11, .int (nI (k + 1))), (0, .ref m0), (2, .int 3), (3, .int (nI x)), (4, .int (nI (by2 f p1))), (5, .int (nI p)), (6, .int (nI s3)), (7, .int (nI i)), (8, .int (nI (by4 f (p + 2)))), (9, .int (nI t)), (10, .int (gI (kb mj 3 (tX f n E (by2 f p)) k)))], [], M1) _
                refine ps_st (S' := (79, [(0, .ref m0), (2, .int 3), (3, .int (nI x)), (4, .int (nI (by2 f p1))), (5, .int (nI p)), (6, .int (nI s3)), (7, .int (nI i)), (8, .int (nI (by4 f (p + 2)))), (9, .int (nI t)), (10, .int (gI (kb mj 3 (tX f n E (by2 f p)) k))), (11, .int (nI (k + 1)))], [], M1)) rfl rfl rfl ?_
                have hkb : (gI (kb mj 3 (tX f n E (by2 f p)) k)) = gI (kb mj 3 (tX f n E (by2 f p)) (k + 1)) := by
                  conv => rhs; unfold kb
                  rw [if_neg (by omega)]
                rw [hkb]
                exact ih.2 (i) (p) (s2) (s3) (k + 1) (t) M1 I1 R1 hR1 hEI1 hER1 hl51 hl52 hl53 hF1 hY1 hP1 hK1 (hi0) (hl) (hb) (ha) (hs9) (by omega) (h1) (hsy)
              · have c_127 : ¬ ((nI (eqN (tX f n E (by2 f p)) (ltx (15 + k)))) = 0) := of_decide_eq_false c_127
                have n_127 : ¬ (eqN (tX f n E (by2 f p)) (ltx (15 + k)) = 0) := fun h9 => c_127 ((eq_nI (p := eqN (tX f n E (by2 f p)) (ltx (15 + k))) (n := 0) (Nat.lt_trans (le1_eq _ _) (by decide)) (by decide)).mpr h9)
                refine ps_st (S' := (132, [(0, .ref m0), (2, .int 3), (3, .int (nI x)), (4, .int (nI (by2 f p1))), (5, .int (nI p)), (6, .int (nI s3)), (7, .int (nI i)), (8, .int (nI (by4 f (p + 2)))), (9, .int (nI t)), (10, .int (gI (kb mj 3 (tX f n E (by2 f p)) k))), (11, .int (nI k))], [.int (nI k)], M1)) rfl rfl rfl ?_
                refine ps_st (S' := (134, [(0, .ref m0), (2, .int 3), (3, .int (nI x)), (4, .int (nI (by2 f p1))), (5, .int (nI p)), (6, .int (nI s3)), (7, .int (nI i)), (8, .int (nI (by4 f (p + 2)))), (9, .int (nI t)), (10, .int (nI k)), (11, .int (nI k))], [], M1)) rfl rfl rfl ?_
                refine ps_st (S' := (137, [(11, .int ((nI k) + 1)), (0, .ref m0), (2, .int 3), (3, .int (nI x)), (4, .int (nI (by2 f p1))), (5, .int (nI p)), (6, .int (nI s3)), (7, .int (nI i)), (8, .int (nI (by4 f (p + 2)))), (9, .int (nI t)), (10, .int (nI k))], [], M1)) rfl rfl rfl ?_
                rw [nI_add1 (p := k) (k := 1) (x := 1) rfl (by omega)]
                show pl _ _ _ (_, [(11, .int (nI (k + 1))), (0, .ref m0), (2, .int 3), (3, .int (nI x)), (4, .int (nI (by2 f p1))), (5, .int (nI p)), (6, .int (nI s3)), (7, .int (nI i)), (8, .int (nI (by4 f (p + 2)))), (9, .int (nI t)), (10, .int (nI k))], [], M1) _
                refine ps_st (S' := (79, [(0, .ref m0), (2, .int 3), (3, .int (nI x)), (4, .int (nI (by2 f p1))), (5, .int (nI p)), (6, .int (nI s3)), (7, .int (nI i)), (8, .int (nI (by4 f (p + 2)))), (9, .int (nI t)), (10, .int (nI k)), (11, .int (nI (k + 1)))], [], M1)) rfl rfl rfl ?_
                have hkb : (nI k) = gI (kb mj 3 (tX f n E (by2 f p)) (k + 1)) := by
                  conv => rhs; unfold kb
                  rw [if_pos ⟨by omega, by omega, by omega⟩]
                  rfl
                rw [hkb]
                exact ih.2 (i) (p) (s2) (s3) (k + 1) (t) M1 I1 R1 hR1 hEI1 hER1 hl51 hl52 hl53 hF1 hY1 hP1 hK1 (hi0) (hl) (hb) (ha) (hs9) (by omega) (h1) (hsy)
  refine ps_st (S' := (1, [(0, .ref m0), (1, .int (nI p1)), (2, .int 3), (3, .int (nI x))], [.ref m0], M)) rfl rfl rfl ?_
  refine ps_st (S' := (2, [(0, .ref m0), (1, .int (nI p1)), (2, .int 3), (3, .int (nI x))], [.int (nI p1), .ref m0], M)) rfl rfl rfl ?_
  refine pl_call (a := [.ref m0, .int (nI p1)]) (rest := []) rfl rfl rfl (rd_u2 (n := n) (f := f) (p := p1) hR hF (by omega)) (fun v64 M65 q66 => ?_)
  obtain ⟨rfl, rfl⟩ := q66
  show pl _ _ _ (5, [(0, .ref m0), (1, .int (nI p1)), (2, .int 3), (3, .int (nI x))], [.int (nI (by2 f p1))], M) _
  have hu_2 := by2_lt f p1
  refine ps_st (S' := (7, [(4, .int (nI (by2 f p1))), (0, .ref m0), (1, .int (nI p1)), (2, .int 3), (3, .int (nI x))], [], M)) rfl rfl rfl ?_
  refine ps_st (S' := (8, [(4, .int (nI (by2 f p1))), (0, .ref m0), (1, .int (nI p1)), (2, .int 3), (3, .int (nI x))], [.int (nI p1)], M)) rfl rfl rfl ?_
  refine ps_st (S' := (9, [(4, .int (nI (by2 f p1))), (0, .ref m0), (1, .int (nI p1)), (2, .int 3), (3, .int (nI x))], [.int 2, .int (nI p1)], M)) rfl rfl rfl ?_
  refine ps_st (S' := (10, [(4, .int (nI (by2 f p1))), (0, .ref m0), (1, .int (nI p1)), (2, .int 3), (3, .int (nI x))], [.int ((nI p1) + 2)], M)) rfl rfl rfl ?_
  rw [nI_add1 (p := p1) (k := 2) (x := 2) rfl (by omega)]
  show pl _ _ _ (_, [(4, .int (nI (by2 f p1))), (0, .ref m0), (1, .int (nI p1)), (2, .int 3), (3, .int (nI x))], [.int (nI (p1 + 2))], M) _
  refine ps_st (S' := (12, [(5, .int (nI (p1 + 2))), (4, .int (nI (by2 f p1))), (0, .ref m0), (1, .int (nI p1)), (2, .int 3), (3, .int (nI x))], [], M)) rfl rfl rfl ?_
  refine ps_st (S' := (13, [(5, .int (nI (p1 + 2))), (4, .int (nI (by2 f p1))), (0, .ref m0), (1, .int (nI p1)), (2, .int 3), (3, .int (nI x))], [.int 0], M)) rfl rfl rfl ?_
  refine ps_st (S' := (15, [(6, .int 0), (5, .int (nI (p1 + 2))), (4, .int (nI (by2 f p1))), (0, .ref m0), (1, .int (nI p1)), (2, .int 3), (3, .int (nI x))], [], M)) rfl rfl rfl ?_
  refine ps_st (S' := (16, [(6, .int 0), (5, .int (nI (p1 + 2))), (4, .int (nI (by2 f p1))), (0, .ref m0), (1, .int (nI p1)), (2, .int 3), (3, .int (nI x))], [.int 0], M)) rfl rfl rfl ?_
  refine ps_st (S' := (18, [(0, .ref m0), (2, .int 3), (3, .int (nI x)), (4, .int (nI (by2 f p1))), (5, .int (nI (p1 + 2))), (6, .int 0), (7, .int 0)], [], M)) rfl rfl rfl ?_
  exact (LL kf).1 (0) (p1 + 2) (0) (0) M I R hR hEI hER hi51 hi52 hi53 hF hY hP hK (by omega) (by decide) (rfl) (hat) (rfl)
end
section
/-! the Code attribute as the reference checks it (laid by wip/p4/e12.py) -/

theorem cdE_of {f : Nat → Int32} {e p : Nat} : s_cdE f e (p + 6) = if e < p + 14 then none else if e < p + 14 + by4 f (p + 10) then none else if e < p + 14 + by4 f (p + 10) + 2 + 8 * by2 f (p + 14 + by4 f (p + 10)) + 2 then none else
    s_atE f e (by2 f (p + 14 + by4 f (p + 10) + 2 + 8 * by2 f (p + 14 + by4 f (p + 10)))) (p + 14 + by4 f (p + 10) + 2 + 8 * by2 f (p + 14 + by4 f (p + 10)) + 2) := rfl
end
section
/-! attributes one by one, as the reference checks them (laid by wip/p4/e13.py) -/

theorem fe_c {f : Nat → Int32} {k p e : Nat} (hk : k = 3 ∨ k = 8 ∨ k = 10) (h : p + 2 ≤ e) : s_fe f k p e = some (p + 2 + 2 * by2 f p) := by
  unfold s_fe
  rw [if_neg (by omega), if_neg (by omega), if_pos hk]
theorem fe_5 {f : Nat → Int32} {p e : Nat} (h : p + 2 ≤ e) : s_fe f 5 p e = some (p + 2 + 8 * by2 f p) := by
  unfold s_fe
  rw [if_neg (by omega), if_neg (by decide), if_neg (by decide), if_pos rfl]
theorem fe_1 {f : Nat → Int32} {k p e : Nat} (hk : k = 1 ∨ k = 7) (h : p + 2 ≤ e) : s_fe f k p e = some (p + 2) := by
  unfold s_fe
  rw [if_neg (by omega), if_pos hk]
theorem fe_cd {f : Nat → Int32} {p e : Nat} : s_fe f 2 p e = s_cdE f e p := by
  by_cases h : e < p + 2
  · unfold s_fe s_cdE
    rw [if_pos h, if_pos (by omega)]
  · unfold s_fe
    rw [if_neg h, if_neg (by decide), if_neg (by decide), if_neg (by decide), if_neg (by decide), if_neg (by decide)]
theorem ct_in {l : List Nat} (h : ¬ fldN l = 0) : 0 < l.length ∧ (l.getD 0 0 = 91 → 1 < l.length) ∧ (l.getD 0 0 = 76 → 1 < l.length) ∧ (¬ l.getD 0 0 = 91 → ¬ l.getD 0 0 = 76 → l.length = 1) := by
  have h1 : s_ty (fun i => l.getD i 0) l.length 0 = some l.length := by
    rw [fld_eq] at h
    by_cases h2 : s_ty (fun i => l.getD i 0) l.length 0 = some l.length
    · exact h2
    · rw [if_neg h2] at h
      exact absurd rfl h
  have h0 := (s_ty_le h1).1
  have hb := br_st (c := fun i => l.getD i 0) (n := l.length) (k := 0) h0
  have hb2 := s_br_le (c := fun i => l.getD i 0) (r := l.length - (0 + 1)) (i := 0 + 1)
  have hb3 : (l.getD 0 0 = 91 → 1 ≤ s_br (fun i => l.getD i 0) (l.length - 0) 0) ∧ (¬ l.getD 0 0 = 91 → s_br (fun i => l.getD i 0) (l.length - 0) 0 = 0) := by
    rw [hb]
    refine ⟨fun h9 => ?_, fun h9 => ?_⟩
    · rw [if_pos h9]
      exact hb2.1
    · rw [if_neg h9]
  clear hb hb2
  unfold s_ty at h1
  generalize s_br (fun i => l.getD i 0) (l.length - 0) 0 = b at h1 hb3
  split at h1
  · cases h1
  · split at h1
    · have h4 := Option.some.inj h1
      refine ⟨h0, fun h9 => ?_, fun h9 => ?_, fun h9 _ => ?_⟩
      · have := hb3.1 h9
        omega
      · rename_i h7
        have h8 := hb3.2 (by omega)
        rw [h8] at h7
        have h7' : l.getD 0 0 = 66 ∨ l.getD 0 0 = 67 ∨ l.getD 0 0 = 68 ∨ l.getD 0 0 = 70 ∨ l.getD 0 0 = 73 ∨ l.getD 0 0 = 74 ∨ l.getD 0 0 = 83 ∨ l.getD 0 0 = 90 := h7
        omega
      · have := hb3.2 h9
        omega
    · split at h1
      · split at h1
        · cases h1
        · rename_i x hx
          split at h1
          · have h4 := Option.some.inj h1
            have h5 := s_nm_le hx
            refine ⟨h0, fun h9 => by omega, fun h9 => by omega, fun h9 h8 => ?_⟩
            exfalso
            have h7 : (fun i => l.getD i 0) b = 76 := by assumption
            rw [hb3.2 h9] at h7
            exact h8 h7
          · cases h1
      · cases h1
theorem lt_28 : ltx 28 = ltx 9 := by decide +kernel
theorem ct_str {l : List Nat} (h : ¬ l.getD 0 0 = 76) : eqN l (ltx 9) = 0 := by
  unfold eqN
  refine if_neg (fun h9 => h ?_)
  rw [h9]
  decide +kernel
theorem ct_ne {l : List Nat} (h : ¬ fldN l = 0) (h1 : ¬ l.getD 0 0 = 76) (h2 : ¬ l.getD 0 0 = 91) : ctS l = some (if l.getD 0 0 = 70 then 4 else if l.getD 0 0 = 74 then 5 else if l.getD 0 0 = 68 then 6 else 3) := by
  have h3 := (ct_in h).2.2.2 h2 h1
  unfold ctS
  rw [if_neg (by rw [ct_str h1]; exact fun h9 => h9 rfl), if_neg (by omega)]
  split
  · rfl
  · split
    · rfl
    · split <;> rfl
theorem ct_91 {l : List Nat} (h : ¬ fldN l = 0) (h1 : l.getD 0 0 = 91) : ctS l = none := by
  have h3 := (ct_in h).2.1 h1
  unfold ctS
  rw [if_neg (by rw [ct_str (by omega)]; exact fun h9 => h9 rfl), if_pos (by omega)]
theorem ct_76 {l : List Nat} (h : ¬ fldN l = 0) (h1 : l.getD 0 0 = 76) : ctS l = if eqN l (ltx 9) = 0 then none else some 8 := by
  have h3 := (ct_in h).2.2.1 h1
  unfold ctS
  by_cases h4 : eqN l (ltx 9) = 0
  · rw [if_neg (by omega), if_pos (by omega), if_pos h4]
  · rw [if_pos h4, if_neg h4]
set_option maxHeartbeats 4000000 in
theorem rd_attr7 {g : xe_G} {m0 : Nat} {q : Nat → Nat} {z : Nat × Nat} {I : rI} {R : rR} {M : mi_H} {n : Nat} {f : Nat → Int32} {tx : List (List Nat)} {cN : Nat} {A : Nat → Nat} {N mj : Nat} {E : List (Nat × Nat)} {p0 e x s3 : Nat} {t : Int32} (hR : RS g m0 q z I R M) (hi51 : I 51 = some 0) (hi52 : I 52 = some (nI N)) (hi53 : I 53 = some (nI mj)) (hF : FK n f I R) (hY : SYT tx cN A I R) (hP : RPV f n E tx N I R) (hEP : EP f n E) (hN : N < 65536) (hmj : mj < 65536) (he : p0 ≤ e ∧ e ≤ n) (hs3 : s3 < 2048) : pt (mT g) 177 [.ref m0, .int 7, .int t, .int (nI p0), .int (nI e), .int (nI x), .int (nI s3)] M (fun v M' => (∃  (I' : rI) (R' : rR), (¬ s_fe f 8 p0 e = some e) ∧ v = some (.int 30) ∧ RS g m0 q z I' R' M' ∧ eqI [68] I I' ∧ eqR [] R R') ∨ (∃  (I' : rI) (R' : rR), (s_fe f 8 p0 e = some e) ∧ (clA f E (p0 + 2) (by2 f p0) 0 = 0 ∨ ¬ sb s3 6 = 0) ∧ v = some (.int 35) ∧ RS g m0 q z I' R' M' ∧ eqI [68] I I' ∧ eqR [] R R') ∨ (∃  (I' : rI) (R' : rR), (s_fe f 8 p0 e = some e) ∧ (¬ clA f E (p0 + 2) (by2 f p0) 0 = 0 ∧ sb s3 6 = 0) ∧ v = some (.int 0) ∧ RS g m0 q z I' R' M' ∧ eqI [68] I I' ∧ eqR [] R R' ∧ I' 68 = some (nI (by2 f p0)))) := by
  refine pt_in (b := mb_177 g) rfl (fun kf => ?_)
  show pl (mT g) kf (mb_177 g).2 (0, [(0, .ref m0), (1, .int 7), (2, .int t), (3, .int (nI p0)), (4, .int (nI e)), (5, .int (nI x)), (6, .int (nI s3))], [], M) _
  have hEI : eqI [68] I I := eqI.rf
  have hER : eqR [] R R := eqR.rf
  have hn := hF.1
  have LL : ∀ (kf : Nat), (∀ (i : Nat) (M1 : mi_H) (I1 : rI) (R1 : rR), (RS g m0 q z I1 R1 M1) → (eqI [68] I I1) → (eqR [] R R1) → (I1 51 = some 0) → (I1 52 = some (nI N)) → (I1 53 = some (nI mj)) → (FK n f I1 R1) → (SYT tx cN A I1 R1) → (RPV f n E tx N I1 R1) → (s_fe f 8 p0 e = some e) → (i ≤ by2 f p0) → (p0 + 2 + 2 * by2 f p0 = e) → (clA f E (p0 + 2) (by2 f p0 - i) i = clA f E (p0 + 2) (by2 f p0) 0) →  pl (mT g) kf (mb_177 g).2 (268, [(0, .ref m0), (1, .int 7), (3, .int (nI p0)), (5, .int (nI x)), (6, .int (nI s3)), (9, .int (nI i))], [], M1) (fun v M' => (∃  (I' : rI) (R' : rR), (¬ s_fe f 8 p0 e = some e) ∧ v = some (.int 30) ∧ RS g m0 q z I' R' M' ∧ eqI [68] I I' ∧ eqR [] R R') ∨ (∃  (I' : rI) (R' : rR), (s_fe f 8 p0 e = some e) ∧ (clA f E (p0 + 2) (by2 f p0) 0 = 0 ∨ ¬ sb s3 6 = 0) ∧ v = some (.int 35) ∧ RS g m0 q z I' R' M' ∧ eqI [68] I I' ∧ eqR [] R R') ∨ (∃  (I' : rI) (R' : rR), (s_fe f 8 p0 e = some e) ∧ (¬ clA f E (p0 + 2) (by2 f p0) 0 = 0 ∧ sb s3 6 = 0) ∧ v = some (.int 0) ∧ RS g m0 q z I' R' M' ∧ eqI [68] I I' ∧ eqR [] R R' ∧ I' 68 = some (nI (by2 f p0))))) := by
    intro kf
    induction kf with
    | zero => exact (by intros; exact pl_0)
    | succ kf ih =>
      intro i M1 I1 R1 hR1 hEI1 hER1 hl51 hl52 hl53 hF1 hY1 hP1 hfe hi hle hs
      have hn := hF1.1
      have hu9 := by2_lt f p0
      have hs6 := sb_lt s3 6
      have hs7 := sb_lt s3 7
      refine ps_st1 (S' := (270, [(0, .ref m0), (1, .int 7), (3, .int (nI p0)), (5, .int (nI x)), (6, .int (nI s3)), (9, .int (nI i))], [.int (nI i)], M1)) rfl rfl rfl ?_
      refine ps_st (S' := (271, [(0, .ref m0), (1, .int 7), (3, .int (nI p0)), (5, .int (nI x)), (6, .int (nI s3)), (9, .int (nI i))], [.ref m0, .int (nI i)], M1)) rfl rfl rfl ?_
      refine ps_st (S' := (272, [(0, .ref m0), (1, .int 7), (3, .int (nI p0)), (5, .int (nI x)), (6, .int (nI s3)), (9, .int (nI i))], [.int (nI p0), .ref m0, .int (nI i)], M1)) rfl rfl rfl ?_
      refine pl_call (a := [.ref m0, .int (nI p0)]) (rest := [.int (nI i)]) rfl rfl rfl (rd_u2 (n := n) (f := f) (p := p0) hR1 hF1 (by omega)) (fun v1 M2 q3 => ?_)
      obtain ⟨rfl, rfl⟩ := q3
      show pl _ _ _ (275, [(0, .ref m0), (1, .int 7), (3, .int (nI p0)), (5, .int (nI x)), (6, .int (nI s3)), (9, .int (nI i))], [.int (nI (by2 f p0)), .int (nI i)], M1) _
      have hu_272 := by2_lt f p0
      refine ps_if2 (S1 := (329, [(0, .ref m0), (1, .int 7), (3, .int (nI p0)), (5, .int (nI x)), (6, .int (nI s3)), (9, .int (nI i))], [], M1)) (S2 := (278, [(0, .ref m0), (1, .int 7), (3, .int (nI p0)), (5, .int (nI x)), (6, .int (nI s3)), (9, .int (nI i))], [], M1)) rfl rfl rfl (fun c_275 => ?_) (fun c_275 => ?_)
      · have c_275 : (nI (by2 f p0)) ≤ (nI i) := of_decide_eq_true c_275
        have n_275 : by2 f p0 ≤ i := (le_nI (p := by2 f p0) (n := i) (Nat.lt_trans (by2_lt _ _) (by decide)) (by omega)).mp c_275
        refine ps_st (S' := (330, [(0, .ref m0), (1, .int 7), (3, .int (nI p0)), (5, .int (nI x)), (6, .int (nI s3)), (9, .int (nI i))], [.int 7], M1)) rfl rfl rfl ?_
        refine ps_st (S' := (332, [(0, .ref m0), (1, .int 7), (3, .int (nI p0)), (5, .int (nI x)), (6, .int (nI s3)), (9, .int (nI i))], [.int 7, .int 7], M1)) rfl rfl rfl ?_
        refine ps_if2 (S1 := (349, [(0, .ref m0), (1, .int 7), (3, .int (nI p0)), (5, .int (nI x))], [], M1)) (S2 := (335, [(0, .ref m0), (1, .int 7), (3, .int (nI p0)), (5, .int (nI x)), (6, .int (nI s3)), (9, .int (nI i))], [], M1)) rfl rfl rfl (fun c_332 => ?_) (fun c_332 => ?_)
        · exact absurd (of_decide_eq_true c_332) (by decide)
        refine ps_st (S' := (337, [(0, .ref m0), (1, .int 7), (3, .int (nI p0)), (5, .int (nI x)), (6, .int (nI s3)), (9, .int (nI i))], [.int (nI s3)], M1)) rfl rfl rfl ?_
        refine ps_st (S' := (339, [(0, .ref m0), (1, .int 7), (3, .int (nI p0)), (5, .int (nI x)), (6, .int (nI s3)), (9, .int (nI i))], [.int 6, .int (nI s3)], M1)) rfl rfl rfl ?_
        refine ps_st (S' := (340, [(0, .ref m0), (1, .int 7), (3, .int (nI p0)), (5, .int (nI x)), (6, .int (nI s3)), (9, .int (nI i))], [.int ((nI s3) >>> (6 &&& 31))], M1)) rfl rfl rfl ?_
        refine ps_st (S' := (341, [(0, .ref m0), (1, .int 7), (3, .int (nI p0)), (5, .int (nI x)), (6, .int (nI s3)), (9, .int (nI i))], [.int 1, .int ((nI s3) >>> (6 &&& 31))], M1)) rfl rfl rfl ?_
        refine ps_st (S' := (342, [(0, .ref m0), (1, .int 7), (3, .int (nI p0)), (5, .int (nI x)), (6, .int (nI s3)), (9, .int (nI i))], [.int (((nI s3) >>> (6 &&& 31)) &&& 1)], M1)) rfl rfl rfl ?_
        rw [show (nI s3 >>> (6 &&& 31)) &&& 1 = nI (sb s3 6) from shr_k s3 (by omega) 6 (by decide)]
        show pl _ _ _ (_, [(0, .ref m0), (1, .int 7), (3, .int (nI p0)), (5, .int (nI x)), (6, .int (nI s3)), (9, .int (nI i))], [.int (nI (sb s3 6))], M1) _
        refine ps_st (S' := (343, [(0, .ref m0), (1, .int 7), (3, .int (nI p0)), (5, .int (nI x)), (6, .int (nI s3)), (9, .int (nI i))], [.int 1, .int (nI (sb s3 6))], M1)) rfl rfl rfl ?_
        refine ps_if2 (S1 := (349, [(0, .ref m0), (1, .int 7), (3, .int (nI p0)), (5, .int (nI x))], [], M1)) (S2 := (346, [(0, .ref m0), (1, .int 7), (3, .int (nI p0)), (5, .int (nI x)), (6, .int (nI s3)), (9, .int (nI i))], [], M1)) rfl rfl rfl (fun c_343 => ?_) (fun c_343 => ?_)
        · have c_343 : ¬ (nI (sb s3 6)) = 1 := of_decide_eq_true c_343
          have n_343 : ¬ (sb s3 6 = 1) := fun h9 => c_343 ((eq_nI (p := sb s3 6) (n := 1) (Nat.lt_trans (sb_lt _ _) (by decide)) (by decide)).mpr h9)
          refine ps_st (S' := (350, [(0, .ref m0), (1, .int 7), (3, .int (nI p0)), (5, .int (nI x))], [.int 7], M1)) rfl rfl rfl ?_
          refine ps_st (S' := (351, [(0, .ref m0), (1, .int 7), (3, .int (nI p0)), (5, .int (nI x))], [.int 2, .int 7], M1)) rfl rfl rfl ?_
          refine ps_if2 (S1 := (366, [(0, .ref m0), (1, .int 7), (3, .int (nI p0))], [], M1)) (S2 := (354, [(0, .ref m0), (1, .int 7), (3, .int (nI p0)), (5, .int (nI x))], [], M1)) rfl rfl rfl (fun c_351 => ?_) (fun c_351 => ?_)
          rotate_left
          · exact absurd (by decide) (of_decide_eq_false c_351)
          refine ps_st (S' := (367, [(0, .ref m0), (1, .int 7), (3, .int (nI p0))], [.int 7], M1)) rfl rfl rfl ?_
          refine ps_st (S' := (369, [(0, .ref m0), (1, .int 7), (3, .int (nI p0))], [.int 7, .int 7], M1)) rfl rfl rfl ?_
          refine ps_if2 (S1 := (381, [(0, .ref m0), (1, .int 7), (3, .int (nI p0))], [], M1)) (S2 := (372, [(0, .ref m0), (1, .int 7), (3, .int (nI p0))], [], M1)) rfl rfl rfl (fun c_369 => ?_) (fun c_369 => ?_)
          · exact absurd (of_decide_eq_true c_369) (by decide)
          refine ps_st (S' := (373, [(0, .ref m0), (1, .int 7), (3, .int (nI p0))], [.ref m0], M1)) rfl rfl rfl ?_
          refine ps_st (S' := (374, [(0, .ref m0), (1, .int 7), (3, .int (nI p0))], [.ref m0, .ref m0], M1)) rfl rfl rfl ?_
          refine ps_st (S' := (375, [(0, .ref m0), (1, .int 7), (3, .int (nI p0))], [.int (nI p0), .ref m0, .ref m0], M1)) rfl rfl rfl ?_
          refine pl_call (a := [.ref m0, .int (nI p0)]) (rest := [.ref m0]) rfl rfl rfl (rd_u2 (n := n) (f := f) (p := p0) hR1 hF1 (by omega)) (fun v4 M5 q6 => ?_)
          obtain ⟨rfl, rfl⟩ := q6
          show pl _ _ _ (378, [(0, .ref m0), (1, .int 7), (3, .int (nI p0))], [.int (nI (by2 f p0)), .ref m0], M1) _
          have hu_375 := by2_lt f p0
          refine pr_put (j := 68) rfl hR1 rfl (fun M7 I8 hR9 hi10 hI11 => ?_)
          have hi12 := (hI11 51 (by decide)).trans hl51
          have hi13 := (hI11 52 (by decide)).trans hl52
          have hi14 := (hI11 53 (by decide)).trans hl53
          have hF_15 := hF1.mono (pIx hI11 (by decide)) (fun _ _ => rfl)
          have hY_16 := hY1.mono (pIx hI11 (by decide)) (fun _ _ => rfl)
          have hP_17 := hP1.mono (pIx hI11 (by decide)) (fun _ _ => rfl)
          have hEI18 := hEI1.put hI11 (by decide)
          show pl _ _ _ (381, [(0, .ref m0), (1, .int 7), (3, .int (nI p0))], [], M7) _
          refine ps_st (S' := (382, [(0, .ref m0), (1, .int 7), (3, .int (nI p0))], [.int 7], M7)) rfl rfl rfl ?_
          refine ps_st (S' := (384, [(0, .ref m0), (1, .int 7), (3, .int (nI p0))], [.int 9, .int 7], M7)) rfl rfl rfl ?_
          refine ps_if2 (S1 := (396, [], [], M7)) (S2 := (387, [(0, .ref m0), (1, .int 7), (3, .int (nI p0))], [], M7)) rfl rfl rfl (fun c_384 => ?_) (fun c_384 => ?_)
          rotate_left
          · exact absurd (by decide) (of_decide_eq_false c_384)
          refine ps_st (S' := (397, [], [.int 0], M7)) rfl rfl rfl ?_
          exact ps_ret rfl rfl (Or.inr (Or.inr ⟨I8, R1, hfe, ⟨by rw [← hs, show by2 f p0 - i = 0 by omega]; exact Nat.one_ne_zero, by omega⟩, rfl, hR9, hEI18, hER1, hi10⟩))
        · have c_343 : ¬ (¬ (nI (sb s3 6)) = 1) := of_decide_eq_false c_343
          have n_343 : sb s3 6 = 1 := (eq_nI (p := sb s3 6) (n := 1) (Nat.lt_trans (sb_lt _ _) (by decide)) (by decide)).mp (Decidable.not_not.mp c_343)
          refine ps_st (S' := (348, [(0, .ref m0), (1, .int 7), (3, .int (nI p0)), (5, .int (nI x)), (6, .int (nI s3)), (9, .int (nI i))], [.int 35], M1)) rfl rfl rfl ?_
          exact ps_ret rfl rfl (Or.inr (Or.inl ⟨I1, R1, hfe, Or.inr (by omega), rfl, hR1, hEI1, hER1⟩))
      · have c_275 : ¬ ((nI (by2 f p0)) ≤ (nI i)) := of_decide_eq_false c_275
        have n_275 : ¬ (by2 f p0 ≤ i) := fun h9 => c_275 ((le_nI (p := by2 f p0) (n := i) (Nat.lt_trans (by2_lt _ _) (by decide)) (by omega)).mpr h9)
        refine ps_st (S' := (279, [(0, .ref m0), (1, .int 7), (3, .int (nI p0)), (5, .int (nI x)), (6, .int (nI s3)), (9, .int (nI i))], [.ref m0], M1)) rfl rfl rfl ?_
        refine ps_st (S' := (280, [(0, .ref m0), (1, .int 7), (3, .int (nI p0)), (5, .int (nI x)), (6, .int (nI s3)), (9, .int (nI i))], [.ref m0, .ref m0], M1)) rfl rfl rfl ?_
        refine ps_st (S' := (281, [(0, .ref m0), (1, .int 7), (3, .int (nI p0)), (5, .int (nI x)), (6, .int (nI s3)), (9, .int (nI i))], [.int (nI p0), .ref m0, .ref m0], M1)) rfl rfl rfl ?_
        refine ps_st (S' := (282, [(0, .ref m0), (1, .int 7), (3, .int (nI p0)), (5, .int (nI x)), (6, .int (nI s3)), (9, .int (nI i))], [.int 2, .int (nI p0), .ref m0, .ref m0], M1)) rfl rfl rfl ?_
        refine ps_st (S' := (283, [(0, .ref m0), (1, .int 7), (3, .int (nI p0)), (5, .int (nI x)), (6, .int (nI s3)), (9, .int (nI i))], [.int ((nI p0) + 2), .ref m0, .ref m0], M1)) rfl rfl rfl ?_
        rw [nI_add1 (p := p0) (k := 2) (x := 2) rfl (by omega)]
        show pl _ _ _ (_, [(0, .ref m0), (1, .int 7), (3, .int (nI p0)), (5, .int (nI x)), (6, .int (nI s3)), (9, .int (nI i))], [.int (nI (p0 + 2)), .ref m0, .ref m0], M1) _
        refine ps_st (S' := (284, [(0, .ref m0), (1, .int 7), (3, .int (nI p0)), (5, .int (nI x)), (6, .int (nI s3)), (9, .int (nI i))], [.int 2, .int (nI (p0 + 2)), .ref m0, .ref m0], M1)) rfl rfl rfl ?_
        refine ps_st (S' := (286, [(0, .ref m0), (1, .int 7), (3, .int (nI p0)), (5, .int (nI x)), (6, .int (nI s3)), (9, .int (nI i))], [.int (nI i), .int 2, .int (nI (p0 + 2)), .ref m0, .ref m0], M1)) rfl rfl rfl ?_
        refine ps_st (S' := (287, [(0, .ref m0), (1, .int 7), (3, .int (nI p0)), (5, .int (nI x)), (6, .int (nI s3)), (9, .int (nI i))], [.int (2 * (nI i)), .int (nI (p0 + 2)), .ref m0, .ref m0], M1)) rfl rfl rfl ?_
        rw [nI_mul1 (p := 2) (k := i) (x := 2) (y := (nI i)) rfl rfl (by omega)]
        show pl _ _ _ (_, [(0, .ref m0), (1, .int 7), (3, .int (nI p0)), (5, .int (nI x)), (6, .int (nI s3)), (9, .int (nI i))], [.int (nI (2 * i)), .int (nI (p0 + 2)), .ref m0, .ref m0], M1) _
        refine ps_st (S' := (288, [(0, .ref m0), (1, .int 7), (3, .int (nI p0)), (5, .int (nI x)), (6, .int (nI s3)), (9, .int (nI i))], [.int ((nI (p0 + 2)) + (nI (2 * i))), .ref m0, .ref m0], M1)) rfl rfl rfl ?_
        rw [nI_add1 (p := p0 + 2) (k := 2 * i) (x := (nI (2 * i))) rfl (by omega)]
        show pl _ _ _ (_, [(0, .ref m0), (1, .int 7), (3, .int (nI p0)), (5, .int (nI x)), (6, .int (nI s3)), (9, .int (nI i))], [.int (nI (p0 + 2 + 2 * i)), .ref m0, .ref m0], M1) _
        refine pl_call (a := [.ref m0, .int (nI (p0 + 2 + 2 * i))]) (rest := [.ref m0]) rfl rfl rfl (rd_u2 (n := n) (f := f) (p := (p0 + 2 + 2 * i)) hR1 hF1 (by omega)) (fun v19 M20 q21 => ?_)
        obtain ⟨rfl, rfl⟩ := q21
        show pl _ _ _ (291, [(0, .ref m0), (1, .int 7), (3, .int (nI p0)), (5, .int (nI x)), (6, .int (nI s3)), (9, .int (nI i))], [.int (nI (by2 f (p0 + 2 + 2 * i))), .ref m0], M1) _
        have hu_288 := by2_lt f (p0 + 2 + 2 * i)
        refine pl_call (a := [.ref m0, .int (nI (by2 f (p0 + 2 + 2 * i)))]) (rest := []) rfl rfl rfl (rd_tag (n := n) (f := f) (tx := tx) (cN := cN) (A := A) (N := N) (mj := mj) (E := E) (k := (by2 f (p0 + 2 + 2 * i))) hR1 hl51 hl52 hl53 hF1 hY1 hP1 (hEP) (hN) (hmj) (by2_lt _ _)) (fun v22 M23 q24 => ?_)
        obtain ⟨rfl, rfl⟩ := q24
        show pl _ _ _ (294, [(0, .ref m0), (1, .int 7), (3, .int (nI p0)), (5, .int (nI x)), (6, .int (nI s3)), (9, .int (nI i))], [.int (nI (tg f E (by2 f (p0 + 2 + 2 * i))))], M1) _
        have htg_291 := tg_lt f E (by2 f (p0 + 2 + 2 * i))
        refine ps_st (S' := (296, [(0, .ref m0), (1, .int 7), (3, .int (nI p0)), (5, .int (nI x)), (6, .int (nI s3)), (9, .int (nI i))], [.int 7, .int (nI (tg f E (by2 f (p0 + 2 + 2 * i))))], M1)) rfl rfl rfl ?_
        refine ps_if2 (S1 := (323, [(0, .ref m0), (1, .int 7), (3, .int (nI p0)), (5, .int (nI x)), (6, .int (nI s3)), (9, .int (nI i))], [], M1)) (S2 := (299, [(0, .ref m0), (1, .int 7), (3, .int (nI p0)), (5, .int (nI x)), (6, .int (nI s3)), (9, .int (nI i))], [], M1)) rfl rfl rfl (fun c_296 => ?_) (fun c_296 => ?_)
        · have c_296 : (nI (tg f E (by2 f (p0 + 2 + 2 * i)))) = 7 := of_decide_eq_true c_296
          have n_296 : tg f E (by2 f (p0 + 2 + 2 * i)) = 7 := (eq_nI (p := tg f E (by2 f (p0 + 2 + 2 * i))) (n := 7) (Nat.lt_trans (tg_lt _ _ _) (by decide)) (by decide)).mp c_296
          refine ps_st (S' := (326, [(9, .int ((nI i) + 1)), (0, .ref m0), (1, .int 7), (3, .int (nI p0)), (5, .int (nI x)), (6, .int (nI s3))], [], M1)) rfl rfl rfl ?_
          rw [nI_add1 (p := i) (k := 1) (x := 1) rfl (by omega)]
          show pl _ _ _ (_, [(9, .int (nI (i + 1))), (0, .ref m0), (1, .int 7), (3, .int (nI p0)), (5, .int (nI x)), (6, .int (nI s3))], [], M1) _
          refine ps_st (S' := (268, [(0, .ref m0), (1, .int 7), (3, .int (nI p0)), (5, .int (nI x)), (6, .int (nI s3)), (9, .int (nI (i + 1)))], [], M1)) rfl rfl rfl ?_
          exact ih (i + 1) M1 I1 R1 hR1 hEI1 hER1 hl51 hl52 hl53 hF1 hY1 hP1 (hfe) (by omega) (hle) (by
              rw [← hs, clA_st (i := i) (by omega), if_pos (by omega)])
        · have c_296 : ¬ ((nI (tg f E (by2 f (p0 + 2 + 2 * i)))) = 7) := of_decide_eq_false c_296
          have n_296 : ¬ (tg f E (by2 f (p0 + 2 + 2 * i)) = 7) := fun h9 => c_296 ((eq_nI (p := tg f E (by2 f (p0 + 2 + 2 * i))) (n := 7) (Nat.lt_trans (tg_lt _ _ _) (by decide)) (by decide)).mpr h9)
          refine ps_st (S' := (300, [(0, .ref m0), (1, .int 7), (3, .int (nI p0)), (5, .int (nI x)), (6, .int (nI s3)), (9, .int (nI i))], [.int 7], M1)) rfl rfl rfl ?_
          refine ps_st (S' := (301, [(0, .ref m0), (1, .int 7), (3, .int (nI p0)), (5, .int (nI x)), (6, .int (nI s3)), (9, .int (nI i))], [.int 2, .int 7], M1)) rfl rfl rfl ?_
          refine ps_if2 (S1 := (309, [(0, .ref m0), (1, .int 7), (3, .int (nI p0)), (5, .int (nI x)), (6, .int (nI s3)), (9, .int (nI i))], [], M1)) (S2 := (304, [(0, .ref m0), (1, .int 7), (3, .int (nI p0)), (5, .int (nI x)), (6, .int (nI s3)), (9, .int (nI i))], [], M1)) rfl rfl rfl (fun c_301 => ?_) (fun c_301 => ?_)
          rotate_left
          · exact absurd (by decide) (of_decide_eq_false c_301)
          refine ps_st (S' := (310, [(0, .ref m0), (1, .int 7), (3, .int (nI p0)), (5, .int (nI x)), (6, .int (nI s3)), (9, .int (nI i))], [.int 7], M1)) rfl rfl rfl ?_
          refine ps_st (S' := (312, [(0, .ref m0), (1, .int 7), (3, .int (nI p0)), (5, .int (nI x)), (6, .int (nI s3)), (9, .int (nI i))], [.int 7, .int 7], M1)) rfl rfl rfl ?_
          refine ps_if2 (S1 := (320, [(0, .ref m0), (1, .int 7), (3, .int (nI p0)), (5, .int (nI x)), (6, .int (nI s3)), (9, .int (nI i))], [], M1)) (S2 := (315, [(0, .ref m0), (1, .int 7), (3, .int (nI p0)), (5, .int (nI x)), (6, .int (nI s3)), (9, .int (nI i))], [], M1)) rfl rfl rfl (fun c_312 => ?_) (fun c_312 => ?_)
          · exact absurd (of_decide_eq_true c_312) (by decide)
          refine ps_st (S' := (317, [(0, .ref m0), (1, .int 7), (3, .int (nI p0)), (5, .int (nI x)), (6, .int (nI s3)), (9, .int (nI i))], [.int 35], M1)) rfl rfl rfl ?_
          refine ps_st (S' := (322, [], [.int 35], M1)) rfl rfl rfl ?_
          exact ps_ret rfl rfl (Or.inr (Or.inl ⟨I1, R1, hfe, Or.inl (by rw [← hs, clA_st (i := i) (by omega), if_neg (by omega)]), rfl, hR1, hEI1, hER1⟩))
  refine ps_st (S' := (1, [(0, .ref m0), (1, .int 7), (2, .int t), (3, .int (nI p0)), (4, .int (nI e)), (5, .int (nI x)), (6, .int (nI s3))], [.int 7], M)) rfl rfl rfl ?_
  refine ps_st (S' := (219, [(0, .ref m0), (1, .int 7), (2, .int t), (3, .int (nI p0)), (4, .int (nI e)), (5, .int (nI x)), (6, .int (nI s3))], [], M)) rfl rfl rfl ?_
  refine ps_st (S' := (221, [(0, .ref m0), (1, .int 7), (2, .int t), (3, .int (nI p0)), (4, .int (nI e)), (5, .int (nI x)), (6, .int (nI s3))], [.int (nI e)], M)) rfl rfl rfl ?_
  refine ps_st (S' := (222, [(0, .ref m0), (1, .int 7), (2, .int t), (3, .int (nI p0)), (4, .int (nI e)), (5, .int (nI x)), (6, .int (nI s3))], [.int (nI p0), .int (nI e)], M)) rfl rfl rfl ?_
  refine ps_st (S' := (223, [(0, .ref m0), (1, .int 7), (2, .int t), (3, .int (nI p0)), (4, .int (nI e)), (5, .int (nI x)), (6, .int (nI s3))], [.int ((nI e) - (nI p0))], M)) rfl rfl rfl ?_
  rw [nI_sub1 (p := e) (k := p0) (x := (nI p0)) rfl (by omega) (by omega)]
  show pl _ _ _ (_, [(0, .ref m0), (1, .int 7), (2, .int t), (3, .int (nI p0)), (4, .int (nI e)), (5, .int (nI x)), (6, .int (nI s3))], [.int (nI (e - p0))], M) _
  refine ps_st (S' := (224, [(0, .ref m0), (1, .int 7), (2, .int t), (3, .int (nI p0)), (4, .int (nI e)), (5, .int (nI x)), (6, .int (nI s3))], [.int 2, .int (nI (e - p0))], M)) rfl rfl rfl ?_
  refine ps_if2 (S1 := (243, [], [], M)) (S2 := (227, [(0, .ref m0), (1, .int 7), (2, .int t), (3, .int (nI p0)), (4, .int (nI e)), (5, .int (nI x)), (6, .int (nI s3))], [], M)) rfl rfl rfl (fun c_224 => ?_) (fun c_224 => ?_)
  · have c_224 : (nI (e - p0)) < 2 := of_decide_eq_true c_224
    have n_224 : e - p0 < 2 := (lt_nI (p := e - p0) (n := 2) (by omega) (by decide)).mp c_224
    refine ps_st (S' := (245, [], [.int 30], M)) rfl rfl rfl ?_
    exact ps_ret rfl rfl (Or.inl ⟨I, R, fe_2 (by omega), rfl, hR, hEI, hER⟩)
  · have c_224 : ¬ ((nI (e - p0)) < 2) := of_decide_eq_false c_224
    have n_224 : ¬ (e - p0 < 2) := fun h9 => c_224 ((lt_nI (p := e - p0) (n := 2) (by omega) (by decide)).mpr h9)
    refine ps_st (S' := (229, [(0, .ref m0), (1, .int 7), (2, .int t), (3, .int (nI p0)), (4, .int (nI e)), (5, .int (nI x)), (6, .int (nI s3))], [.int (nI e)], M)) rfl rfl rfl ?_
    refine ps_st (S' := (230, [(0, .ref m0), (1, .int 7), (2, .int t), (3, .int (nI p0)), (4, .int (nI e)), (5, .int (nI x)), (6, .int (nI s3))], [.int (nI p0), .int (nI e)], M)) rfl rfl rfl ?_
    refine ps_st (S' := (231, [(0, .ref m0), (1, .int 7), (2, .int t), (3, .int (nI p0)), (4, .int (nI e)), (5, .int (nI x)), (6, .int (nI s3))], [.int ((nI e) - (nI p0))], M)) rfl rfl rfl ?_
    rw [nI_sub1 (p := e) (k := p0) (x := (nI p0)) rfl (by omega) (by omega)]
    show pl _ _ _ (_, [(0, .ref m0), (1, .int 7), (2, .int t), (3, .int (nI p0)), (4, .int (nI e)), (5, .int (nI x)), (6, .int (nI s3))], [.int (nI (e - p0))], M) _
    refine ps_st (S' := (232, [(0, .ref m0), (1, .int 7), (2, .int t), (3, .int (nI p0)), (4, .int (nI e)), (5, .int (nI x)), (6, .int (nI s3))], [.int 2, .int (nI (e - p0))], M)) rfl rfl rfl ?_
    refine ps_st (S' := (233, [(0, .ref m0), (1, .int 7), (2, .int t), (3, .int (nI p0)), (4, .int (nI e)), (5, .int (nI x)), (6, .int (nI s3))], [.int 2, .int 2, .int (nI (e - p0))], M)) rfl rfl rfl ?_
    refine ps_st (S' := (234, [(0, .ref m0), (1, .int 7), (2, .int t), (3, .int (nI p0)), (4, .int (nI e)), (5, .int (nI x)), (6, .int (nI s3))], [.ref m0, .int 2, .int 2, .int (nI (e - p0))], M)) rfl rfl rfl ?_
    refine ps_st (S' := (235, [(0, .ref m0), (1, .int 7), (2, .int t), (3, .int (nI p0)), (4, .int (nI e)), (5, .int (nI x)), (6, .int (nI s3))], [.int (nI p0), .ref m0, .int 2, .int 2, .int (nI (e - p0))], M)) rfl rfl rfl ?_
    refine pl_call (a := [.ref m0, .int (nI p0)]) (rest := [.int 2, .int 2, .int (nI (e - p0))]) rfl rfl rfl (rd_u2 (n := n) (f := f) (p := p0) hR hF (by omega)) (fun v25 M26 q27 => ?_)
    obtain ⟨rfl, rfl⟩ := q27
    show pl _ _ _ (238, [(0, .ref m0), (1, .int 7), (2, .int t), (3, .int (nI p0)), (4, .int (nI e)), (5, .int (nI x)), (6, .int (nI s3))], [.int (nI (by2 f p0)), .int 2, .int 2, .int (nI (e - p0))], M) _
    have hu_235 := by2_lt f p0
    refine ps_st (S' := (239, [(0, .ref m0), (1, .int 7), (2, .int t), (3, .int (nI p0)), (4, .int (nI e)), (5, .int (nI x)), (6, .int (nI s3))], [.int (2 * (nI (by2 f p0))), .int 2, .int (nI (e - p0))], M)) rfl rfl rfl ?_
    rw [nI_mul1 (p := 2) (k := by2 f p0) (x := 2) (y := (nI (by2 f p0))) rfl rfl (by omega)]
    show pl _ _ _ (_, [(0, .ref m0), (1, .int 7), (2, .int t), (3, .int (nI p0)), (4, .int (nI e)), (5, .int (nI x)), (6, .int (nI s3))], [.int (nI (2 * (by2 f p0))), .int 2, .int (nI (e - p0))], M) _
    refine ps_st (S' := (240, [(0, .ref m0), (1, .int 7), (2, .int t), (3, .int (nI p0)), (4, .int (nI e)), (5, .int (nI x)), (6, .int (nI s3))], [.int (2 + (nI (2 * (by2 f p0)))), .int (nI (e - p0))], M)) rfl rfl rfl ?_
    rw [nI_add2 (p := 2) (k := 2 * (by2 f p0)) (x := 2) (y := (nI (2 * (by2 f p0)))) rfl rfl (by omega)]
    show pl _ _ _ (_, [(0, .ref m0), (1, .int 7), (2, .int t), (3, .int (nI p0)), (4, .int (nI e)), (5, .int (nI x)), (6, .int (nI s3))], [.int (nI (2 + 2 * (by2 f p0))), .int (nI (e - p0))], M) _
    refine ps_if2 (S1 := (246, [(0, .ref m0), (1, .int 7), (2, .int t), (3, .int (nI p0)), (4, .int (nI e)), (5, .int (nI x)), (6, .int (nI s3))], [], M)) (S2 := (243, [], [], M)) rfl rfl rfl (fun c_240 => ?_) (fun c_240 => ?_)
    · have c_240 : (nI (e - p0)) = (nI (2 + 2 * (by2 f p0))) := of_decide_eq_true c_240
      have n_240 : e - p0 = 2 + 2 * (by2 f p0) := (eq_nI (p := e - p0) (n := 2 + 2 * (by2 f p0)) (by omega) (by omega)).mp c_240
      refine ps_st (S' := (247, [(0, .ref m0), (1, .int 7), (2, .int t), (3, .int (nI p0)), (4, .int (nI e)), (5, .int (nI x)), (6, .int (nI s3))], [.int 7], M)) rfl rfl rfl ?_
      refine ps_st (S' := (249, [(0, .ref m0), (1, .int 7), (2, .int t), (3, .int (nI p0)), (4, .int (nI e)), (5, .int (nI x)), (6, .int (nI s3))], [.int 9, .int 7], M)) rfl rfl rfl ?_
      refine ps_if2 (S1 := (265, [(0, .ref m0), (1, .int 7), (3, .int (nI p0)), (5, .int (nI x)), (6, .int (nI s3))], [], M)) (S2 := (252, [(0, .ref m0), (1, .int 7), (2, .int t), (3, .int (nI p0)), (4, .int (nI e)), (5, .int (nI x)), (6, .int (nI s3))], [], M)) rfl rfl rfl (fun c_249 => ?_) (fun c_249 => ?_)
      rotate_left
      · exact absurd (by decide) (of_decide_eq_false c_249)
      refine ps_st (S' := (266, [(0, .ref m0), (1, .int 7), (3, .int (nI p0)), (5, .int (nI x)), (6, .int (nI s3))], [.int 0], M)) rfl rfl rfl ?_
      refine ps_st (S' := (268, [(0, .ref m0), (1, .int 7), (3, .int (nI p0)), (5, .int (nI x)), (6, .int (nI s3)), (9, .int 0)], [], M)) rfl rfl rfl ?_
      exact (LL kf) (0) M I R hR hEI hER hi51 hi52 hi53 hF hY hP ((fe_c (by decide) (by omega)).trans (congrArg some (by omega))) (by omega) (by omega) (rfl)
    · have c_240 : ¬ ((nI (e - p0)) = (nI (2 + 2 * (by2 f p0)))) := of_decide_eq_false c_240
      have n_240 : ¬ (e - p0 = 2 + 2 * (by2 f p0)) := fun h9 => c_240 ((eq_nI (p := e - p0) (n := 2 + 2 * (by2 f p0)) (by omega) (by omega)).mpr h9)
      refine ps_st (S' := (245, [], [.int 30], M)) rfl rfl rfl ?_
      exact ps_ret rfl rfl (Or.inl ⟨I, R, (fun h9 => (by have h8 := Option.some.inj ((fe_c (by decide) (by omega)).symm.trans h9); omega)), rfl, hR, hEI, hER⟩)
set_option maxHeartbeats 4000000 in
theorem rd_attr9 {g : xe_G} {m0 : Nat} {q : Nat → Nat} {z : Nat × Nat} {I : rI} {R : rR} {M : mi_H} {n : Nat} {f : Nat → Int32} {tx : List (List Nat)} {cN : Nat} {A : Nat → Nat} {N mj : Nat} {E : List (Nat × Nat)} {p0 e x s3 : Nat} {t : Int32} {fl : Nat} (hR : RS g m0 q z I R M) (hi51 : I 51 = some 0) (hi52 : I 52 = some (nI N)) (hi53 : I 53 = some (nI mj)) (hi58 : I 58 = some (nI fl)) (hF : FK n f I R) (hY : SYT tx cN A I R) (hP : RPV f n E tx N I R) (hEP : EP f n E) (hN : N < 65536) (hmj : mj < 65536) (he : p0 ≤ e ∧ e ≤ n) (hs3 : s3 < 2048) (hf6 : fl < 65536) : pt (mT g) 177 [.ref m0, .int 9, .int t, .int (nI p0), .int (nI e), .int (nI x), .int (nI s3)] M (fun v M' => (∃  (I' : rI) (R' : rR), (¬ s_fe f 10 p0 e = some e) ∧ v = some (.int 30) ∧ RS g m0 q z I' R' M' ∧ eqI [69] I I' ∧ eqR [] R R') ∨ (∃  (I' : rI) (R' : rR), (s_fe f 10 p0 e = some e) ∧ (clA f E (p0 + 2) (by2 f p0) 0 = 0 ∨ ¬ aN fl 16 = 0) ∧ v = some (.int 36) ∧ RS g m0 q z I' R' M' ∧ eqI [69] I I' ∧ eqR [] R R') ∨ (∃  (I' : rI) (R' : rR), (s_fe f 10 p0 e = some e) ∧ (¬ clA f E (p0 + 2) (by2 f p0) 0 = 0 ∧ aN fl 16 = 0) ∧ v = some (.int 0) ∧ RS g m0 q z I' R' M' ∧ eqI [69] I I' ∧ eqR [] R R' ∧ I' 69 = some (nI (by2 f p0)))) := by
  refine pt_in (b := mb_177 g) rfl (fun kf => ?_)
  show pl (mT g) kf (mb_177 g).2 (0, [(0, .ref m0), (1, .int 9), (2, .int t), (3, .int (nI p0)), (4, .int (nI e)), (5, .int (nI x)), (6, .int (nI s3))], [], M) _
  have hEI : eqI [69] I I := eqI.rf
  have hER : eqR [] R R := eqR.rf
  have hn := hF.1
  have LL : ∀ (kf : Nat), (∀ (i : Nat) (M1 : mi_H) (I1 : rI) (R1 : rR), (RS g m0 q z I1 R1 M1) → (eqI [69] I I1) → (eqR [] R R1) → (I1 51 = some 0) → (I1 52 = some (nI N)) → (I1 53 = some (nI mj)) → (I1 58 = some (nI fl)) → (FK n f I1 R1) → (SYT tx cN A I1 R1) → (RPV f n E tx N I1 R1) → (s_fe f 10 p0 e = some e) → (i ≤ by2 f p0) → (p0 + 2 + 2 * by2 f p0 = e) → (clA f E (p0 + 2) (by2 f p0 - i) i = clA f E (p0 + 2) (by2 f p0) 0) → (aN fl 16 = 0) →  pl (mT g) kf (mb_177 g).2 (268, [(0, .ref m0), (1, .int 9), (3, .int (nI p0)), (5, .int (nI x)), (6, .int (nI s3)), (9, .int (nI i))], [], M1) (fun v M' => (∃  (I' : rI) (R' : rR), (¬ s_fe f 10 p0 e = some e) ∧ v = some (.int 30) ∧ RS g m0 q z I' R' M' ∧ eqI [69] I I' ∧ eqR [] R R') ∨ (∃  (I' : rI) (R' : rR), (s_fe f 10 p0 e = some e) ∧ (clA f E (p0 + 2) (by2 f p0) 0 = 0 ∨ ¬ aN fl 16 = 0) ∧ v = some (.int 36) ∧ RS g m0 q z I' R' M' ∧ eqI [69] I I' ∧ eqR [] R R') ∨ (∃  (I' : rI) (R' : rR), (s_fe f 10 p0 e = some e) ∧ (¬ clA f E (p0 + 2) (by2 f p0) 0 = 0 ∧ aN fl 16 = 0) ∧ v = some (.int 0) ∧ RS g m0 q z I' R' M' ∧ eqI [69] I I' ∧ eqR [] R R' ∧ I' 69 = some (nI (by2 f p0))))) := by
    intro kf
    induction kf with
    | zero => exact (by intros; exact pl_0)
    | succ kf ih =>
      intro i M1 I1 R1 hR1 hEI1 hER1 hl51 hl52 hl53 hl58 hF1 hY1 hP1 hfe hi hle hs h16
      have hn := hF1.1
      have hu9 := by2_lt f p0
      have hs6 := sb_lt s3 6
      have hs7 := sb_lt s3 7
      refine ps_st1 (S' := (270, [(0, .ref m0), (1, .int 9), (3, .int (nI p0)), (5, .int (nI x)), (6, .int (nI s3)), (9, .int (nI i))], [.int (nI i)], M1)) rfl rfl rfl ?_
      refine ps_st (S' := (271, [(0, .ref m0), (1, .int 9), (3, .int (nI p0)), (5, .int (nI x)), (6, .int (nI s3)), (9, .int (nI i))], [.ref m0, .int (nI i)], M1)) rfl rfl rfl ?_
      refine ps_st (S' := (272, [(0, .ref m0), (1, .int 9), (3, .int (nI p0)), (5, .int (nI x)), (6, .int (nI s3)), (9, .int (nI i))], [.int (nI p0), .ref m0, .int (nI i)], M1)) rfl rfl rfl ?_
      refine pl_call (a := [.ref m0, .int (nI p0)]) (rest := [.int (nI i)]) rfl rfl rfl (rd_u2 (n := n) (f := f) (p := p0) hR1 hF1 (by omega)) (fun v1 M2 q3 => ?_)
      obtain ⟨rfl, rfl⟩ := q3
      show pl _ _ _ (275, [(0, .ref m0), (1, .int 9), (3, .int (nI p0)), (5, .int (nI x)), (6, .int (nI s3)), (9, .int (nI i))], [.int (nI (by2 f p0)), .int (nI i)], M1) _
      have hu_272 := by2_lt f p0
      refine ps_if2 (S1 := (329, [(0, .ref m0), (1, .int 9), (3, .int (nI p0)), (5, .int (nI x)), (6, .int (nI s3)), (9, .int (nI i))], [], M1)) (S2 := (278, [(0, .ref m0), (1, .int 9), (3, .int (nI p0)), (5, .int (nI x)), (6, .int (nI s3)), (9, .int (nI i))], [], M1)) rfl rfl rfl (fun c_275 => ?_) (fun c_275 => ?_)
      · have c_275 : (nI (by2 f p0)) ≤ (nI i) := of_decide_eq_true c_275
        have n_275 : by2 f p0 ≤ i := (le_nI (p := by2 f p0) (n := i) (Nat.lt_trans (by2_lt _ _) (by decide)) (by omega)).mp c_275
        refine ps_st (S' := (330, [(0, .ref m0), (1, .int 9), (3, .int (nI p0)), (5, .int (nI x)), (6, .int (nI s3)), (9, .int (nI i))], [.int 9], M1)) rfl rfl rfl ?_
        refine ps_st (S' := (332, [(0, .ref m0), (1, .int 9), (3, .int (nI p0)), (5, .int (nI x)), (6, .int (nI s3)), (9, .int (nI i))], [.int 7, .int 9], M1)) rfl rfl rfl ?_
        refine ps_if2 (S1 := (349, [(0, .ref m0), (1, .int 9), (3, .int (nI p0)), (5, .int (nI x))], [], M1)) (S2 := (335, [(0, .ref m0), (1, .int 9), (3, .int (nI p0)), (5, .int (nI x)), (6, .int (nI s3)), (9, .int (nI i))], [], M1)) rfl rfl rfl (fun c_332 => ?_) (fun c_332 => ?_)
        rotate_left
        · exact absurd (by decide) (of_decide_eq_false c_332)
        refine ps_st (S' := (350, [(0, .ref m0), (1, .int 9), (3, .int (nI p0)), (5, .int (nI x))], [.int 9], M1)) rfl rfl rfl ?_
        refine ps_st (S' := (351, [(0, .ref m0), (1, .int 9), (3, .int (nI p0)), (5, .int (nI x))], [.int 2, .int 9], M1)) rfl rfl rfl ?_
        refine ps_if2 (S1 := (366, [(0, .ref m0), (1, .int 9), (3, .int (nI p0))], [], M1)) (S2 := (354, [(0, .ref m0), (1, .int 9), (3, .int (nI p0)), (5, .int (nI x))], [], M1)) rfl rfl rfl (fun c_351 => ?_) (fun c_351 => ?_)
        rotate_left
        · exact absurd (by decide) (of_decide_eq_false c_351)
        refine ps_st (S' := (367, [(0, .ref m0), (1, .int 9), (3, .int (nI p0))], [.int 9], M1)) rfl rfl rfl ?_
        refine ps_st (S' := (369, [(0, .ref m0), (1, .int 9), (3, .int (nI p0))], [.int 7, .int 9], M1)) rfl rfl rfl ?_
        refine ps_if2 (S1 := (381, [(0, .ref m0), (1, .int 9), (3, .int (nI p0))], [], M1)) (S2 := (372, [(0, .ref m0), (1, .int 9), (3, .int (nI p0))], [], M1)) rfl rfl rfl (fun c_369 => ?_) (fun c_369 => ?_)
        rotate_left
        · exact absurd (by decide) (of_decide_eq_false c_369)
        refine ps_st (S' := (382, [(0, .ref m0), (1, .int 9), (3, .int (nI p0))], [.int 9], M1)) rfl rfl rfl ?_
        refine ps_st (S' := (384, [(0, .ref m0), (1, .int 9), (3, .int (nI p0))], [.int 9, .int 9], M1)) rfl rfl rfl ?_
        refine ps_if2 (S1 := (396, [], [], M1)) (S2 := (387, [(0, .ref m0), (1, .int 9), (3, .int (nI p0))], [], M1)) rfl rfl rfl (fun c_384 => ?_) (fun c_384 => ?_)
        · exact absurd (of_decide_eq_true c_384) (by decide)
        refine ps_st (S' := (388, [(0, .ref m0), (1, .int 9), (3, .int (nI p0))], [.ref m0], M1)) rfl rfl rfl ?_
        refine ps_st (S' := (389, [(0, .ref m0), (1, .int 9), (3, .int (nI p0))], [.ref m0, .ref m0], M1)) rfl rfl rfl ?_
        refine ps_st (S' := (390, [(0, .ref m0), (1, .int 9), (3, .int (nI p0))], [.int (nI p0), .ref m0, .ref m0], M1)) rfl rfl rfl ?_
        refine pl_call (a := [.ref m0, .int (nI p0)]) (rest := [.ref m0]) rfl rfl rfl (rd_u2 (n := n) (f := f) (p := p0) hR1 hF1 (by omega)) (fun v4 M5 q6 => ?_)
        obtain ⟨rfl, rfl⟩ := q6
        show pl _ _ _ (393, [(0, .ref m0), (1, .int 9), (3, .int (nI p0))], [.int (nI (by2 f p0)), .ref m0], M1) _
        have hu_390 := by2_lt f p0
        refine pr_put (j := 69) rfl hR1 rfl (fun M7 I8 hR9 hi10 hI11 => ?_)
        have hi12 := (hI11 51 (by decide)).trans hl51
        have hi13 := (hI11 52 (by decide)).trans hl52
        have hi14 := (hI11 53 (by decide)).trans hl53
        have hi15 := (hI11 58 (by decide)).trans hl58
        have hF_16 := hF1.mono (pIx hI11 (by decide)) (fun _ _ => rfl)
        have hY_17 := hY1.mono (pIx hI11 (by decide)) (fun _ _ => rfl)
        have hP_18 := hP1.mono (pIx hI11 (by decide)) (fun _ _ => rfl)
        have hEI19 := hEI1.put hI11 (by decide)
        show pl _ _ _ (396, [], [], M7) _
        refine ps_st (S' := (397, [], [.int 0], M7)) rfl rfl rfl ?_
        exact ps_ret rfl rfl (Or.inr (Or.inr ⟨I8, R1, hfe, ⟨by rw [← hs, show by2 f p0 - i = 0 by omega]; exact Nat.one_ne_zero, h16⟩, rfl, hR9, hEI19, hER1, hi10⟩))
      · have c_275 : ¬ ((nI (by2 f p0)) ≤ (nI i)) := of_decide_eq_false c_275
        have n_275 : ¬ (by2 f p0 ≤ i) := fun h9 => c_275 ((le_nI (p := by2 f p0) (n := i) (Nat.lt_trans (by2_lt _ _) (by decide)) (by omega)).mpr h9)
        refine ps_st (S' := (279, [(0, .ref m0), (1, .int 9), (3, .int (nI p0)), (5, .int (nI x)), (6, .int (nI s3)), (9, .int (nI i))], [.ref m0], M1)) rfl rfl rfl ?_
        refine ps_st (S' := (280, [(0, .ref m0), (1, .int 9), (3, .int (nI p0)), (5, .int (nI x)), (6, .int (nI s3)), (9, .int (nI i))], [.ref m0, .ref m0], M1)) rfl rfl rfl ?_
        refine ps_st (S' := (281, [(0, .ref m0), (1, .int 9), (3, .int (nI p0)), (5, .int (nI x)), (6, .int (nI s3)), (9, .int (nI i))], [.int (nI p0), .ref m0, .ref m0], M1)) rfl rfl rfl ?_
        refine ps_st (S' := (282, [(0, .ref m0), (1, .int 9), (3, .int (nI p0)), (5, .int (nI x)), (6, .int (nI s3)), (9, .int (nI i))], [.int 2, .int (nI p0), .ref m0, .ref m0], M1)) rfl rfl rfl ?_
        refine ps_st (S' := (283, [(0, .ref m0), (1, .int 9), (3, .int (nI p0)), (5, .int (nI x)), (6, .int (nI s3)), (9, .int (nI i))], [.int ((nI p0) + 2), .ref m0, .ref m0], M1)) rfl rfl rfl ?_
        rw [nI_add1 (p := p0) (k := 2) (x := 2) rfl (by omega)]
        show pl _ _ _ (_, [(0, .ref m0), (1, .int 9), (3, .int (nI p0)), (5, .int (nI x)), (6, .int (nI s3)), (9, .int (nI i))], [.int (nI (p0 + 2)), .ref m0, .ref m0], M1) _
        refine ps_st (S' := (284, [(0, .ref m0), (1, .int 9), (3, .int (nI p0)), (5, .int (nI x)), (6, .int (nI s3)), (9, .int (nI i))], [.int 2, .int (nI (p0 + 2)), .ref m0, .ref m0], M1)) rfl rfl rfl ?_
        refine ps_st (S' := (286, [(0, .ref m0), (1, .int 9), (3, .int (nI p0)), (5, .int (nI x)), (6, .int (nI s3)), (9, .int (nI i))], [.int (nI i), .int 2, .int (nI (p0 + 2)), .ref m0, .ref m0], M1)) rfl rfl rfl ?_
        refine ps_st (S' := (287, [(0, .ref m0), (1, .int 9), (3, .int (nI p0)), (5, .int (nI x)), (6, .int (nI s3)), (9, .int (nI i))], [.int (2 * (nI i)), .int (nI (p0 + 2)), .ref m0, .ref m0], M1)) rfl rfl rfl ?_
        rw [nI_mul1 (p := 2) (k := i) (x := 2) (y := (nI i)) rfl rfl (by omega)]
        show pl _ _ _ (_, [(0, .ref m0), (1, .int 9), (3, .int (nI p0)), (5, .int (nI x)), (6, .int (nI s3)), (9, .int (nI i))], [.int (nI (2 * i)), .int (nI (p0 + 2)), .ref m0, .ref m0], M1) _
        refine ps_st (S' := (288, [(0, .ref m0), (1, .int 9), (3, .int (nI p0)), (5, .int (nI x)), (6, .int (nI s3)), (9, .int (nI i))], [.int ((nI (p0 + 2)) + (nI (2 * i))), .ref m0, .ref m0], M1)) rfl rfl rfl ?_
        rw [nI_add1 (p := p0 + 2) (k := 2 * i) (x := (nI (2 * i))) rfl (by omega)]
        show pl _ _ _ (_, [(0, .ref m0), (1, .int 9), (3, .int (nI p0)), (5, .int (nI x)), (6, .int (nI s3)), (9, .int (nI i))], [.int (nI (p0 + 2 + 2 * i)), .ref m0, .ref m0], M1) _
        refine pl_call (a := [.ref m0, .int (nI (p0 + 2 + 2 * i))]) (rest := [.ref m0]) rfl rfl rfl (rd_u2 (n := n) (f := f) (p := (p0 + 2 + 2 * i)) hR1 hF1 (by omega)) (fun v20 M21 q22 => ?_)
        obtain ⟨rfl, rfl⟩ := q22
        show pl _ _ _ (291, [(0, .ref m0), (1, .int 9), (3, .int (nI p0)), (5, .int (nI x)), (6, .int (nI s3)), (9, .int (nI i))], [.int (nI (by2 f (p0 + 2 + 2 * i))), .ref m0], M1) _
        have hu_288 := by2_lt f (p0 + 2 + 2 * i)
        refine pl_call (a := [.ref m0, .int (nI (by2 f (p0 + 2 + 2 * i)))]) (rest := []) rfl rfl rfl (rd_tag (n := n) (f := f) (tx := tx) (cN := cN) (A := A) (N := N) (mj := mj) (E := E) (k := (by2 f (p0 + 2 + 2 * i))) hR1 hl51 hl52 hl53 hF1 hY1 hP1 (hEP) (hN) (hmj) (by2_lt _ _)) (fun v23 M24 q25 => ?_)
        obtain ⟨rfl, rfl⟩ := q25
        show pl _ _ _ (294, [(0, .ref m0), (1, .int 9), (3, .int (nI p0)), (5, .int (nI x)), (6, .int (nI s3)), (9, .int (nI i))], [.int (nI (tg f E (by2 f (p0 + 2 + 2 * i))))], M1) _
        have htg_291 := tg_lt f E (by2 f (p0 + 2 + 2 * i))
        refine ps_st (S' := (296, [(0, .ref m0), (1, .int 9), (3, .int (nI p0)), (5, .int (nI x)), (6, .int (nI s3)), (9, .int (nI i))], [.int 7, .int (nI (tg f E (by2 f (p0 + 2 + 2 * i))))], M1)) rfl rfl rfl ?_
        refine ps_if2 (S1 := (323, [(0, .ref m0), (1, .int 9), (3, .int (nI p0)), (5, .int (nI x)), (6, .int (nI s3)), (9, .int (nI i))], [], M1)) (S2 := (299, [(0, .ref m0), (1, .int 9), (3, .int (nI p0)), (5, .int (nI x)), (6, .int (nI s3)), (9, .int (nI i))], [], M1)) rfl rfl rfl (fun c_296 => ?_) (fun c_296 => ?_)
        · have c_296 : (nI (tg f E (by2 f (p0 + 2 + 2 * i)))) = 7 := of_decide_eq_true c_296
          have n_296 : tg f E (by2 f (p0 + 2 + 2 * i)) = 7 := (eq_nI (p := tg f E (by2 f (p0 + 2 + 2 * i))) (n := 7) (Nat.lt_trans (tg_lt _ _ _) (by decide)) (by decide)).mp c_296
          refine ps_st (S' := (326, [(9, .int ((nI i) + 1)), (0, .ref m0), (1, .int 9), (3, .int (nI p0)), (5, .int (nI x)), (6, .int (nI s3))], [], M1)) rfl rfl rfl ?_
          rw [nI_add1 (p := i) (k := 1) (x := 1) rfl (by omega)]
          show pl _ _ _ (_, [(9, .int (nI (i + 1))), (0, .ref m0), (1, .int 9), (3, .int (nI p0)), (5, .int (nI x)), (6, .int (nI s3))], [], M1) _
          refine ps_st (S' := (268, [(0, .ref m0), (1, .int 9), (3, .int (nI p0)), (5, .int (nI x)), (6, .int (nI s3)), (9, .int (nI (i + 1)))], [], M1)) rfl rfl rfl ?_
          exact ih (i + 1) M1 I1 R1 hR1 hEI1 hER1 hl51 hl52 hl53 hl58 hF1 hY1 hP1 (hfe) (by omega) (hle) (by
              rw [← hs, clA_st (i := i) (by omega), if_pos (by omega)]) (h16)
        · have c_296 : ¬ ((nI (tg f E (by2 f (p0 + 2 + 2 * i)))) = 7) := of_decide_eq_false c_296
          have n_296 : ¬ (tg f E (by2 f (p0 + 2 + 2 * i)) = 7) := fun h9 => c_296 ((eq_nI (p := tg f E (by2 f (p0 + 2 + 2 * i))) (n := 7) (Nat.lt_trans (tg_lt _ _ _) (by decide)) (by decide)).mpr h9)
          refine ps_st (S' := (300, [(0, .ref m0), (1, .int 9), (3, .int (nI p0)), (5, .int (nI x)), (6, .int (nI s3)), (9, .int (nI i))], [.int 9], M1)) rfl rfl rfl ?_
          refine ps_st (S' := (301, [(0, .ref m0), (1, .int 9), (3, .int (nI p0)), (5, .int (nI x)), (6, .int (nI s3)), (9, .int (nI i))], [.int 2, .int 9], M1)) rfl rfl rfl ?_
          refine ps_if2 (S1 := (309, [(0, .ref m0), (1, .int 9), (3, .int (nI p0)), (5, .int (nI x)), (6, .int (nI s3)), (9, .int (nI i))], [], M1)) (S2 := (304, [(0, .ref m0), (1, .int 9), (3, .int (nI p0)), (5, .int (nI x)), (6, .int (nI s3)), (9, .int (nI i))], [], M1)) rfl rfl rfl (fun c_301 => ?_) (fun c_301 => ?_)
          rotate_left
          · exact absurd (by decide) (of_decide_eq_false c_301)
          refine ps_st (S' := (310, [(0, .ref m0), (1, .int 9), (3, .int (nI p0)), (5, .int (nI x)), (6, .int (nI s3)), (9, .int (nI i))], [.int 9], M1)) rfl rfl rfl ?_
          refine ps_st (S' := (312, [(0, .ref m0), (1, .int 9), (3, .int (nI p0)), (5, .int (nI x)), (6, .int (nI s3)), (9, .int (nI i))], [.int 7, .int 9], M1)) rfl rfl rfl ?_
          refine ps_if2 (S1 := (320, [(0, .ref m0), (1, .int 9), (3, .int (nI p0)), (5, .int (nI x)), (6, .int (nI s3)), (9, .int (nI i))], [], M1)) (S2 := (315, [(0, .ref m0), (1, .int 9), (3, .int (nI p0)), (5, .int (nI x)), (6, .int (nI s3)), (9, .int (nI i))], [], M1)) rfl rfl rfl (fun c_312 => ?_) (fun c_312 => ?_)
          rotate_left
          · exact absurd (by decide) (of_decide_eq_false c_312)
          refine ps_st (S' := (322, [], [.int 36], M1)) rfl rfl rfl ?_
          exact ps_ret rfl rfl (Or.inr (Or.inl ⟨I1, R1, hfe, Or.inl (by rw [← hs, clA_st (i := i) (by omega), if_neg (by omega)]), rfl, hR1, hEI1, hER1⟩))
  refine ps_st (S' := (1, [(0, .ref m0), (1, .int 9), (2, .int t), (3, .int (nI p0)), (4, .int (nI e)), (5, .int (nI x)), (6, .int (nI s3))], [.int 9], M)) rfl rfl rfl ?_
  refine ps_st (S' := (219, [(0, .ref m0), (1, .int 9), (2, .int t), (3, .int (nI p0)), (4, .int (nI e)), (5, .int (nI x)), (6, .int (nI s3))], [], M)) rfl rfl rfl ?_
  refine ps_st (S' := (221, [(0, .ref m0), (1, .int 9), (2, .int t), (3, .int (nI p0)), (4, .int (nI e)), (5, .int (nI x)), (6, .int (nI s3))], [.int (nI e)], M)) rfl rfl rfl ?_
  refine ps_st (S' := (222, [(0, .ref m0), (1, .int 9), (2, .int t), (3, .int (nI p0)), (4, .int (nI e)), (5, .int (nI x)), (6, .int (nI s3))], [.int (nI p0), .int (nI e)], M)) rfl rfl rfl ?_
  refine ps_st (S' := (223, [(0, .ref m0), (1, .int 9), (2, .int t), (3, .int (nI p0)), (4, .int (nI e)), (5, .int (nI x)), (6, .int (nI s3))], [.int ((nI e) - (nI p0))], M)) rfl rfl rfl ?_
  rw [nI_sub1 (p := e) (k := p0) (x := (nI p0)) rfl (by omega) (by omega)]
  show pl _ _ _ (_, [(0, .ref m0), (1, .int 9), (2, .int t), (3, .int (nI p0)), (4, .int (nI e)), (5, .int (nI x)), (6, .int (nI s3))], [.int (nI (e - p0))], M) _
  refine ps_st (S' := (224, [(0, .ref m0), (1, .int 9), (2, .int t), (3, .int (nI p0)), (4, .int (nI e)), (5, .int (nI x)), (6, .int (nI s3))], [.int 2, .int (nI (e - p0))], M)) rfl rfl rfl ?_
  refine ps_if2 (S1 := (243, [], [], M)) (S2 := (227, [(0, .ref m0), (1, .int 9), (2, .int t), (3, .int (nI p0)), (4, .int (nI e)), (5, .int (nI x)), (6, .int (nI s3))], [], M)) rfl rfl rfl (fun c_224 => ?_) (fun c_224 => ?_)
  · have c_224 : (nI (e - p0)) < 2 := of_decide_eq_true c_224
    have n_224 : e - p0 < 2 := (lt_nI (p := e - p0) (n := 2) (by omega) (by decide)).mp c_224
    refine ps_st (S' := (245, [], [.int 30], M)) rfl rfl rfl ?_
    exact ps_ret rfl rfl (Or.inl ⟨I, R, fe_2 (by omega), rfl, hR, hEI, hER⟩)
  · have c_224 : ¬ ((nI (e - p0)) < 2) := of_decide_eq_false c_224
    have n_224 : ¬ (e - p0 < 2) := fun h9 => c_224 ((lt_nI (p := e - p0) (n := 2) (by omega) (by decide)).mpr h9)
    refine ps_st (S' := (229, [(0, .ref m0), (1, .int 9), (2, .int t), (3, .int (nI p0)), (4, .int (nI e)), (5, .int (nI x)), (6, .int (nI s3))], [.int (nI e)], M)) rfl rfl rfl ?_
    refine ps_st (S' := (230, [(0, .ref m0), (1, .int 9), (2, .int t), (3, .int (nI p0)), (4, .int (nI e)), (5, .int (nI x)), (6, .int (nI s3))], [.int (nI p0), .int (nI e)], M)) rfl rfl rfl ?_
    refine ps_st (S' := (231, [(0, .ref m0), (1, .int 9), (2, .int t), (3, .int (nI p0)), (4, .int (nI e)), (5, .int (nI x)), (6, .int (nI s3))], [.int ((nI e) - (nI p0))], M)) rfl rfl rfl ?_
    rw [nI_sub1 (p := e) (k := p0) (x := (nI p0)) rfl (by omega) (by omega)]
    show pl _ _ _ (_, [(0, .ref m0), (1, .int 9), (2, .int t), (3, .int (nI p0)), (4, .int (nI e)), (5, .int (nI x)), (6, .int (nI s3))], [.int (nI (e - p0))], M) _
    refine ps_st (S' := (232, [(0, .ref m0), (1, .int 9), (2, .int t), (3, .int (nI p0)), (4, .int (nI e)), (5, .int (nI x)), (6, .int (nI s3))], [.int 2, .int (nI (e - p0))], M)) rfl rfl rfl ?_
    refine ps_st (S' := (233, [(0, .ref m0), (1, .int 9), (2, .int t), (3, .int (nI p0)), (4, .int (nI e)), (5, .int (nI x)), (6, .int (nI s3))], [.int 2, .int 2, .int (nI (e - p0))], M)) rfl rfl rfl ?_
    refine ps_st (S' := (234, [(0, .ref m0), (1, .int 9), (2, .int t), (3, .int (nI p0)), (4, .int (nI e)), (5, .int (nI x)), (6, .int (nI s3))], [.ref m0, .int 2, .int 2, .int (nI (e - p0))], M)) rfl rfl rfl ?_
    refine ps_st (S' := (235, [(0, .ref m0), (1, .int 9), (2, .int t), (3, .int (nI p0)), (4, .int (nI e)), (5, .int (nI x)), (6, .int (nI s3))], [.int (nI p0), .ref m0, .int 2, .int 2, .int (nI (e - p0))], M)) rfl rfl rfl ?_
    refine pl_call (a := [.ref m0, .int (nI p0)]) (rest := [.int 2, .int 2, .int (nI (e - p0))]) rfl rfl rfl (rd_u2 (n := n) (f := f) (p := p0) hR hF (by omega)) (fun v26 M27 q28 => ?_)
    obtain ⟨rfl, rfl⟩ := q28
    show pl _ _ _ (238, [(0, .ref m0), (1, .int 9), (2, .int t), (3, .int (nI p0)), (4, .int (nI e)), (5, .int (nI x)), (6, .int (nI s3))], [.int (nI (by2 f p0)), .int 2, .int 2, .int (nI (e - p0))], M) _
    have hu_235 := by2_lt f p0
    refine ps_st (S' := (239, [(0, .ref m0), (1, .int 9), (2, .int t), (3, .int (nI p0)), (4, .int (nI e)), (5, .int (nI x)), (6, .int (nI s3))], [.int (2 * (nI (by2 f p0))), .int 2, .int (nI (e - p0))], M)) rfl rfl rfl ?_
    rw [nI_mul1 (p := 2) (k := by2 f p0) (x := 2) (y := (nI (by2 f p0))) rfl rfl (by omega)]
    show pl _ _ _ (_, [(0, .ref m0), (1, .int 9), (2, .int t), (3, .int (nI p0)), (4, .int (nI e)), (5, .int (nI x)), (6, .int (nI s3))], [.int (nI (2 * (by2 f p0))), .int 2, .int (nI (e - p0))], M) _
    refine ps_st (S' := (240, [(0, .ref m0), (1, .int 9), (2, .int t), (3, .int (nI p0)), (4, .int (nI e)), (5, .int (nI x)), (6, .int (nI s3))], [.int (2 + (nI (2 * (by2 f p0)))), .int (nI (e - p0))], M)) rfl rfl rfl ?_
    rw [nI_add2 (p := 2) (k := 2 * (by2 f p0)) (x := 2) (y := (nI (2 * (by2 f p0)))) rfl rfl (by omega)]
    show pl _ _ _ (_, [(0, .ref m0), (1, .int 9), (2, .int t), (3, .int (nI p0)), (4, .int (nI e)), (5, .int (nI x)), (6, .int (nI s3))], [.int (nI (2 + 2 * (by2 f p0))), .int (nI (e - p0))], M) _
    refine ps_if2 (S1 := (246, [(0, .ref m0), (1, .int 9), (2, .int t), (3, .int (nI p0)), (4, .int (nI e)), (5, .int (nI x)), (6, .int (nI s3))], [], M)) (S2 := (243, [], [], M)) rfl rfl rfl (fun c_240 => ?_) (fun c_240 => ?_)
    · have c_240 : (nI (e - p0)) = (nI (2 + 2 * (by2 f p0))) := of_decide_eq_true c_240
      have n_240 : e - p0 = 2 + 2 * (by2 f p0) := (eq_nI (p := e - p0) (n := 2 + 2 * (by2 f p0)) (by omega) (by omega)).mp c_240
      refine ps_st (S' := (247, [(0, .ref m0), (1, .int 9), (2, .int t), (3, .int (nI p0)), (4, .int (nI e)), (5, .int (nI x)), (6, .int (nI s3))], [.int 9], M)) rfl rfl rfl ?_
      refine ps_st (S' := (249, [(0, .ref m0), (1, .int 9), (2, .int t), (3, .int (nI p0)), (4, .int (nI e)), (5, .int (nI x)), (6, .int (nI s3))], [.int 9, .int 9], M)) rfl rfl rfl ?_
      refine ps_if2 (S1 := (265, [(0, .ref m0), (1, .int 9), (3, .int (nI p0)), (5, .int (nI x)), (6, .int (nI s3))], [], M)) (S2 := (252, [(0, .ref m0), (1, .int 9), (2, .int t), (3, .int (nI p0)), (4, .int (nI e)), (5, .int (nI x)), (6, .int (nI s3))], [], M)) rfl rfl rfl (fun c_249 => ?_) (fun c_249 => ?_)
      · exact absurd (of_decide_eq_true c_249) (by decide)
      refine ps_st (S' := (253, [(0, .ref m0), (1, .int 9), (2, .int t), (3, .int (nI p0)), (4, .int (nI e)), (5, .int (nI x)), (6, .int (nI s3))], [.ref m0], M)) rfl rfl rfl ?_
      refine pr_int (j := 58) (S' := (256, [(0, .ref m0), (1, .int 9), (2, .int t), (3, .int (nI p0)), (4, .int (nI e)), (5, .int (nI x)), (6, .int (nI s3))], [.int (nI fl)], M)) rfl hR rfl hi58 rfl ?_
      refine ps_st (S' := (258, [(0, .ref m0), (1, .int 9), (2, .int t), (3, .int (nI p0)), (4, .int (nI e)), (5, .int (nI x)), (6, .int (nI s3))], [.int 16, .int (nI fl)], M)) rfl rfl rfl ?_
      refine ps_st (S' := (259, [(0, .ref m0), (1, .int 9), (2, .int t), (3, .int (nI p0)), (4, .int (nI e)), (5, .int (nI x)), (6, .int (nI s3))], [.int ((nI fl) &&& 16)], M)) rfl rfl rfl ?_
      rw [nI_an (p := fl) (k := 16) (x := 16) rfl]
      show pl _ _ _ (_, [(0, .ref m0), (1, .int 9), (2, .int t), (3, .int (nI p0)), (4, .int (nI e)), (5, .int (nI x)), (6, .int (nI s3))], [.int (nI (aN fl 16))], M) _
      refine ps_if (S1 := (265, [(0, .ref m0), (1, .int 9), (3, .int (nI p0)), (5, .int (nI x)), (6, .int (nI s3))], [], M)) (S2 := (262, [(0, .ref m0), (1, .int 9), (2, .int t), (3, .int (nI p0)), (4, .int (nI e)), (5, .int (nI x)), (6, .int (nI s3))], [], M)) rfl rfl rfl (fun c_259 => ?_) (fun c_259 => ?_)
      · have c_259 : (nI (aN fl 16)) = 0 := of_decide_eq_true c_259
        have n_259 : aN fl 16 = 0 := (eq_nI (p := aN fl 16) (n := 0) (Nat.lt_of_le_of_lt (an_le _ _) (by decide)) (by decide)).mp c_259
        refine ps_st (S' := (266, [(0, .ref m0), (1, .int 9), (3, .int (nI p0)), (5, .int (nI x)), (6, .int (nI s3))], [.int 0], M)) rfl rfl rfl ?_
        refine ps_st (S' := (268, [(0, .ref m0), (1, .int 9), (3, .int (nI p0)), (5, .int (nI x)), (6, .int (nI s3)), (9, .int 0)], [], M)) rfl rfl rfl ?_
        exact (LL kf) (0) M I R hR hEI hER hi51 hi52 hi53 hi58 hF hY hP ((fe_c (by decide) (by omega)).trans (congrArg some (by omega))) (by omega) (by omega) (rfl) (by omega)
      · have c_259 : ¬ ((nI (aN fl 16)) = 0) := of_decide_eq_false c_259
        have n_259 : ¬ (aN fl 16 = 0) := fun h9 => c_259 ((eq_nI (p := aN fl 16) (n := 0) (Nat.lt_of_le_of_lt (an_le _ _) (by decide)) (by decide)).mpr h9)
        refine ps_st (S' := (264, [(0, .ref m0), (1, .int 9), (2, .int t), (3, .int (nI p0)), (4, .int (nI e)), (5, .int (nI x)), (6, .int (nI s3))], [.int 36], M)) rfl rfl rfl ?_
        exact ps_ret rfl rfl (Or.inr (Or.inl ⟨I, R, (fe_c (by decide) (by omega)).trans (congrArg some (by omega)), Or.inr (by omega), rfl, hR, hEI, hER⟩))
    · have c_240 : ¬ ((nI (e - p0)) = (nI (2 + 2 * (by2 f p0)))) := of_decide_eq_false c_240
      have n_240 : ¬ (e - p0 = 2 + 2 * (by2 f p0)) := fun h9 => c_240 ((eq_nI (p := e - p0) (n := 2 + 2 * (by2 f p0)) (by omega) (by omega)).mpr h9)
      refine ps_st (S' := (245, [], [.int 30], M)) rfl rfl rfl ?_
      exact ps_ret rfl rfl (Or.inl ⟨I, R, (fun h9 => (by have h8 := Option.some.inj ((fe_c (by decide) (by omega)).symm.trans h9); omega)), rfl, hR, hEI, hER⟩)
set_option maxHeartbeats 4000000 in
theorem rd_attr4 {g : xe_G} {m0 : Nat} {q : Nat → Nat} {z : Nat × Nat} {I : rI} {R : rR} {M : mi_H} {n : Nat} {f : Nat → Int32} {tx : List (List Nat)} {cN : Nat} {A : Nat → Nat} {N mj : Nat} {E : List (Nat × Nat)} {p0 e x s3 : Nat} {t : Int32} (hR : RS g m0 q z I R M) (hi51 : I 51 = some 0) (hi52 : I 52 = some (nI N)) (hi53 : I 53 = some (nI mj)) (hF : FK n f I R) (hY : SYT tx cN A I R) (hP : RPV f n E tx N I R) (hEP : EP f n E) (hN : N < 65536) (hmj : mj < 65536) (he : p0 ≤ e ∧ e ≤ n) (hs3 : s3 < 2048) : pt (mT g) 177 [.ref m0, .int 4, .int t, .int (nI p0), .int (nI e), .int (nI x), .int (nI s3)] M (fun v M' => (∃  (I' : rI) (R' : rR), (¬ s_fe f 5 p0 e = some e) ∧ v = some (.int 30) ∧ RS g m0 q z I' R' M' ∧ eqI [65] I I' ∧ eqR [] R R') ∨ (∃  (I' : rI) (R' : rR), (s_fe f 5 p0 e = some e) ∧ (inA f E (p0 + 2) (by2 f p0) 0 = 0) ∧ v = some (.int 33) ∧ RS g m0 q z I' R' M' ∧ eqI [65] I I' ∧ eqR [] R R') ∨ (∃  (I' : rI) (R' : rR), (s_fe f 5 p0 e = some e) ∧ (¬ inA f E (p0 + 2) (by2 f p0) 0 = 0) ∧ v = some (.int 0) ∧ RS g m0 q z I' R' M' ∧ eqI [65] I I' ∧ eqR [] R R' ∧ I' 65 = some (nI (by2 f p0)))) := by
  refine pt_in (b := mb_177 g) rfl (fun kf => ?_)
  show pl (mT g) kf (mb_177 g).2 (0, [(0, .ref m0), (1, .int 4), (2, .int t), (3, .int (nI p0)), (4, .int (nI e)), (5, .int (nI x)), (6, .int (nI s3))], [], M) _
  have hEI : eqI [65] I I := eqI.rf
  have hER : eqR [] R R := eqR.rf
  have hn := hF.1
  have LL : ∀ (kf : Nat), (∀ (i : Nat) (M1 : mi_H) (I1 : rI) (R1 : rR), (RS g m0 q z I1 R1 M1) → (eqI [65] I I1) → (eqR [] R R1) → (I1 51 = some 0) → (I1 52 = some (nI N)) → (I1 53 = some (nI mj)) → (FK n f I1 R1) → (SYT tx cN A I1 R1) → (RPV f n E tx N I1 R1) → (s_fe f 5 p0 e = some e) → (i ≤ by2 f p0) → (p0 + 2 + 8 * by2 f p0 = e) → (inA f E (p0 + 2) (by2 f p0 - i) i = inA f E (p0 + 2) (by2 f p0) 0) →  pl (mT g) kf (mb_177 g).2 (431, [(0, .ref m0), (3, .int (nI p0)), (9, .int (nI i))], [], M1) (fun v M' => (∃  (I' : rI) (R' : rR), (¬ s_fe f 5 p0 e = some e) ∧ v = some (.int 30) ∧ RS g m0 q z I' R' M' ∧ eqI [65] I I' ∧ eqR [] R R') ∨ (∃  (I' : rI) (R' : rR), (s_fe f 5 p0 e = some e) ∧ (inA f E (p0 + 2) (by2 f p0) 0 = 0) ∧ v = some (.int 33) ∧ RS g m0 q z I' R' M' ∧ eqI [65] I I' ∧ eqR [] R R') ∨ (∃  (I' : rI) (R' : rR), (s_fe f 5 p0 e = some e) ∧ (¬ inA f E (p0 + 2) (by2 f p0) 0 = 0) ∧ v = some (.int 0) ∧ RS g m0 q z I' R' M' ∧ eqI [65] I I' ∧ eqR [] R R' ∧ I' 65 = some (nI (by2 f p0))))) := by
    intro kf
    induction kf with
    | zero => exact (by intros; exact pl_0)
    | succ kf ih =>
      intro i M1 I1 R1 hR1 hEI1 hER1 hl51 hl52 hl53 hF1 hY1 hP1 hfe hi hle hs
      have hn := hF1.1
      have hu9 := by2_lt f p0
      have hs6 := sb_lt s3 6
      have hs7 := sb_lt s3 7
      refine ps_st1 (S' := (433, [(0, .ref m0), (3, .int (nI p0)), (9, .int (nI i))], [.int (nI i)], M1)) rfl rfl rfl ?_
      refine ps_st (S' := (434, [(0, .ref m0), (3, .int (nI p0)), (9, .int (nI i))], [.ref m0, .int (nI i)], M1)) rfl rfl rfl ?_
      refine ps_st (S' := (435, [(0, .ref m0), (3, .int (nI p0)), (9, .int (nI i))], [.int (nI p0), .ref m0, .int (nI i)], M1)) rfl rfl rfl ?_
      refine pl_call (a := [.ref m0, .int (nI p0)]) (rest := [.int (nI i)]) rfl rfl rfl (rd_u2 (n := n) (f := f) (p := p0) hR1 hF1 (by omega)) (fun v1 M2 q3 => ?_)
      obtain ⟨rfl, rfl⟩ := q3
      show pl _ _ _ (438, [(0, .ref m0), (3, .int (nI p0)), (9, .int (nI i))], [.int (nI (by2 f p0)), .int (nI i)], M1) _
      have hu_435 := by2_lt f p0
      refine ps_if2 (S1 := (531, [(0, .ref m0), (3, .int (nI p0)), (9, .int (nI i))], [], M1)) (S2 := (441, [(0, .ref m0), (3, .int (nI p0)), (9, .int (nI i))], [], M1)) rfl rfl rfl (fun c_438 => ?_) (fun c_438 => ?_)
      · have c_438 : (nI (by2 f p0)) ≤ (nI i) := of_decide_eq_true c_438
        have n_438 : by2 f p0 ≤ i := (le_nI (p := by2 f p0) (n := i) (Nat.lt_trans (by2_lt _ _) (by decide)) (by omega)).mp c_438
        refine ps_st (S' := (532, [(0, .ref m0), (3, .int (nI p0)), (9, .int (nI i))], [.ref m0], M1)) rfl rfl rfl ?_
        refine ps_st (S' := (533, [(0, .ref m0), (3, .int (nI p0)), (9, .int (nI i))], [.ref m0, .ref m0], M1)) rfl rfl rfl ?_
        refine ps_st (S' := (534, [(0, .ref m0), (3, .int (nI p0)), (9, .int (nI i))], [.int (nI p0), .ref m0, .ref m0], M1)) rfl rfl rfl ?_
        refine pl_call (a := [.ref m0, .int (nI p0)]) (rest := [.ref m0]) rfl rfl rfl (rd_u2 (n := n) (f := f) (p := p0) hR1 hF1 (by omega)) (fun v4 M5 q6 => ?_)
        obtain ⟨rfl, rfl⟩ := q6
        show pl _ _ _ (537, [(0, .ref m0), (3, .int (nI p0)), (9, .int (nI i))], [.int (nI (by2 f p0)), .ref m0], M1) _
        have hu_534 := by2_lt f p0
        refine pr_put (j := 65) rfl hR1 rfl (fun M7 I8 hR9 hi10 hI11 => ?_)
        have hi12 := (hI11 51 (by decide)).trans hl51
        have hi13 := (hI11 52 (by decide)).trans hl52
        have hi14 := (hI11 53 (by decide)).trans hl53
        have hF_15 := hF1.mono (pIx hI11 (by decide)) (fun _ _ => rfl)
        have hY_16 := hY1.mono (pIx hI11 (by decide)) (fun _ _ => rfl)
        have hP_17 := hP1.mono (pIx hI11 (by decide)) (fun _ _ => rfl)
        have hEI18 := hEI1.put hI11 (by decide)
        show pl _ _ _ (540, [(0, .ref m0), (3, .int (nI p0)), (9, .int (nI i))], [], M7) _
        refine ps_st (S' := (541, [(0, .ref m0), (3, .int (nI p0)), (9, .int (nI i))], [.int 0], M7)) rfl rfl rfl ?_
        exact ps_ret rfl rfl (Or.inr (Or.inr ⟨I8, R1, hfe, by rw [← hs, show by2 f p0 - i = 0 by omega]; exact Nat.one_ne_zero, rfl, hR9, hEI18, hER1, hi10⟩))
      · have c_438 : ¬ ((nI (by2 f p0)) ≤ (nI i)) := of_decide_eq_false c_438
        have n_438 : ¬ (by2 f p0 ≤ i) := fun h9 => c_438 ((le_nI (p := by2 f p0) (n := i) (Nat.lt_trans (by2_lt _ _) (by decide)) (by omega)).mpr h9)
        refine ps_st (S' := (442, [(0, .ref m0), (3, .int (nI p0)), (9, .int (nI i))], [.int (nI p0)], M1)) rfl rfl rfl ?_
        refine ps_st (S' := (443, [(0, .ref m0), (3, .int (nI p0)), (9, .int (nI i))], [.int 2, .int (nI p0)], M1)) rfl rfl rfl ?_
        refine ps_st (S' := (444, [(0, .ref m0), (3, .int (nI p0)), (9, .int (nI i))], [.int ((nI p0) + 2)], M1)) rfl rfl rfl ?_
        rw [nI_add1 (p := p0) (k := 2) (x := 2) rfl (by omega)]
        show pl _ _ _ (_, [(0, .ref m0), (3, .int (nI p0)), (9, .int (nI i))], [.int (nI (p0 + 2))], M1) _
        refine ps_st (S' := (446, [(0, .ref m0), (3, .int (nI p0)), (9, .int (nI i))], [.int 8, .int (nI (p0 + 2))], M1)) rfl rfl rfl ?_
        refine ps_st (S' := (448, [(0, .ref m0), (3, .int (nI p0)), (9, .int (nI i))], [.int (nI i), .int 8, .int (nI (p0 + 2))], M1)) rfl rfl rfl ?_
        refine ps_st (S' := (449, [(0, .ref m0), (3, .int (nI p0)), (9, .int (nI i))], [.int (8 * (nI i)), .int (nI (p0 + 2))], M1)) rfl rfl rfl ?_
        rw [nI_mul1 (p := 8) (k := i) (x := 8) (y := (nI i)) rfl rfl (by omega)]
        show pl _ _ _ (_, [(0, .ref m0), (3, .int (nI p0)), (9, .int (nI i))], [.int (nI (8 * i)), .int (nI (p0 + 2))], M1) _
        refine ps_st (S' := (450, [(0, .ref m0), (3, .int (nI p0)), (9, .int (nI i))], [.int ((nI (p0 + 2)) + (nI (8 * i)))], M1)) rfl rfl rfl ?_
        rw [nI_add1 (p := p0 + 2) (k := 8 * i) (x := (nI (8 * i))) rfl (by omega)]
        show pl _ _ _ (_, [(0, .ref m0), (3, .int (nI p0)), (9, .int (nI i))], [.int (nI (p0 + 2 + 8 * i))], M1) _
        refine ps_st (S' := (452, [(10, .int (nI (p0 + 2 + 8 * i))), (0, .ref m0), (3, .int (nI p0)), (9, .int (nI i))], [], M1)) rfl rfl rfl ?_
        refine ps_st (S' := (453, [(10, .int (nI (p0 + 2 + 8 * i))), (0, .ref m0), (3, .int (nI p0)), (9, .int (nI i))], [.ref m0], M1)) rfl rfl rfl ?_
        refine ps_st (S' := (454, [(10, .int (nI (p0 + 2 + 8 * i))), (0, .ref m0), (3, .int (nI p0)), (9, .int (nI i))], [.ref m0, .ref m0], M1)) rfl rfl rfl ?_
        refine ps_st (S' := (456, [(10, .int (nI (p0 + 2 + 8 * i))), (0, .ref m0), (3, .int (nI p0)), (9, .int (nI i))], [.int (nI (p0 + 2 + 8 * i)), .ref m0, .ref m0], M1)) rfl rfl rfl ?_
        refine pl_call (a := [.ref m0, .int (nI (p0 + 2 + 8 * i))]) (rest := [.ref m0]) rfl rfl rfl (rd_u2 (n := n) (f := f) (p := (p0 + 2 + 8 * i)) hR1 hF1 (by omega)) (fun v19 M20 q21 => ?_)
        obtain ⟨rfl, rfl⟩ := q21
        show pl _ _ _ (459, [(10, .int (nI (p0 + 2 + 8 * i))), (0, .ref m0), (3, .int (nI p0)), (9, .int (nI i))], [.int (nI (by2 f (p0 + 2 + 8 * i))), .ref m0], M1) _
        have hu_456 := by2_lt f (p0 + 2 + 8 * i)
        refine pl_call (a := [.ref m0, .int (nI (by2 f (p0 + 2 + 8 * i)))]) (rest := []) rfl rfl rfl (rd_tag (n := n) (f := f) (tx := tx) (cN := cN) (A := A) (N := N) (mj := mj) (E := E) (k := (by2 f (p0 + 2 + 8 * i))) hR1 hl51 hl52 hl53 hF1 hY1 hP1 (hEP) (hN) (hmj) (by2_lt _ _)) (fun v22 M23 q24 => ?_)
        obtain ⟨rfl, rfl⟩ := q24
        show pl _ _ _ (462, [(10, .int (nI (p0 + 2 + 8 * i))), (0, .ref m0), (3, .int (nI p0)), (9, .int (nI i))], [.int (nI (tg f E (by2 f (p0 + 2 + 8 * i))))], M1) _
        have htg_459 := tg_lt f E (by2 f (p0 + 2 + 8 * i))
        refine ps_st (S' := (464, [(10, .int (nI (p0 + 2 + 8 * i))), (0, .ref m0), (3, .int (nI p0)), (9, .int (nI i))], [.int 7, .int (nI (tg f E (by2 f (p0 + 2 + 8 * i))))], M1)) rfl rfl rfl ?_
        refine ps_if2 (S1 := (522, [], [], M1)) (S2 := (467, [(10, .int (nI (p0 + 2 + 8 * i))), (0, .ref m0), (3, .int (nI p0)), (9, .int (nI i))], [], M1)) rfl rfl rfl (fun c_464 => ?_) (fun c_464 => ?_)
        · have c_464 : ¬ (nI (tg f E (by2 f (p0 + 2 + 8 * i)))) = 7 := of_decide_eq_true c_464
          have n_464 : ¬ (tg f E (by2 f (p0 + 2 + 8 * i)) = 7) := fun h9 => c_464 ((eq_nI (p := tg f E (by2 f (p0 + 2 + 8 * i))) (n := 7) (Nat.lt_trans (tg_lt _ _ _) (by decide)) (by decide)).mpr h9)
          refine ps_st (S' := (524, [], [.int 33], M1)) rfl rfl rfl ?_
          exact ps_ret rfl rfl (Or.inr (Or.inl ⟨I1, R1, hfe, by rw [← hs, inA_st (i := i) (by omega), if_pos (by unfold inR; rw [if_neg (by omega)])], rfl, hR1, hEI1, hER1⟩))
        · have c_464 : ¬ (¬ (nI (tg f E (by2 f (p0 + 2 + 8 * i)))) = 7) := of_decide_eq_false c_464
          have n_464 : tg f E (by2 f (p0 + 2 + 8 * i)) = 7 := (eq_nI (p := tg f E (by2 f (p0 + 2 + 8 * i))) (n := 7) (Nat.lt_trans (tg_lt _ _ _) (by decide)) (by decide)).mp (Decidable.not_not.mp c_464)
          refine ps_st (S' := (468, [(10, .int (nI (p0 + 2 + 8 * i))), (0, .ref m0), (3, .int (nI p0)), (9, .int (nI i))], [.ref m0], M1)) rfl rfl rfl ?_
          refine ps_st (S' := (470, [(10, .int (nI (p0 + 2 + 8 * i))), (0, .ref m0), (3, .int (nI p0)), (9, .int (nI i))], [.int (nI (p0 + 2 + 8 * i)), .ref m0], M1)) rfl rfl rfl ?_
          refine ps_st (S' := (471, [(10, .int (nI (p0 + 2 + 8 * i))), (0, .ref m0), (3, .int (nI p0)), (9, .int (nI i))], [.int 2, .int (nI (p0 + 2 + 8 * i)), .ref m0], M1)) rfl rfl rfl ?_
          refine ps_st (S' := (472, [(10, .int (nI (p0 + 2 + 8 * i))), (0, .ref m0), (3, .int (nI p0)), (9, .int (nI i))], [.int ((nI (p0 + 2 + 8 * i)) + 2), .ref m0], M1)) rfl rfl rfl ?_
          rw [nI_add1 (p := p0 + 2 + 8 * i) (k := 2) (x := 2) rfl (by omega)]
          show pl _ _ _ (_, [(10, .int (nI (p0 + 2 + 8 * i))), (0, .ref m0), (3, .int (nI p0)), (9, .int (nI i))], [.int (nI (p0 + 2 + 8 * i + 2)), .ref m0], M1) _
          refine pl_call (a := [.ref m0, .int (nI (p0 + 2 + 8 * i + 2))]) (rest := []) rfl rfl rfl (rd_u2 (n := n) (f := f) (p := (p0 + 2 + 8 * i + 2)) hR1 hF1 (by omega)) (fun v25 M26 q27 => ?_)
          obtain ⟨rfl, rfl⟩ := q27
          show pl _ _ _ (475, [(10, .int (nI (p0 + 2 + 8 * i))), (0, .ref m0), (3, .int (nI p0)), (9, .int (nI i))], [.int (nI (by2 f (p0 + 2 + 8 * i + 2)))], M1) _
          have hu_472 := by2_lt f (p0 + 2 + 8 * i + 2)
          refine ps_if (S1 := (495, [(0, .ref m0), (3, .int (nI p0)), (9, .int (nI i)), (10, .int (nI (p0 + 2 + 8 * i)))], [], M1)) (S2 := (478, [(10, .int (nI (p0 + 2 + 8 * i))), (0, .ref m0), (3, .int (nI p0)), (9, .int (nI i))], [], M1)) rfl rfl rfl (fun c_475 => ?_) (fun c_475 => ?_)
          · have c_475 : (nI (by2 f (p0 + 2 + 8 * i + 2))) = 0 := of_decide_eq_true c_475
            have n_475 : by2 f (p0 + 2 + 8 * i + 2) = 0 := (eq_nI (p := by2 f (p0 + 2 + 8 * i + 2)) (n := 0) (Nat.lt_trans (by2_lt _ _) (by decide)) (by decide)).mp c_475
            refine ps_st (S' := (496, [(0, .ref m0), (3, .int (nI p0)), (9, .int (nI i)), (10, .int (nI (p0 + 2 + 8 * i)))], [.ref m0], M1)) rfl rfl rfl ?_
            refine ps_st (S' := (498, [(0, .ref m0), (3, .int (nI p0)), (9, .int (nI i)), (10, .int (nI (p0 + 2 + 8 * i)))], [.int (nI (p0 + 2 + 8 * i)), .ref m0], M1)) rfl rfl rfl ?_
            refine ps_st (S' := (499, [(0, .ref m0), (3, .int (nI p0)), (9, .int (nI i)), (10, .int (nI (p0 + 2 + 8 * i)))], [.int 4, .int (nI (p0 + 2 + 8 * i)), .ref m0], M1)) rfl rfl rfl ?_
            refine ps_st (S' := (500, [(0, .ref m0), (3, .int (nI p0)), (9, .int (nI i)), (10, .int (nI (p0 + 2 + 8 * i)))], [.int ((nI (p0 + 2 + 8 * i)) + 4), .ref m0], M1)) rfl rfl rfl ?_
            rw [nI_add1 (p := p0 + 2 + 8 * i) (k := 4) (x := 4) rfl (by omega)]
            show pl _ _ _ (_, [(0, .ref m0), (3, .int (nI p0)), (9, .int (nI i)), (10, .int (nI (p0 + 2 + 8 * i)))], [.int (nI (p0 + 2 + 8 * i + 4)), .ref m0], M1) _
            refine pl_call (a := [.ref m0, .int (nI (p0 + 2 + 8 * i + 4))]) (rest := []) rfl rfl rfl (rd_u2 (n := n) (f := f) (p := (p0 + 2 + 8 * i + 4)) hR1 hF1 (by omega)) (fun v28 M29 q30 => ?_)
            obtain ⟨rfl, rfl⟩ := q30
            show pl _ _ _ (503, [(0, .ref m0), (3, .int (nI p0)), (9, .int (nI i)), (10, .int (nI (p0 + 2 + 8 * i)))], [.int (nI (by2 f (p0 + 2 + 8 * i + 4)))], M1) _
            have hu_500 := by2_lt f (p0 + 2 + 8 * i + 4)
            refine ps_if (S1 := (525, [(0, .ref m0), (3, .int (nI p0)), (9, .int (nI i))], [], M1)) (S2 := (506, [(0, .ref m0), (3, .int (nI p0)), (9, .int (nI i)), (10, .int (nI (p0 + 2 + 8 * i)))], [], M1)) rfl rfl rfl (fun c_503 => ?_) (fun c_503 => ?_)
            · have c_503 : (nI (by2 f (p0 + 2 + 8 * i + 4))) = 0 := of_decide_eq_true c_503
              have n_503 : by2 f (p0 + 2 + 8 * i + 4) = 0 := (eq_nI (p := by2 f (p0 + 2 + 8 * i + 4)) (n := 0) (Nat.lt_trans (by2_lt _ _) (by decide)) (by decide)).mp c_503
              refine ps_st (S' := (528, [(9, .int ((nI i) + 1)), (0, .ref m0), (3, .int (nI p0))], [], M1)) rfl rfl rfl ?_
              rw [nI_add1 (p := i) (k := 1) (x := 1) rfl (by omega)]
              show pl _ _ _ (_, [(9, .int (nI (i + 1))), (0, .ref m0), (3, .int (nI p0))], [], M1) _
              refine ps_st (S' := (431, [(0, .ref m0), (3, .int (nI p0)), (9, .int (nI (i + 1)))], [], M1)) rfl rfl rfl ?_
              exact ih (i + 1) M1 I1 R1 hR1 hEI1 hER1 hl51 hl52 hl53 hF1 hY1 hP1 (hfe) (by omega) (hle) (by
                  rw [← hs, inA_st (i := i) (by omega), if_neg (by unfold inR; rw [if_pos (by omega)]; decide)])
            · have c_503 : ¬ ((nI (by2 f (p0 + 2 + 8 * i + 4))) = 0) := of_decide_eq_false c_503
              have n_503 : ¬ (by2 f (p0 + 2 + 8 * i + 4) = 0) := fun h9 => c_503 ((eq_nI (p := by2 f (p0 + 2 + 8 * i + 4)) (n := 0) (Nat.lt_trans (by2_lt _ _) (by decide)) (by decide)).mpr h9)
              refine ps_st (S' := (507, [(0, .ref m0), (3, .int (nI p0)), (9, .int (nI i)), (10, .int (nI (p0 + 2 + 8 * i)))], [.ref m0], M1)) rfl rfl rfl ?_
              refine ps_st (S' := (508, [(0, .ref m0), (3, .int (nI p0)), (9, .int (nI i)), (10, .int (nI (p0 + 2 + 8 * i)))], [.ref m0, .ref m0], M1)) rfl rfl rfl ?_
              refine ps_st (S' := (510, [(0, .ref m0), (3, .int (nI p0)), (9, .int (nI i)), (10, .int (nI (p0 + 2 + 8 * i)))], [.int (nI (p0 + 2 + 8 * i)), .ref m0, .ref m0], M1)) rfl rfl rfl ?_
              refine ps_st (S' := (511, [(0, .ref m0), (3, .int (nI p0)), (9, .int (nI i)), (10, .int (nI (p0 + 2 + 8 * i)))], [.int 4, .int (nI (p0 + 2 + 8 * i)), .ref m0, .ref m0], M1)) rfl rfl rfl ?_
              refine ps_st (S' := (512, [(0, .ref m0), (3, .int (nI p0)), (9, .int (nI i)), (10, .int (nI (p0 + 2 + 8 * i)))], [.int ((nI (p0 + 2 + 8 * i)) + 4), .ref m0, .ref m0], M1)) rfl rfl rfl ?_
              rw [nI_add1 (p := p0 + 2 + 8 * i) (k := 4) (x := 4) rfl (by omega)]
              show pl _ _ _ (_, [(0, .ref m0), (3, .int (nI p0)), (9, .int (nI i)), (10, .int (nI (p0 + 2 + 8 * i)))], [.int (nI (p0 + 2 + 8 * i + 4)), .ref m0, .ref m0], M1) _
              refine pl_call (a := [.ref m0, .int (nI (p0 + 2 + 8 * i + 4))]) (rest := [.ref m0]) rfl rfl rfl (rd_u2 (n := n) (f := f) (p := (p0 + 2 + 8 * i + 4)) hR1 hF1 (by omega)) (fun v31 M32 q33 => ?_)
              obtain ⟨rfl, rfl⟩ := q33
              show pl _ _ _ (515, [(0, .ref m0), (3, .int (nI p0)), (9, .int (nI i)), (10, .int (nI (p0 + 2 + 8 * i)))], [.int (nI (by2 f (p0 + 2 + 8 * i + 4))), .ref m0], M1) _
              have hu_512 := by2_lt f (p0 + 2 + 8 * i + 4)
              refine pl_call (a := [.ref m0, .int (nI (by2 f (p0 + 2 + 8 * i + 4)))]) (rest := []) rfl rfl rfl (rd_tag (n := n) (f := f) (tx := tx) (cN := cN) (A := A) (N := N) (mj := mj) (E := E) (k := (by2 f (p0 + 2 + 8 * i + 4))) hR1 hl51 hl52 hl53 hF1 hY1 hP1 (hEP) (hN) (hmj) (by2_lt _ _)) (fun v34 M35 q36 => ?_)
              obtain ⟨rfl, rfl⟩ := q36
              show pl _ _ _ (518, [(0, .ref m0), (3, .int (nI p0)), (9, .int (nI i)), (10, .int (nI (p0 + 2 + 8 * i)))], [.int (nI (tg f E (by2 f (p0 + 2 + 8 * i + 4))))], M1) _
              have htg_515 := tg_lt f E (by2 f (p0 + 2 + 8 * i + 4))
              refine ps_st (S' := (519, [(0, .ref m0), (3, .int (nI p0)), (9, .int (nI i)), (10, .int (nI (p0 + 2 + 8 * i)))], [.int 1, .int (nI (tg f E (by2 f (p0 + 2 + 8 * i + 4))))], M1)) rfl rfl rfl ?_
              refine ps_if2 (S1 := (525, [(0, .ref m0), (3, .int (nI p0)), (9, .int (nI i))], [], M1)) (S2 := (522, [], [], M1)) rfl rfl rfl (fun c_519 => ?_) (fun c_519 => ?_)
              · have c_519 : (nI (tg f E (by2 f (p0 + 2 + 8 * i + 4)))) = 1 := of_decide_eq_true c_519
                have n_519 : tg f E (by2 f (p0 + 2 + 8 * i + 4)) = 1 := (eq_nI (p := tg f E (by2 f (p0 + 2 + 8 * i + 4))) (n := 1) (Nat.lt_trans (tg_lt _ _ _) (by decide)) (by decide)).mp c_519
                refine ps_st (S' := (528, [(9, .int ((nI i) + 1)), (0, .ref m0), (3, .int (nI p0))], [], M1)) rfl rfl rfl ?_
                rw [nI_add1 (p := i) (k := 1) (x := 1) rfl (by omega)]
                show pl _ _ _ (_, [(9, .int (nI (i + 1))), (0, .ref m0), (3, .int (nI p0))], [], M1) _
                refine ps_st (S' := (431, [(0, .ref m0), (3, .int (nI p0)), (9, .int (nI (i + 1)))], [], M1)) rfl rfl rfl ?_
                exact ih (i + 1) M1 I1 R1 hR1 hEI1 hER1 hl51 hl52 hl53 hF1 hY1 hP1 (hfe) (by omega) (hle) (by
                    rw [← hs, inA_st (i := i) (by omega), if_neg (by unfold inR; rw [if_pos (by omega)]; decide)])
              · have c_519 : ¬ ((nI (tg f E (by2 f (p0 + 2 + 8 * i + 4)))) = 1) := of_decide_eq_false c_519
                have n_519 : ¬ (tg f E (by2 f (p0 + 2 + 8 * i + 4)) = 1) := fun h9 => c_519 ((eq_nI (p := tg f E (by2 f (p0 + 2 + 8 * i + 4))) (n := 1) (Nat.lt_trans (tg_lt _ _ _) (by decide)) (by decide)).mpr h9)
                refine ps_st (S' := (524, [], [.int 33], M1)) rfl rfl rfl ?_
                exact ps_ret rfl rfl (Or.inr (Or.inl ⟨I1, R1, hfe, by rw [← hs, inA_st (i := i) (by omega), if_pos (by unfold inR; rw [if_neg (by omega)])], rfl, hR1, hEI1, hER1⟩))
          · have c_475 : ¬ ((nI (by2 f (p0 + 2 + 8 * i + 2))) = 0) := of_decide_eq_false c_475
            have n_475 : ¬ (by2 f (p0 + 2 + 8 * i + 2) = 0) := fun h9 => c_475 ((eq_nI (p := by2 f (p0 + 2 + 8 * i + 2)) (n := 0) (Nat.lt_trans (by2_lt _ _) (by decide)) (by decide)).mpr h9)
            refine ps_st (S' := (479, [(10, .int (nI (p0 + 2 + 8 * i))), (0, .ref m0), (3, .int (nI p0)), (9, .int (nI i))], [.ref m0], M1)) rfl rfl rfl ?_
            refine ps_st (S' := (480, [(10, .int (nI (p0 + 2 + 8 * i))), (0, .ref m0), (3, .int (nI p0)), (9, .int (nI i))], [.ref m0, .ref m0], M1)) rfl rfl rfl ?_
            refine ps_st (S' := (482, [(10, .int (nI (p0 + 2 + 8 * i))), (0, .ref m0), (3, .int (nI p0)), (9, .int (nI i))], [.int (nI (p0 + 2 + 8 * i)), .ref m0, .ref m0], M1)) rfl rfl rfl ?_
            refine ps_st (S' := (483, [(10, .int (nI (p0 + 2 + 8 * i))), (0, .ref m0), (3, .int (nI p0)), (9, .int (nI i))], [.int 2, .int (nI (p0 + 2 + 8 * i)), .ref m0, .ref m0], M1)) rfl rfl rfl ?_
            refine ps_st (S' := (484, [(10, .int (nI (p0 + 2 + 8 * i))), (0, .ref m0), (3, .int (nI p0)), (9, .int (nI i))], [.int ((nI (p0 + 2 + 8 * i)) + 2), .ref m0, .ref m0], M1)) rfl rfl rfl ?_
            rw [nI_add1 (p := p0 + 2 + 8 * i) (k := 2) (x := 2) rfl (by omega)]
            show pl _ _ _ (_, [(10, .int (nI (p0 + 2 + 8 * i))), (0, .ref m0), (3, .int (nI p0)), (9, .int (nI i))], [.int (nI (p0 + 2 + 8 * i + 2)), .ref m0, .ref m0], M1) _
            refine pl_call (a := [.ref m0, .int (nI (p0 + 2 + 8 * i + 2))]) (rest := [.ref m0]) rfl rfl rfl (rd_u2 (n := n) (f := f) (p := (p0 + 2 + 8 * i + 2)) hR1 hF1 (by omega)) (fun v37 M38 q39 => ?_)
            obtain ⟨rfl, rfl⟩ := q39
            show pl _ _ _ (487, [(10, .int (nI (p0 + 2 + 8 * i))), (0, .ref m0), (3, .int (nI p0)), (9, .int (nI i))], [.int (nI (by2 f (p0 + 2 + 8 * i + 2))), .ref m0], M1) _
            have hu_484 := by2_lt f (p0 + 2 + 8 * i + 2)
            refine pl_call (a := [.ref m0, .int (nI (by2 f (p0 + 2 + 8 * i + 2)))]) (rest := []) rfl rfl rfl (rd_tag (n := n) (f := f) (tx := tx) (cN := cN) (A := A) (N := N) (mj := mj) (E := E) (k := (by2 f (p0 + 2 + 8 * i + 2))) hR1 hl51 hl52 hl53 hF1 hY1 hP1 (hEP) (hN) (hmj) (by2_lt _ _)) (fun v40 M41 q42 => ?_)
            obtain ⟨rfl, rfl⟩ := q42
            show pl _ _ _ (490, [(10, .int (nI (p0 + 2 + 8 * i))), (0, .ref m0), (3, .int (nI p0)), (9, .int (nI i))], [.int (nI (tg f E (by2 f (p0 + 2 + 8 * i + 2))))], M1) _
            have htg_487 := tg_lt f E (by2 f (p0 + 2 + 8 * i + 2))
            refine ps_st (S' := (492, [(10, .int (nI (p0 + 2 + 8 * i))), (0, .ref m0), (3, .int (nI p0)), (9, .int (nI i))], [.int 7, .int (nI (tg f E (by2 f (p0 + 2 + 8 * i + 2))))], M1)) rfl rfl rfl ?_
            refine ps_if2 (S1 := (522, [], [], M1)) (S2 := (495, [(0, .ref m0), (3, .int (nI p0)), (9, .int (nI i)), (10, .int (nI (p0 + 2 + 8 * i)))], [], M1)) rfl rfl rfl (fun c_492 => ?_) (fun c_492 => ?_)
            · have c_492 : ¬ (nI (tg f E (by2 f (p0 + 2 + 8 * i + 2)))) = 7 := of_decide_eq_true c_492
              have n_492 : ¬ (tg f E (by2 f (p0 + 2 + 8 * i + 2)) = 7) := fun h9 => c_492 ((eq_nI (p := tg f E (by2 f (p0 + 2 + 8 * i + 2))) (n := 7) (Nat.lt_trans (tg_lt _ _ _) (by decide)) (by decide)).mpr h9)
              refine ps_st (S' := (524, [], [.int 33], M1)) rfl rfl rfl ?_
              exact ps_ret rfl rfl (Or.inr (Or.inl ⟨I1, R1, hfe, by rw [← hs, inA_st (i := i) (by omega), if_pos (by unfold inR; rw [if_neg (by omega)])], rfl, hR1, hEI1, hER1⟩))
            · have c_492 : ¬ (¬ (nI (tg f E (by2 f (p0 + 2 + 8 * i + 2)))) = 7) := of_decide_eq_false c_492
              have n_492 : tg f E (by2 f (p0 + 2 + 8 * i + 2)) = 7 := (eq_nI (p := tg f E (by2 f (p0 + 2 + 8 * i + 2))) (n := 7) (Nat.lt_trans (tg_lt _ _ _) (by decide)) (by decide)).mp (Decidable.not_not.mp c_492)
              refine ps_st (S' := (496, [(0, .ref m0), (3, .int (nI p0)), (9, .int (nI i)), (10, .int (nI (p0 + 2 + 8 * i)))], [.ref m0], M1)) rfl rfl rfl ?_
              refine ps_st (S' := (498, [(0, .ref m0), (3, .int (nI p0)), (9, .int (nI i)), (10, .int (nI (p0 + 2 + 8 * i)))], [.int (nI (p0 + 2 + 8 * i)), .ref m0], M1)) rfl rfl rfl ?_
              refine ps_st (S' := (499, [(0, .ref m0), (3, .int (nI p0)), (9, .int (nI i)), (10, .int (nI (p0 + 2 + 8 * i)))], [.int 4, .int (nI (p0 + 2 + 8 * i)), .ref m0], M1)) rfl rfl rfl ?_
              refine ps_st (S' := (500, [(0, .ref m0), (3, .int (nI p0)), (9, .int (nI i)), (10, .int (nI (p0 + 2 + 8 * i)))], [.int ((nI (p0 + 2 + 8 * i)) + 4), .ref m0], M1)) rfl rfl rfl ?_
              rw [nI_add1 (p := p0 + 2 + 8 * i) (k := 4) (x := 4) rfl (by omega)]
              show pl _ _ _ (_, [(0, .ref m0), (3, .int (nI p0)), (9, .int (nI i)), (10, .int (nI (p0 + 2 + 8 * i)))], [.int (nI (p0 + 2 + 8 * i + 4)), .ref m0], M1) _
              refine pl_call (a := [.ref m0, .int (nI (p0 + 2 + 8 * i + 4))]) (rest := []) rfl rfl rfl (rd_u2 (n := n) (f := f) (p := (p0 + 2 + 8 * i + 4)) hR1 hF1 (by omega)) (fun v43 M44 q45 => ?_)
              obtain ⟨rfl, rfl⟩ := q45
              show pl _ _ _ (503, [(0, .ref m0), (3, .int (nI p0)), (9, .int (nI i)), (10, .int (nI (p0 + 2 + 8 * i)))], [.int (nI (by2 f (p0 + 2 + 8 * i + 4)))], M1) _
              have hu_500 := by2_lt f (p0 + 2 + 8 * i + 4)
              refine ps_if (S1 := (525, [(0, .ref m0), (3, .int (nI p0)), (9, .int (nI i))], [], M1)) (S2 := (506, [(0, .ref m0), (3, .int (nI p0)), (9, .int (nI i)), (10, .int (nI (p0 + 2 + 8 * i)))], [], M1)) rfl rfl rfl (fun c_503 => ?_) (fun c_503 => ?_)
              · have c_503 : (nI (by2 f (p0 + 2 + 8 * i + 4))) = 0 := of_decide_eq_true c_503
                have n_503 : by2 f (p0 + 2 + 8 * i + 4) = 0 := (eq_nI (p := by2 f (p0 + 2 + 8 * i + 4)) (n := 0) (Nat.lt_trans (by2_lt _ _) (by decide)) (by decide)).mp c_503
                refine ps_st (S' := (528, [(9, .int ((nI i) + 1)), (0, .ref m0), (3, .int (nI p0))], [], M1)) rfl rfl rfl ?_
                rw [nI_add1 (p := i) (k := 1) (x := 1) rfl (by omega)]
                show pl _ _ _ (_, [(9, .int (nI (i + 1))), (0, .ref m0), (3, .int (nI p0))], [], M1) _
                refine ps_st (S' := (431, [(0, .ref m0), (3, .int (nI p0)), (9, .int (nI (i + 1)))], [], M1)) rfl rfl rfl ?_
                exact ih (i + 1) M1 I1 R1 hR1 hEI1 hER1 hl51 hl52 hl53 hF1 hY1 hP1 (hfe) (by omega) (hle) (by
                    rw [← hs, inA_st (i := i) (by omega), if_neg (by unfold inR; rw [if_pos (by omega)]; decide)])
              · have c_503 : ¬ ((nI (by2 f (p0 + 2 + 8 * i + 4))) = 0) := of_decide_eq_false c_503
                have n_503 : ¬ (by2 f (p0 + 2 + 8 * i + 4) = 0) := fun h9 => c_503 ((eq_nI (p := by2 f (p0 + 2 + 8 * i + 4)) (n := 0) (Nat.lt_trans (by2_lt _ _) (by decide)) (by decide)).mpr h9)
                refine ps_st (S' := (507, [(0, .ref m0), (3, .int (nI p0)), (9, .int (nI i)), (10, .int (nI (p0 + 2 + 8 * i)))], [.ref m0], M1)) rfl rfl rfl ?_
                refine ps_st (S' := (508, [(0, .ref m0), (3, .int (nI p0)), (9, .int (nI i)), (10, .int (nI (p0 + 2 + 8 * i)))], [.ref m0, .ref m0], M1)) rfl rfl rfl ?_
                refine ps_st (S' := (510, [(0, .ref m0), (3, .int (nI p0)), (9, .int (nI i)), (10, .int (nI (p0 + 2 + 8 * i)))], [.int (nI (p0 + 2 + 8 * i)), .ref m0, .ref m0], M1)) rfl rfl rfl ?_
                refine ps_st (S' := (511, [(0, .ref m0), (3, .int (nI p0)), (9, .int (nI i)), (10, .int (nI (p0 + 2 + 8 * i)))], [.int 4, .int (nI (p0 + 2 + 8 * i)), .ref m0, .ref m0], M1)) rfl rfl rfl ?_
                refine ps_st (S' := (512, [(0, .ref m0), (3, .int (nI p0)), (9, .int (nI i)), (10, .int (nI (p0 + 2 + 8 * i)))], [.int ((nI (p0 + 2 + 8 * i)) + 4), .ref m0, .ref m0], M1)) rfl rfl rfl ?_
                rw [nI_add1 (p := p0 + 2 + 8 * i) (k := 4) (x := 4) rfl (by omega)]
                show pl _ _ _ (_, [(0, .ref m0), (3, .int (nI p0)), (9, .int (nI i)), (10, .int (nI (p0 + 2 + 8 * i)))], [.int (nI (p0 + 2 + 8 * i + 4)), .ref m0, .ref m0], M1) _
                refine pl_call (a := [.ref m0, .int (nI (p0 + 2 + 8 * i + 4))]) (rest := [.ref m0]) rfl rfl rfl (rd_u2 (n := n) (f := f) (p := (p0 + 2 + 8 * i + 4)) hR1 hF1 (by omega)) (fun v46 M47 q48 => ?_)
                obtain ⟨rfl, rfl⟩ := q48
                show pl _ _ _ (515, [(0, .ref m0), (3, .int (nI p0)), (9, .int (nI i)), (10, .int (nI (p0 + 2 + 8 * i)))], [.int (nI (by2 f (p0 + 2 + 8 * i + 4))), .ref m0], M1) _
                have hu_512 := by2_lt f (p0 + 2 + 8 * i + 4)
                refine pl_call (a := [.ref m0, .int (nI (by2 f (p0 + 2 + 8 * i + 4)))]) (rest := []) rfl rfl rfl (rd_tag (n := n) (f := f) (tx := tx) (cN := cN) (A := A) (N := N) (mj := mj) (E := E) (k := (by2 f (p0 + 2 + 8 * i + 4))) hR1 hl51 hl52 hl53 hF1 hY1 hP1 (hEP) (hN) (hmj) (by2_lt _ _)) (fun v49 M50 q51 => ?_)
                obtain ⟨rfl, rfl⟩ := q51
                show pl _ _ _ (518, [(0, .ref m0), (3, .int (nI p0)), (9, .int (nI i)), (10, .int (nI (p0 + 2 + 8 * i)))], [.int (nI (tg f E (by2 f (p0 + 2 + 8 * i + 4))))], M1) _
                have htg_515 := tg_lt f E (by2 f (p0 + 2 + 8 * i + 4))
                refine ps_st (S' := (519, [(0, .ref m0), (3, .int (nI p0)), (9, .int (nI i)), (10, .int (nI (p0 + 2 + 8 * i)))], [.int 1, .int (nI (tg f E (by2 f (p0 + 2 + 8 * i + 4))))], M1)) rfl rfl rfl ?_
                refine ps_if2 (S1 := (525, [(0, .ref m0), (3, .int (nI p0)), (9, .int (nI i))], [], M1)) (S2 := (522, [], [], M1)) rfl rfl rfl (fun c_519 => ?_) (fun c_519 => ?_)
                · have c_519 : (nI (tg f E (by2 f (p0 + 2 + 8 * i + 4)))) = 1 := of_decide_eq_true c_519
                  have n_519 : tg f E (by2 f (p0 + 2 + 8 * i + 4)) = 1 := (eq_nI (p := tg f E (by2 f (p0 + 2 + 8 * i + 4))) (n := 1) (Nat.lt_trans (tg_lt _ _ _) (by decide)) (by decide)).mp c_519
                  refine ps_st (S' := (528, [(9, .int ((nI i) + 1)), (0, .ref m0), (3, .int (nI p0))], [], M1)) rfl rfl rfl ?_
                  rw [nI_add1 (p := i) (k := 1) (x := 1) rfl (by omega)]
                  show pl _ _ _ (_, [(9, .int (nI (i + 1))), (0, .ref m0), (3, .int (nI p0))], [], M1) _
                  refine ps_st (S' := (431, [(0, .ref m0), (3, .int (nI p0)), (9, .int (nI (i + 1)))], [], M1)) rfl rfl rfl ?_
                  exact ih (i + 1) M1 I1 R1 hR1 hEI1 hER1 hl51 hl52 hl53 hF1 hY1 hP1 (hfe) (by omega) (hle) (by
                      rw [← hs, inA_st (i := i) (by omega), if_neg (by unfold inR; rw [if_pos (by omega)]; decide)])
                · have c_519 : ¬ ((nI (tg f E (by2 f (p0 + 2 + 8 * i + 4)))) = 1) := of_decide_eq_false c_519
                  have n_519 : ¬ (tg f E (by2 f (p0 + 2 + 8 * i + 4)) = 1) := fun h9 => c_519 ((eq_nI (p := tg f E (by2 f (p0 + 2 + 8 * i + 4))) (n := 1) (Nat.lt_trans (tg_lt _ _ _) (by decide)) (by decide)).mpr h9)
                  refine ps_st (S' := (524, [], [.int 33], M1)) rfl rfl rfl ?_
                  exact ps_ret rfl rfl (Or.inr (Or.inl ⟨I1, R1, hfe, by rw [← hs, inA_st (i := i) (by omega), if_pos (by unfold inR; rw [if_neg (by omega)])], rfl, hR1, hEI1, hER1⟩))
  refine ps_st (S' := (1, [(0, .ref m0), (1, .int 4), (2, .int t), (3, .int (nI p0)), (4, .int (nI e)), (5, .int (nI x)), (6, .int (nI s3))], [.int 4], M)) rfl rfl rfl ?_
  refine ps_st (S' := (400, [(0, .ref m0), (1, .int 4), (2, .int t), (3, .int (nI p0)), (4, .int (nI e)), (5, .int (nI x)), (6, .int (nI s3))], [], M)) rfl rfl rfl ?_
  refine ps_st (S' := (402, [(0, .ref m0), (1, .int 4), (2, .int t), (3, .int (nI p0)), (4, .int (nI e)), (5, .int (nI x)), (6, .int (nI s3))], [.int (nI e)], M)) rfl rfl rfl ?_
  refine ps_st (S' := (403, [(0, .ref m0), (1, .int 4), (2, .int t), (3, .int (nI p0)), (4, .int (nI e)), (5, .int (nI x)), (6, .int (nI s3))], [.int (nI p0), .int (nI e)], M)) rfl rfl rfl ?_
  refine ps_st (S' := (404, [(0, .ref m0), (1, .int 4), (2, .int t), (3, .int (nI p0)), (4, .int (nI e)), (5, .int (nI x)), (6, .int (nI s3))], [.int ((nI e) - (nI p0))], M)) rfl rfl rfl ?_
  rw [nI_sub1 (p := e) (k := p0) (x := (nI p0)) rfl (by omega) (by omega)]
  show pl _ _ _ (_, [(0, .ref m0), (1, .int 4), (2, .int t), (3, .int (nI p0)), (4, .int (nI e)), (5, .int (nI x)), (6, .int (nI s3))], [.int (nI (e - p0))], M) _
  refine ps_st (S' := (405, [(0, .ref m0), (1, .int 4), (2, .int t), (3, .int (nI p0)), (4, .int (nI e)), (5, .int (nI x)), (6, .int (nI s3))], [.int 2, .int (nI (e - p0))], M)) rfl rfl rfl ?_
  refine ps_if2 (S1 := (425, [], [], M)) (S2 := (408, [(0, .ref m0), (1, .int 4), (2, .int t), (3, .int (nI p0)), (4, .int (nI e)), (5, .int (nI x)), (6, .int (nI s3))], [], M)) rfl rfl rfl (fun c_405 => ?_) (fun c_405 => ?_)
  · have c_405 : (nI (e - p0)) < 2 := of_decide_eq_true c_405
    have n_405 : e - p0 < 2 := (lt_nI (p := e - p0) (n := 2) (by omega) (by decide)).mp c_405
    refine ps_st (S' := (427, [], [.int 30], M)) rfl rfl rfl ?_
    exact ps_ret rfl rfl (Or.inl ⟨I, R, fe_2 (by omega), rfl, hR, hEI, hER⟩)
  · have c_405 : ¬ ((nI (e - p0)) < 2) := of_decide_eq_false c_405
    have n_405 : ¬ (e - p0 < 2) := fun h9 => c_405 ((lt_nI (p := e - p0) (n := 2) (by omega) (by decide)).mpr h9)
    refine ps_st (S' := (410, [(0, .ref m0), (1, .int 4), (2, .int t), (3, .int (nI p0)), (4, .int (nI e)), (5, .int (nI x)), (6, .int (nI s3))], [.int (nI e)], M)) rfl rfl rfl ?_
    refine ps_st (S' := (411, [(0, .ref m0), (1, .int 4), (2, .int t), (3, .int (nI p0)), (4, .int (nI e)), (5, .int (nI x)), (6, .int (nI s3))], [.int (nI p0), .int (nI e)], M)) rfl rfl rfl ?_
    refine ps_st (S' := (412, [(0, .ref m0), (1, .int 4), (2, .int t), (3, .int (nI p0)), (4, .int (nI e)), (5, .int (nI x)), (6, .int (nI s3))], [.int ((nI e) - (nI p0))], M)) rfl rfl rfl ?_
    rw [nI_sub1 (p := e) (k := p0) (x := (nI p0)) rfl (by omega) (by omega)]
    show pl _ _ _ (_, [(0, .ref m0), (1, .int 4), (2, .int t), (3, .int (nI p0)), (4, .int (nI e)), (5, .int (nI x)), (6, .int (nI s3))], [.int (nI (e - p0))], M) _
    refine ps_st (S' := (413, [(0, .ref m0), (1, .int 4), (2, .int t), (3, .int (nI p0)), (4, .int (nI e)), (5, .int (nI x)), (6, .int (nI s3))], [.int 2, .int (nI (e - p0))], M)) rfl rfl rfl ?_
    refine ps_st (S' := (415, [(0, .ref m0), (1, .int 4), (2, .int t), (3, .int (nI p0)), (4, .int (nI e)), (5, .int (nI x)), (6, .int (nI s3))], [.int 8, .int 2, .int (nI (e - p0))], M)) rfl rfl rfl ?_
    refine ps_st (S' := (416, [(0, .ref m0), (1, .int 4), (2, .int t), (3, .int (nI p0)), (4, .int (nI e)), (5, .int (nI x)), (6, .int (nI s3))], [.ref m0, .int 8, .int 2, .int (nI (e - p0))], M)) rfl rfl rfl ?_
    refine ps_st (S' := (417, [(0, .ref m0), (1, .int 4), (2, .int t), (3, .int (nI p0)), (4, .int (nI e)), (5, .int (nI x)), (6, .int (nI s3))], [.int (nI p0), .ref m0, .int 8, .int 2, .int (nI (e - p0))], M)) rfl rfl rfl ?_
    refine pl_call (a := [.ref m0, .int (nI p0)]) (rest := [.int 8, .int 2, .int (nI (e - p0))]) rfl rfl rfl (rd_u2 (n := n) (f := f) (p := p0) hR hF (by omega)) (fun v52 M53 q54 => ?_)
    obtain ⟨rfl, rfl⟩ := q54
    show pl _ _ _ (420, [(0, .ref m0), (1, .int 4), (2, .int t), (3, .int (nI p0)), (4, .int (nI e)), (5, .int (nI x)), (6, .int (nI s3))], [.int (nI (by2 f p0)), .int 8, .int 2, .int (nI (e - p0))], M) _
    have hu_417 := by2_lt f p0
    refine ps_st (S' := (421, [(0, .ref m0), (1, .int 4), (2, .int t), (3, .int (nI p0)), (4, .int (nI e)), (5, .int (nI x)), (6, .int (nI s3))], [.int (8 * (nI (by2 f p0))), .int 2, .int (nI (e - p0))], M)) rfl rfl rfl ?_
    rw [nI_mul1 (p := 8) (k := by2 f p0) (x := 8) (y := (nI (by2 f p0))) rfl rfl (by omega)]
    show pl _ _ _ (_, [(0, .ref m0), (1, .int 4), (2, .int t), (3, .int (nI p0)), (4, .int (nI e)), (5, .int (nI x)), (6, .int (nI s3))], [.int (nI (8 * (by2 f p0))), .int 2, .int (nI (e - p0))], M) _
    refine ps_st (S' := (422, [(0, .ref m0), (1, .int 4), (2, .int t), (3, .int (nI p0)), (4, .int (nI e)), (5, .int (nI x)), (6, .int (nI s3))], [.int (2 + (nI (8 * (by2 f p0)))), .int (nI (e - p0))], M)) rfl rfl rfl ?_
    rw [nI_add2 (p := 2) (k := 8 * (by2 f p0)) (x := 2) (y := (nI (8 * (by2 f p0)))) rfl rfl (by omega)]
    show pl _ _ _ (_, [(0, .ref m0), (1, .int 4), (2, .int t), (3, .int (nI p0)), (4, .int (nI e)), (5, .int (nI x)), (6, .int (nI s3))], [.int (nI (2 + 8 * (by2 f p0))), .int (nI (e - p0))], M) _
    refine ps_if2 (S1 := (428, [(0, .ref m0), (1, .int 4), (2, .int t), (3, .int (nI p0)), (4, .int (nI e)), (5, .int (nI x)), (6, .int (nI s3))], [], M)) (S2 := (425, [], [], M)) rfl rfl rfl (fun c_422 => ?_) (fun c_422 => ?_)
    · have c_422 : (nI (e - p0)) = (nI (2 + 8 * (by2 f p0))) := of_decide_eq_true c_422
      have n_422 : e - p0 = 2 + 8 * (by2 f p0) := (eq_nI (p := e - p0) (n := 2 + 8 * (by2 f p0)) (by omega) (by omega)).mp c_422
      refine ps_st (S' := (429, [(0, .ref m0), (1, .int 4), (2, .int t), (3, .int (nI p0)), (4, .int (nI e)), (5, .int (nI x)), (6, .int (nI s3))], [.int 0], M)) rfl rfl rfl ?_
      refine ps_st (S' := (431, [(0, .ref m0), (3, .int (nI p0)), (9, .int 0)], [], M)) rfl rfl rfl ?_
      exact (LL kf) (0) M I R hR hEI hER hi51 hi52 hi53 hF hY hP ((fe_5 (by omega)).trans (congrArg some (by omega))) (by omega) (by omega) (rfl)
    · have c_422 : ¬ ((nI (e - p0)) = (nI (2 + 8 * (by2 f p0)))) := of_decide_eq_false c_422
      have n_422 : ¬ (e - p0 = 2 + 8 * (by2 f p0)) := fun h9 => c_422 ((eq_nI (p := e - p0) (n := 2 + 8 * (by2 f p0)) (by omega) (by omega)).mpr h9)
      refine ps_st (S' := (427, [], [.int 30], M)) rfl rfl rfl ?_
      exact ps_ret rfl rfl (Or.inl ⟨I, R, (fun h9 => (by have h8 := Option.some.inj ((fe_5 (by omega)).symm.trans h9); omega)), rfl, hR, hEI, hER⟩)
set_option maxHeartbeats 4000000 in
theorem rd_attr6 {g : xe_G} {m0 : Nat} {q : Nat → Nat} {z : Nat × Nat} {I : rI} {R : rR} {M : mi_H} {n : Nat} {f : Nat → Int32} {tx : List (List Nat)} {cN : Nat} {A : Nat → Nat} {N mj : Nat} {E : List (Nat × Nat)} {p0 e x s3 : Nat} {t : Int32} (hR : RS g m0 q z I R M) (hi51 : I 51 = some 0) (hi52 : I 52 = some (nI N)) (hi53 : I 53 = some (nI mj)) (hF : FK n f I R) (hY : SYT tx cN A I R) (hP : RPV f n E tx N I R) (hEP : EP f n E) (hN : N < 65536) (hmj : mj < 65536) (he : p0 ≤ e ∧ e ≤ n) (hs3 : s3 < 2048) : pt (mT g) 177 [.ref m0, .int 6, .int t, .int (nI p0), .int (nI e), .int (nI x), .int (nI s3)] M (fun v M' => (∃  (I' : rI) (R' : rR), (¬ s_fe f 7 p0 e = some e) ∧ v = some (.int 30) ∧ RS g m0 q z I' R' M' ∧ eqI [67] I I' ∧ eqR [] R R') ∨ (∃  (I' : rI) (R' : rR), (s_fe f 7 p0 e = some e) ∧ (¬ (tg f E (by2 f p0) = 7 ∧ sb s3 7 = 0)) ∧ v = some (.int 34) ∧ RS g m0 q z I' R' M' ∧ eqI [67] I I' ∧ eqR [] R R') ∨ (∃  (I' : rI) (R' : rR), (s_fe f 7 p0 e = some e) ∧ (tg f E (by2 f p0) = 7 ∧ sb s3 7 = 0) ∧ v = some (.int 0) ∧ RS g m0 q z I' R' M' ∧ eqI [67] I I' ∧ eqR [] R R')) := by
  refine pt_in (b := mb_177 g) rfl (fun kf => ?_)
  show pl (mT g) kf (mb_177 g).2 (0, [(0, .ref m0), (1, .int 6), (2, .int t), (3, .int (nI p0)), (4, .int (nI e)), (5, .int (nI x)), (6, .int (nI s3))], [], M) _
  have hEI : eqI [67] I I := eqI.rf
  have hER : eqR [] R R := eqR.rf
  have hn := hF.1
  have hu9 := by2_lt f p0
  have hs7 := sb_lt s3 7
  refine ps_st (S' := (1, [(0, .ref m0), (1, .int 6), (2, .int t), (3, .int (nI p0)), (4, .int (nI e)), (5, .int (nI x)), (6, .int (nI s3))], [.int 6], M)) rfl rfl rfl ?_
  refine ps_st (S' := (550, [(0, .ref m0), (1, .int 6), (2, .int t), (3, .int (nI p0)), (4, .int (nI e)), (5, .int (nI x)), (6, .int (nI s3))], [], M)) rfl rfl rfl ?_
  refine ps_st (S' := (552, [(0, .ref m0), (1, .int 6), (2, .int t), (3, .int (nI p0)), (4, .int (nI e)), (5, .int (nI x)), (6, .int (nI s3))], [.int (nI e)], M)) rfl rfl rfl ?_
  refine ps_st (S' := (553, [(0, .ref m0), (1, .int 6), (2, .int t), (3, .int (nI p0)), (4, .int (nI e)), (5, .int (nI x)), (6, .int (nI s3))], [.int (nI p0), .int (nI e)], M)) rfl rfl rfl ?_
  refine ps_st (S' := (554, [(0, .ref m0), (1, .int 6), (2, .int t), (3, .int (nI p0)), (4, .int (nI e)), (5, .int (nI x)), (6, .int (nI s3))], [.int ((nI e) - (nI p0))], M)) rfl rfl rfl ?_
  rw [nI_sub1 (p := e) (k := p0) (x := (nI p0)) rfl (by omega) (by omega)]
  show pl _ _ _ (_, [(0, .ref m0), (1, .int 6), (2, .int t), (3, .int (nI p0)), (4, .int (nI e)), (5, .int (nI x)), (6, .int (nI s3))], [.int (nI (e - p0))], M) _
  refine ps_st (S' := (555, [(0, .ref m0), (1, .int 6), (2, .int t), (3, .int (nI p0)), (4, .int (nI e)), (5, .int (nI x)), (6, .int (nI s3))], [.int 2, .int (nI (e - p0))], M)) rfl rfl rfl ?_
  refine ps_if2 (S1 := (561, [(0, .ref m0), (1, .int 6), (2, .int t), (3, .int (nI p0)), (4, .int (nI e)), (5, .int (nI x)), (6, .int (nI s3))], [], M)) (S2 := (558, [(0, .ref m0), (1, .int 6), (2, .int t), (3, .int (nI p0)), (4, .int (nI e)), (5, .int (nI x)), (6, .int (nI s3))], [], M)) rfl rfl rfl (fun c_555 => ?_) (fun c_555 => ?_)
  · have c_555 : (nI (e - p0)) = 2 := of_decide_eq_true c_555
    have n_555 : e - p0 = 2 := (eq_nI (p := e - p0) (n := 2) (by omega) (by decide)).mp c_555
    refine ps_st (S' := (562, [(0, .ref m0), (1, .int 6), (2, .int t), (3, .int (nI p0)), (4, .int (nI e)), (5, .int (nI x)), (6, .int (nI s3))], [.ref m0], M)) rfl rfl rfl ?_
    refine ps_st (S' := (563, [(0, .ref m0), (1, .int 6), (2, .int t), (3, .int (nI p0)), (4, .int (nI e)), (5, .int (nI x)), (6, .int (nI s3))], [.ref m0, .ref m0], M)) rfl rfl rfl ?_
    refine ps_st (S' := (564, [(0, .ref m0), (1, .int 6), (2, .int t), (3, .int (nI p0)), (4, .int (nI e)), (5, .int (nI x)), (6, .int (nI s3))], [.int (nI p0), .ref m0, .ref m0], M)) rfl rfl rfl ?_
    refine pl_call (a := [.ref m0, .int (nI p0)]) (rest := [.ref m0]) rfl rfl rfl (rd_u2 (n := n) (f := f) (p := p0) hR hF (by omega)) (fun v1 M2 q3 => ?_)
    obtain ⟨rfl, rfl⟩ := q3
    show pl _ _ _ (567, [(0, .ref m0), (1, .int 6), (2, .int t), (3, .int (nI p0)), (4, .int (nI e)), (5, .int (nI x)), (6, .int (nI s3))], [.int (nI (by2 f p0)), .ref m0], M) _
    have hu_564 := by2_lt f p0
    refine pl_call (a := [.ref m0, .int (nI (by2 f p0))]) (rest := []) rfl rfl rfl (rd_tag (n := n) (f := f) (tx := tx) (cN := cN) (A := A) (N := N) (mj := mj) (E := E) (k := (by2 f p0)) hR hi51 hi52 hi53 hF hY hP (hEP) (hN) (hmj) (by2_lt _ _)) (fun v4 M5 q6 => ?_)
    obtain ⟨rfl, rfl⟩ := q6
    show pl _ _ _ (570, [(0, .ref m0), (1, .int 6), (2, .int t), (3, .int (nI p0)), (4, .int (nI e)), (5, .int (nI x)), (6, .int (nI s3))], [.int (nI (tg f E (by2 f p0)))], M) _
    have htg_567 := tg_lt f E (by2 f p0)
    refine ps_st (S' := (572, [(0, .ref m0), (1, .int 6), (2, .int t), (3, .int (nI p0)), (4, .int (nI e)), (5, .int (nI x)), (6, .int (nI s3))], [.int 7, .int (nI (tg f E (by2 f p0)))], M)) rfl rfl rfl ?_
    refine ps_if2 (S1 := (586, [], [], M)) (S2 := (575, [(0, .ref m0), (1, .int 6), (2, .int t), (3, .int (nI p0)), (4, .int (nI e)), (5, .int (nI x)), (6, .int (nI s3))], [], M)) rfl rfl rfl (fun c_572 => ?_) (fun c_572 => ?_)
    · have c_572 : ¬ (nI (tg f E (by2 f p0))) = 7 := of_decide_eq_true c_572
      have n_572 : ¬ (tg f E (by2 f p0) = 7) := fun h9 => c_572 ((eq_nI (p := tg f E (by2 f p0)) (n := 7) (Nat.lt_trans (tg_lt _ _ _) (by decide)) (by decide)).mpr h9)
      refine ps_st (S' := (588, [], [.int 34], M)) rfl rfl rfl ?_
      exact ps_ret rfl rfl (Or.inr (Or.inl ⟨I, R, (fe_1 (by decide) (by omega)).trans (congrArg some (by omega)), by omega, rfl, hR, hEI, hER⟩))
    · have c_572 : ¬ (¬ (nI (tg f E (by2 f p0))) = 7) := of_decide_eq_false c_572
      have n_572 : tg f E (by2 f p0) = 7 := (eq_nI (p := tg f E (by2 f p0)) (n := 7) (Nat.lt_trans (tg_lt _ _ _) (by decide)) (by decide)).mp (Decidable.not_not.mp c_572)
      refine ps_st (S' := (577, [(0, .ref m0), (1, .int 6), (2, .int t), (3, .int (nI p0)), (4, .int (nI e)), (5, .int (nI x)), (6, .int (nI s3))], [.int (nI s3)], M)) rfl rfl rfl ?_
      refine ps_st (S' := (579, [(0, .ref m0), (1, .int 6), (2, .int t), (3, .int (nI p0)), (4, .int (nI e)), (5, .int (nI x)), (6, .int (nI s3))], [.int 7, .int (nI s3)], M)) rfl rfl rfl ?_
      refine ps_st (S' := (580, [(0, .ref m0), (1, .int 6), (2, .int t), (3, .int (nI p0)), (4, .int (nI e)), (5, .int (nI x)), (6, .int (nI s3))], [.int ((nI s3) >>> (7 &&& 31))], M)) rfl rfl rfl ?_
      refine ps_st (S' := (581, [(0, .ref m0), (1, .int 6), (2, .int t), (3, .int (nI p0)), (4, .int (nI e)), (5, .int (nI x)), (6, .int (nI s3))], [.int 1, .int ((nI s3) >>> (7 &&& 31))], M)) rfl rfl rfl ?_
      refine ps_st (S' := (582, [(0, .ref m0), (1, .int 6), (2, .int t), (3, .int (nI p0)), (4, .int (nI e)), (5, .int (nI x)), (6, .int (nI s3))], [.int (((nI s3) >>> (7 &&& 31)) &&& 1)], M)) rfl rfl rfl ?_
      rw [show (nI s3 >>> (7 &&& 31)) &&& 1 = nI (sb s3 7) from shr_k s3 (by omega) 7 (by decide)]
      show pl _ _ _ (_, [(0, .ref m0), (1, .int 6), (2, .int t), (3, .int (nI p0)), (4, .int (nI e)), (5, .int (nI x)), (6, .int (nI s3))], [.int (nI (sb s3 7))], M) _
      refine ps_st (S' := (583, [(0, .ref m0), (1, .int 6), (2, .int t), (3, .int (nI p0)), (4, .int (nI e)), (5, .int (nI x)), (6, .int (nI s3))], [.int 1, .int (nI (sb s3 7))], M)) rfl rfl rfl ?_
      refine ps_if2 (S1 := (589, [(0, .ref m0), (1, .int 6), (2, .int t), (3, .int (nI p0)), (4, .int (nI e)), (5, .int (nI x)), (6, .int (nI s3))], [], M)) (S2 := (586, [], [], M)) rfl rfl rfl (fun c_583 => ?_) (fun c_583 => ?_)
      · have c_583 : ¬ (nI (sb s3 7)) = 1 := of_decide_eq_true c_583
        have n_583 : ¬ (sb s3 7 = 1) := fun h9 => c_583 ((eq_nI (p := sb s3 7) (n := 1) (Nat.lt_trans (sb_lt _ _) (by decide)) (by decide)).mpr h9)
        refine ps_st (S' := (590, [(0, .ref m0), (1, .int 6), (2, .int t), (3, .int (nI p0)), (4, .int (nI e)), (5, .int (nI x)), (6, .int (nI s3))], [.ref m0], M)) rfl rfl rfl ?_
        refine ps_st (S' := (591, [(0, .ref m0), (1, .int 6), (2, .int t), (3, .int (nI p0)), (4, .int (nI e)), (5, .int (nI x)), (6, .int (nI s3))], [.ref m0, .ref m0], M)) rfl rfl rfl ?_
        refine ps_st (S' := (592, [(0, .ref m0), (1, .int 6), (2, .int t), (3, .int (nI p0)), (4, .int (nI e)), (5, .int (nI x)), (6, .int (nI s3))], [.int (nI p0), .ref m0, .ref m0], M)) rfl rfl rfl ?_
        refine pl_call (a := [.ref m0, .int (nI p0)]) (rest := [.ref m0]) rfl rfl rfl (rd_u2 (n := n) (f := f) (p := p0) hR hF (by omega)) (fun v7 M8 q9 => ?_)
        obtain ⟨rfl, rfl⟩ := q9
        show pl _ _ _ (595, [(0, .ref m0), (1, .int 6), (2, .int t), (3, .int (nI p0)), (4, .int (nI e)), (5, .int (nI x)), (6, .int (nI s3))], [.int (nI (by2 f p0)), .ref m0], M) _
        have hu_592 := by2_lt f p0
        refine pr_put (j := 67) rfl hR rfl (fun M10 I11 hR12 hi13 hI14 => ?_)
        have hi15 := (hI14 51 (by decide)).trans hi51
        have hi16 := (hI14 52 (by decide)).trans hi52
        have hi17 := (hI14 53 (by decide)).trans hi53
        have hF_18 := hF.mono (pIx hI14 (by decide)) (fun _ _ => rfl)
        have hY_19 := hY.mono (pIx hI14 (by decide)) (fun _ _ => rfl)
        have hP_20 := hP.mono (pIx hI14 (by decide)) (fun _ _ => rfl)
        have hEI21 := hEI.put hI14 (by decide)
        show pl _ _ _ (598, [(0, .ref m0), (1, .int 6), (2, .int t), (3, .int (nI p0)), (4, .int (nI e)), (5, .int (nI x)), (6, .int (nI s3))], [], M10) _
        refine ps_st (S' := (599, [(0, .ref m0), (1, .int 6), (2, .int t), (3, .int (nI p0)), (4, .int (nI e)), (5, .int (nI x)), (6, .int (nI s3))], [.int 0], M10)) rfl rfl rfl ?_
        exact ps_ret rfl rfl (Or.inr (Or.inr ⟨I11, R, (fe_1 (by decide) (by omega)).trans (congrArg some (by omega)), by omega, rfl, hR12, hEI21, hER⟩))
      · have c_583 : ¬ (¬ (nI (sb s3 7)) = 1) := of_decide_eq_false c_583
        have n_583 : sb s3 7 = 1 := (eq_nI (p := sb s3 7) (n := 1) (Nat.lt_trans (sb_lt _ _) (by decide)) (by decide)).mp (Decidable.not_not.mp c_583)
        refine ps_st (S' := (588, [], [.int 34], M)) rfl rfl rfl ?_
        exact ps_ret rfl rfl (Or.inr (Or.inl ⟨I, R, (fe_1 (by decide) (by omega)).trans (congrArg some (by omega)), by omega, rfl, hR, hEI, hER⟩))
  · have c_555 : ¬ ((nI (e - p0)) = 2) := of_decide_eq_false c_555
    have n_555 : ¬ (e - p0 = 2) := fun h9 => c_555 ((eq_nI (p := e - p0) (n := 2) (by omega) (by decide)).mpr h9)
    refine ps_st (S' := (560, [(0, .ref m0), (1, .int 6), (2, .int t), (3, .int (nI p0)), (4, .int (nI e)), (5, .int (nI x)), (6, .int (nI s3))], [.int 30], M)) rfl rfl rfl ?_
    exact ps_ret rfl rfl (Or.inl ⟨I, R, (fun h9 => (by have h7 := s_fe_in h9; have h8 := Option.some.inj ((fe_1 (by decide) (by omega)).symm.trans h9); omega)), rfl, hR, hEI, hER⟩)
set_option maxHeartbeats 4000000 in
theorem rd_attr5 {g : xe_G} {m0 : Nat} {q : Nat → Nat} {z : Nat × Nat} {I : rI} {R : rR} {M : mi_H} {n : Nat} {f : Nat → Int32} {tx : List (List Nat)} {cN : Nat} {A : Nat → Nat} {N mj : Nat} {E : List (Nat × Nat)} {p0 e x s3 : Nat} {t : Int32} (hR : RS g m0 q z I R M) (hi51 : I 51 = some 0) (hi52 : I 52 = some (nI N)) (hi53 : I 53 = some (nI mj)) (hF : FK n f I R) (hY : SYT tx cN A I R) (hP : RPV f n E tx N I R) (hEP : EP f n E) (hN : N < 65536) (hmj : mj < 65536) (he : p0 ≤ e ∧ e ≤ n) (hs3 : s3 < 2048) : pt (mT g) 177 [.ref m0, .int 5, .int t, .int (nI p0), .int (nI e), .int (nI x), .int (nI s3)] M (fun v M' => (∃  (I' : rI) (R' : rR), (¬ s_fe f 6 p0 e = some e) ∧ v = some (.int 30) ∧ RS g m0 q z I' R' M' ∧ eqI [70, 71] I I' ∧ eqR [] R R') ∨ (∃  (I' : rI) (R' : rR), (s_fe f 6 p0 e = some e) ∧ (bsA f E (by2 f p0) (p0 + 2) = 0) ∧ v = some (.int 38) ∧ RS g m0 q z I' R' M' ∧ eqI [70, 71] I I' ∧ eqR [] R R') ∨ (∃  (I' : rI) (R' : rR), (s_fe f 6 p0 e = some e) ∧ (¬ bsA f E (by2 f p0) (p0 + 2) = 0) ∧ v = some (.int 0) ∧ RS g m0 q z I' R' M' ∧ eqI [70, 71] I I' ∧ eqR [] R R' ∧ I' 71 = some (nI (by2 f p0)) ∧ I' 70 = some (nI p0))) := by
  refine pt_in (b := mb_177 g) rfl (fun kf => ?_)
  show pl (mT g) kf (mb_177 g).2 (0, [(0, .ref m0), (1, .int 5), (2, .int t), (3, .int (nI p0)), (4, .int (nI e)), (5, .int (nI x)), (6, .int (nI s3))], [], M) _
  have hEI : eqI [70, 71] I I := eqI.rf
  have hER : eqR [] R R := eqR.rf
  have hn := hF.1
  refine ps_st (S' := (1, [(0, .ref m0), (1, .int 5), (2, .int t), (3, .int (nI p0)), (4, .int (nI e)), (5, .int (nI x)), (6, .int (nI s3))], [.int 5], M)) rfl rfl rfl ?_
  refine ps_st (S' := (542, [(0, .ref m0), (1, .int 5), (2, .int t), (3, .int (nI p0)), (4, .int (nI e)), (5, .int (nI x)), (6, .int (nI s3))], [], M)) rfl rfl rfl ?_
  refine ps_st (S' := (543, [(0, .ref m0), (1, .int 5), (2, .int t), (3, .int (nI p0)), (4, .int (nI e)), (5, .int (nI x)), (6, .int (nI s3))], [.ref m0], M)) rfl rfl rfl ?_
  refine ps_st (S' := (544, [(0, .ref m0), (1, .int 5), (2, .int t), (3, .int (nI p0)), (4, .int (nI e)), (5, .int (nI x)), (6, .int (nI s3))], [.int (nI p0), .ref m0], M)) rfl rfl rfl ?_
  refine ps_st (S' := (546, [(0, .ref m0), (1, .int 5), (2, .int t), (3, .int (nI p0)), (4, .int (nI e)), (5, .int (nI x)), (6, .int (nI s3))], [.int (nI e), .int (nI p0), .ref m0], M)) rfl rfl rfl ?_
  refine pl_call (a := [.ref m0, .int (nI p0), .int (nI e)]) (rest := []) rfl rfl rfl (rd_bootstraps (n := n) (f := f) (tx := tx) (cN := cN) (A := A) (N := N) (mj := mj) (E := E) (p0 := p0) (e := e) hR hi51 hi52 hi53 hF hY hP (hEP) (hN) (hmj) (he)) (fun v1 M2 q3 => ?_)
  rcases q3 with q3 | q3 | q3
  · skip
    obtain ⟨I4, R5, q546_s, rfl, hR6, hI7, hX8⟩ := q3
    have hi9 := (hI7 51 (by decide)).trans hi51
    have hi10 := (hI7 52 (by decide)).trans hi52
    have hi11 := (hI7 53 (by decide)).trans hi53
    have hF_12 := hF.mono (cIx hI7 (by decide)) (cRx hX8 (by decide))
    have hY_13 := hY.mono (cIx hI7 (by decide)) (cRx hX8 (by decide))
    have hP_14 := hP.mono (cIx hI7 (by decide)) (cRx hX8 (by decide))
    have hEI15 := hEI.tr hI7 (by decide)
    have hER16 := hER.tr hX8 (by decide)
    show pl _ _ _ (549, [(0, .ref m0), (1, .int 5), (2, .int t), (3, .int (nI p0)), (4, .int (nI e)), (5, .int (nI x)), (6, .int (nI s3))], [.int 30], M2) _
    exact ps_ret rfl rfl (Or.inl ⟨I4, R5, q546_s, rfl, hR6, hEI15, hER16⟩)
  · skip
    obtain ⟨I17, R18, q546_s, q546_b, rfl, hR19, hI20, hX21⟩ := q3
    have hi22 := (hI20 51 (by decide)).trans hi51
    have hi23 := (hI20 52 (by decide)).trans hi52
    have hi24 := (hI20 53 (by decide)).trans hi53
    have hF_25 := hF.mono (cIx hI20 (by decide)) (cRx hX21 (by decide))
    have hY_26 := hY.mono (cIx hI20 (by decide)) (cRx hX21 (by decide))
    have hP_27 := hP.mono (cIx hI20 (by decide)) (cRx hX21 (by decide))
    have hEI28 := hEI.tr hI20 (by decide)
    have hER29 := hER.tr hX21 (by decide)
    show pl _ _ _ (549, [(0, .ref m0), (1, .int 5), (2, .int t), (3, .int (nI p0)), (4, .int (nI e)), (5, .int (nI x)), (6, .int (nI s3))], [.int 38], M2) _
    exact ps_ret rfl rfl (Or.inr (Or.inl ⟨I17, R18, q546_s, q546_b, rfl, hR19, hEI28, hER29⟩))
  · skip
    obtain ⟨I30, R31, q546_s, q546_b, rfl, hR32, hI33, hX34, hi35, hi36⟩ := q3
    have hi37 := (hI33 51 (by decide)).trans hi51
    have hi38 := (hI33 52 (by decide)).trans hi52
    have hi39 := (hI33 53 (by decide)).trans hi53
    have hF_40 := hF.mono (cIx hI33 (by decide)) (cRx hX34 (by decide))
    have hY_41 := hY.mono (cIx hI33 (by decide)) (cRx hX34 (by decide))
    have hP_42 := hP.mono (cIx hI33 (by decide)) (cRx hX34 (by decide))
    have hEI43 := hEI.tr hI33 (by decide)
    have hER44 := hER.tr hX34 (by decide)
    show pl _ _ _ (549, [(0, .ref m0), (1, .int 5), (2, .int t), (3, .int (nI p0)), (4, .int (nI e)), (5, .int (nI x)), (6, .int (nI s3))], [.int 0], M2) _
    exact ps_ret rfl rfl (Or.inr (Or.inr (⟨I30, R31, q546_s, q546_b, rfl, hR32, hEI43, hER44, hi35, hi36⟩)))
set_option maxHeartbeats 4000000 in
theorem rd_attr8 {g : xe_G} {m0 : Nat} {q : Nat → Nat} {z : Nat × Nat} {I : rI} {R : rR} {M : mi_H} {n : Nat} {f : Nat → Int32} {tx : List (List Nat)} {cN : Nat} {A : Nat → Nat} {N mj : Nat} {E : List (Nat × Nat)} {p0 e x s3 : Nat} {t0 : Int32} {t : Nat} (hR : RS g m0 q z I R M) (hi51 : I 51 = some 0) (hi52 : I 52 = some (nI N)) (hi53 : I 53 = some (nI mj)) (hF : FK n f I R) (hY : SYT tx cN A I R) (hP : RPV f n E tx N I R) (hEP : EP f n E) (hN : N < 65536) (hmj : mj < 65536) (he : p0 ≤ e ∧ e ≤ n) (hs3 : s3 < 2048) : pt (mT g) 177 [.ref m0, .int 8, .int t0, .int (nI p0), .int (nI e), .int (nI x), .int (nI s3)] M (fun v M' => (∃  (I' : rI) (R' : rR), (¬ s_fe f 9 p0 e = some e) ∧ v = some (.int 30) ∧ RS g m0 q z I' R' M' ∧ eqI [47, 48, 72] I I' ∧ eqR [] R R') ∨ (∃  (I' : rI) (R' : rR), (s_fe f 9 p0 e = some e) ∧ (rcS f n E t (by2 f p0) (p0 + 2) = some (37, t)) ∧ v = some (.int 37) ∧ RS g m0 q z I' R' M' ∧ eqI [47, 48, 72] I I' ∧ eqR [] R R') ∨ (∃ (y : Nat) (I' : rI) (R' : rR), (s_fe f 9 p0 e = some e) ∧ (rcS f n E t (by2 f p0) (p0 + 2) = some (28, y)) ∧ v = some (.int (-1)) ∧ RS g m0 q z I' R' M' ∧ eqI [47, 48, 72] I I' ∧ eqR [] R R' ∧ I' 47 = some 28 ∧ I' 48 = some (nI y)) ∨ (∃  (I' : rI) (R' : rR), (s_fe f 9 p0 e = some e) ∧ (rcS f n E t (by2 f p0) (p0 + 2) = none) ∧ v = some (.int 0) ∧ RS g m0 q z I' R' M' ∧ eqI [47, 48, 72] I I' ∧ eqR [] R R' ∧ I' 72 = some (nI (by2 f p0)))) := by
  refine pt_in (b := mb_177 g) rfl (fun kf => ?_)
  show pl (mT g) kf (mb_177 g).2 (0, [(0, .ref m0), (1, .int 8), (2, .int t0), (3, .int (nI p0)), (4, .int (nI e)), (5, .int (nI x)), (6, .int (nI s3))], [], M) _
  have hEI : eqI [47, 48, 72] I I := eqI.rf
  have hER : eqR [] R R := eqR.rf
  have hn := hF.1
  refine ps_st (S' := (1, [(0, .ref m0), (1, .int 8), (2, .int t0), (3, .int (nI p0)), (4, .int (nI e)), (5, .int (nI x)), (6, .int (nI s3))], [.int 8], M)) rfl rfl rfl ?_
  refine ps_st (S' := (600, [(0, .ref m0), (1, .int 8), (2, .int t0), (3, .int (nI p0)), (4, .int (nI e)), (5, .int (nI x)), (6, .int (nI s3))], [], M)) rfl rfl rfl ?_
  refine ps_st (S' := (601, [(0, .ref m0), (1, .int 8), (2, .int t0), (3, .int (nI p0)), (4, .int (nI e)), (5, .int (nI x)), (6, .int (nI s3))], [.ref m0], M)) rfl rfl rfl ?_
  refine ps_st (S' := (602, [(0, .ref m0), (1, .int 8), (2, .int t0), (3, .int (nI p0)), (4, .int (nI e)), (5, .int (nI x)), (6, .int (nI s3))], [.int (nI p0), .ref m0], M)) rfl rfl rfl ?_
  refine ps_st (S' := (604, [(0, .ref m0), (1, .int 8), (2, .int t0), (3, .int (nI p0)), (4, .int (nI e)), (5, .int (nI x)), (6, .int (nI s3))], [.int (nI e), .int (nI p0), .ref m0], M)) rfl rfl rfl ?_
  refine pl_call (a := [.ref m0, .int (nI p0), .int (nI e)]) (rest := []) rfl rfl rfl (rd_components (n := n) (f := f) (tx := tx) (cN := cN) (A := A) (N := N) (mj := mj) (E := E) (p0 := p0) (e := e) (t := t) hR hi51 hi52 hi53 hF hY hP (hEP) (hN) (hmj) (he)) (fun v1 M2 q3 => ?_)
  rcases q3 with q3 | q3 | q3 | q3
  · skip
    obtain ⟨I4, R5, q604_s, rfl, hR6, hI7, hX8⟩ := q3
    have hi9 := (hI7 51 (by decide)).trans hi51
    have hi10 := (hI7 52 (by decide)).trans hi52
    have hi11 := (hI7 53 (by decide)).trans hi53
    have hF_12 := hF.mono (cIx hI7 (by decide)) (cRx hX8 (by decide))
    have hY_13 := hY.mono (cIx hI7 (by decide)) (cRx hX8 (by decide))
    have hP_14 := hP.mono (cIx hI7 (by decide)) (cRx hX8 (by decide))
    have hEI15 := hEI.tr hI7 (by decide)
    have hER16 := hER.tr hX8 (by decide)
    show pl _ _ _ (607, [(0, .ref m0), (1, .int 8), (2, .int t0), (3, .int (nI p0)), (4, .int (nI e)), (5, .int (nI x)), (6, .int (nI s3))], [.int 30], M2) _
    exact ps_ret rfl rfl (Or.inl ⟨I4, R5, q604_s, rfl, hR6, hEI15, hER16⟩)
  · skip
    obtain ⟨I17, R18, q604_s, q604_b, rfl, hR19, hI20, hX21⟩ := q3
    have hi22 := (hI20 51 (by decide)).trans hi51
    have hi23 := (hI20 52 (by decide)).trans hi52
    have hi24 := (hI20 53 (by decide)).trans hi53
    have hF_25 := hF.mono (cIx hI20 (by decide)) (cRx hX21 (by decide))
    have hY_26 := hY.mono (cIx hI20 (by decide)) (cRx hX21 (by decide))
    have hP_27 := hP.mono (cIx hI20 (by decide)) (cRx hX21 (by decide))
    have hEI28 := hEI.tr hI20 (by decide)
    have hER29 := hER.tr hX21 (by decide)
    show pl _ _ _ (607, [(0, .ref m0), (1, .int 8), (2, .int t0), (3, .int (nI p0)), (4, .int (nI e)), (5, .int (nI x)), (6, .int (nI s3))], [.int 37], M2) _
    exact ps_ret rfl rfl (Or.inr (Or.inl ⟨I17, R18, q604_s, q604_b, rfl, hR19, hEI28, hER29⟩))
  · skip
    obtain ⟨y30, I31, R32, q604_s, q604_b, rfl, hR33, hI34, hX35, hi36, hi37⟩ := q3
    have hi38 := (hI34 51 (by decide)).trans hi51
    have hi39 := (hI34 52 (by decide)).trans hi52
    have hi40 := (hI34 53 (by decide)).trans hi53
    have hF_41 := hF.mono (cIx hI34 (by decide)) (cRx hX35 (by decide))
    have hY_42 := hY.mono (cIx hI34 (by decide)) (cRx hX35 (by decide))
    have hP_43 := hP.mono (cIx hI34 (by decide)) (cRx hX35 (by decide))
    have hEI44 := hEI.tr hI34 (by decide)
    have hER45 := hER.tr hX35 (by decide)
    show pl _ _ _ (607, [(0, .ref m0), (1, .int 8), (2, .int t0), (3, .int (nI p0)), (4, .int (nI e)), (5, .int (nI x)), (6, .int (nI s3))], [.int (-1)], M2) _
    exact ps_ret rfl rfl (Or.inr (Or.inr (Or.inl ⟨y30, I31, R32, q604_s, q604_b, rfl, hR33, hEI44, hER45, hi36, hi37⟩)))
  · skip
    obtain ⟨I46, R47, q604_s, q604_b, rfl, hR48, hI49, hX50, hi54⟩ := q3
    have hi55 := (hI49 51 (by decide)).trans hi51
    have hi56 := (hI49 52 (by decide)).trans hi52
    have hi57 := (hI49 53 (by decide)).trans hi53
    have hF_58 := hF.mono (cIx hI49 (by decide)) (cRx hX50 (by decide))
    have hY_59 := hY.mono (cIx hI49 (by decide)) (cRx hX50 (by decide))
    have hP_60 := hP.mono (cIx hI49 (by decide)) (cRx hX50 (by decide))
    have hEI61 := hEI.tr hI49 (by decide)
    have hER62 := hER.tr hX50 (by decide)
    show pl _ _ _ (607, [(0, .ref m0), (1, .int 8), (2, .int t0), (3, .int (nI p0)), (4, .int (nI e)), (5, .int (nI x)), (6, .int (nI s3))], [.int 0], M2) _
    exact ps_ret rfl rfl (Or.inr (Or.inr (Or.inr (⟨I46, R47, q604_s, q604_b, rfl, hR48, hEI61, hER62, hi54⟩))))
end
section
/-! a field's attributes, as the reference checks them (laid by wip/p4/e14.py) -/

theorem lt_15 : ltx 15 = ltx 0 := by decide +kernel
theorem kb_1 {mj : Nat} {l : List Nat} : kb mj 1 l 10 = if ¬ eqN l (ltx 15) = 0 then some 0 else none := by
  simp only [kb, kiN, kfN]
  simp
theorem has_9 {x w : Nat} : hasN x w = 0 ↔ aN x w = 0 := by
  unfold hasN
  split <;> omega
def FX (fl ds x : Nat) (I : rI) (R : rR) : Prop := R 27 x = some (nI fl) ∧ R 29 x = some (nI ds)
theorem FX.mono {fl ds x : Nat} {I I' : rI} {R R' : rR} (h : FX fl ds x I R) (hI : ∀ k, k ∈ ([] : List Nat) → I' k = I k) (hR : ∀ k, k ∈ [27, 29] → R' k = R k) : FX fl ds x I' R' := by
  unfold FX
  rw [hR 27 (by decide), hR 29 (by decide)]
  exact h
def MX (fl ds x : Nat) (I : rI) (R : rR) : Prop := R 34 x = some (nI fl) ∧ R 36 x = some (nI ds)
theorem MX.mono {fl ds x : Nat} {I I' : rI} {R R' : rR} (h : MX fl ds x I R) (hI : ∀ k, k ∈ ([] : List Nat) → I' k = I k) (hR : ∀ k, k ∈ [34, 36] → R' k = R k) : MX fl ds x I' R' := by
  unfold MX
  rw [hR 34 (by decide), hR 36 (by decide)]
  exact h
section FAS
variable {f : Nat → Int32} {n : Nat} {E : List (Nat × Nat)} {x c i p s : Nat} {d : List Nat}
theorem faS_28 (h : i < c) (ht : ¬ tg f E (by2 f p) = 1) : faS f n E x d (c - i) p s = some (28, p) := by
  rw [faS_st h, show nwS f E s (fkN f n E (by2 f p)) p = .inl (28, p) by unfold nwS; rw [if_pos ht]]
theorem faS_29 (h : i < c) (ht : tg f E (by2 f p) = 1) (hk : fkN f n E (by2 f p) = 1) (hs : ¬ sb s 1 = 0) : faS f n E x d (c - i) p s = some (29, p) := by
  rw [faS_st h, hk, show nwS f E s 1 p = .inl (29, p) by unfold nwS; rw [if_neg (fun h9 => h9 ht), if_neg (by decide), if_pos hs]]
theorem faS_u (h : i < c) (ht : tg f E (by2 f p) = 1) (hk : fkN f n E (by2 f p) = 0) : faS f n E x d (c - i) p s = faS f n E x d (c - (i + 1)) (p + 6 + by4 f (p + 2)) s := by
  rw [faS_st h, show nwS f E s (fkN f n E (by2 f p)) p = .inr s by unfold nwS; rw [if_neg (fun h9 => h9 ht), if_pos hk]]
  dsimp only
  rw [if_neg (fun h9 => h9.1 hk), if_neg (fun h9 => h9.1 hk)]
theorem faS_k (h : i < c) (ht : tg f E (by2 f p) = 1) (hk : fkN f n E (by2 f p) = 1) (hs : sb s 1 = 0) : faS f n E x d (c - i) p s = if ¬ s_fe f 1 (p + 6) (p + 6 + by4 f (p + 2)) = some (p + 6 + by4 f (p + 2)) then some (30, p) else if ¬ hasN x 8 = 0 ∧ ¬ ctS d = some (tg f E (by2 f (p + 6))) then some (31, p) else faS f n E x d (c - (i + 1)) (p + 6 + by4 f (p + 2)) (so s 1) := by
  rw [faS_st h, hk, show nwS f E s 1 p = .inr (so s 1) by unfold nwS; rw [if_neg (fun h9 => h9 ht), if_neg (by decide), if_neg (fun h9 => h9 hs)]]
  simp only [Nat.one_ne_zero, not_false_eq_true, true_and]
end FAS
end
section
/-! the class's attributes, as the reference checks them (laid by wip/p4/e15.py) -/

section BRS
variable {f : Nat → Int32} {n : Nat} {E : List (Nat × Nat)} {x p s : Nat}
theorem br_5 : brS f n E x (4 + 1) p s = if inA f E (p + 6 + 2) (by2 f (p + 6)) 0 = 0 then some (.inl 33) else none := by
  unfold brS
  rw [if_pos (by decide)]
theorem br_6 : brS f n E x (5 + 1) p s = if bsA f E (by2 f (p + 6)) (p + 6 + 2) = 0 then some (.inl 38) else none := by
  unfold brS
  rw [if_neg (by decide), if_neg (by decide), if_neg (by decide), if_neg (by decide), if_neg (by decide), if_pos (by decide)]
theorem br_7 : brS f n E x (6 + 1) p s = if tg f E (by2 f (p + 6)) = 7 ∧ sb s 8 = 0 then none else some (.inl 34) := by
  unfold brS
  rw [if_neg (by decide), if_pos (by decide)]
theorem br_8 : brS f n E x (7 + 1) p s = if ¬ clA f E (p + 6 + 2) (by2 f (p + 6)) 0 = 0 ∧ sb s 7 = 0 then none else some (.inl 35) := by
  unfold brS
  rw [if_neg (by decide), if_neg (by decide), if_pos (by decide)]
theorem br_10 : brS f n E x (9 + 1) p s = if ¬ clA f E (p + 6 + 2) (by2 f (p + 6)) 0 = 0 ∧ hasN x 16 = 0 then none else some (.inl 36) := by
  unfold brS
  rw [if_neg (by decide), if_neg (by decide), if_neg (by decide), if_pos (by decide)]
theorem br_9 : brS f n E x (8 + 1) p s = match rcS f n E p (by2 f (p + 6)) (p + 6 + 2) with
    | none => none
    | some e => some (.inr e) := by
  unfold brS
  rw [if_neg (by decide), if_neg (by decide), if_neg (by decide), if_neg (by decide), if_pos (by decide)]
  rfl
theorem br_9s {e9 : Nat × Nat} (h : rcS f n E p (by2 f (p + 6)) (p + 6 + 2) = some e9) : brS f n E x (8 + 1) p s = some (.inr e9) := by
  rw [br_9, h]
theorem br_9n (h : rcS f n E p (by2 f (p + 6)) (p + 6 + 2) = none) : brS f n E x (8 + 1) p s = none := by
  rw [br_9, h]
end BRS
theorem sb_0 {k : Nat} : sb 0 k = 0 := by
  unfold sb
  rw [Nat.zero_testBit]
  rfl
theorem kb_4 {mj : Nat} {l : List Nat} : kb mj 4 l 10 = if 61 ≤ mj ∧ ¬ eqN l (ltx 24) = 0 then some 9 else if 60 ≤ mj ∧ ¬ eqN l (ltx 23) = 0 then some 8 else if 55 ≤ mj ∧ ¬ eqN l (ltx 22) = 0 then some 7 else if 55 ≤ mj ∧ ¬ eqN l (ltx 21) = 0 then some 6 else if 51 ≤ mj ∧ ¬ eqN l (ltx 20) = 0 then some 5 else if ¬ eqN l (ltx 19) = 0 then some 4 else none := by
  simp only [kb, kiN, kfN]
  simp
theorem lt_6 : ltx 3 = ltx 19 ∧ ltx 4 = ltx 20 ∧ ltx 5 = ltx 21 ∧ ltx 6 = ltx 22 ∧ ltx 7 = ltx 23 ∧ ltx 8 = ltx 24 := by decide +kernel
theorem eqd : ∀ a, a < 6 → ∀ b, b < 6 → eqN (ltx (19 + a)) (ltx (19 + b)) = if a = b then 1 else 0 := by decide +kernel
def ckL (mj : Nat) (l : List Nat) : Nat := if ¬ eqN l (ltx 19) = 0 then 5 else if 51 ≤ mj ∧ ¬ eqN l (ltx 20) = 0 then 6 else if 55 ≤ mj ∧ ¬ eqN l (ltx 21) = 0 then 7 else
  if 55 ≤ mj ∧ ¬ eqN l (ltx 22) = 0 then 8 else if 60 ≤ mj ∧ ¬ eqN l (ltx 23) = 0 then 9 else if 61 ≤ mj ∧ ¬ eqN l (ltx 24) = 0 then 10 else 0
theorem ck_L {f : Nat → Int32} {n mj x : Nat} {E : List (Nat × Nat)} : ckN f n E mj x = ckL mj (tX f n E x) := by
  unfold ckN ckL
  rw [lt_6.1, lt_6.2.1, lt_6.2.2.1, lt_6.2.2.2.1, lt_6.2.2.2.2.1, lt_6.2.2.2.2.2]
theorem ck_kb {mj : Nat} {l : List Nat} : (kb mj 4 l 10 = none ∧ ckL mj l = 0) ∨ ∃ w, kb mj 4 l 10 = some w ∧ (4 ≤ w ∧ w ≤ 9) ∧ ckL mj l = w + 1 := by
  have hz : (∀ b, b < 6 → eqN l (ltx (19 + b)) = 0) ∨ ∃ a, a < 6 ∧ ∀ b, b < 6 → eqN l (ltx (19 + b)) = if a = b then 1 else 0 := by
    by_cases h : ∃ a, a < 6 ∧ l = ltx (19 + a)
    · obtain ⟨a, ha, e⟩ := h
      exact Or.inr ⟨a, ha, fun b hb => by rw [e]; exact eqd a ha b hb⟩
    · exact Or.inl (fun b hb => by unfold eqN; rw [if_neg (fun e => h ⟨b, hb, e⟩)])
  rw [kb_4]
  unfold ckL
  rcases hz with hz | ⟨a, ha, hz⟩
  · have z0 := hz 0 (by decide); have z1 := hz 1 (by decide); have z2 := hz 2 (by decide); have z3 := hz 3 (by decide); have z4 := hz 4 (by decide); have z5 := hz 5 (by decide)
    simp only [Nat.add_zero, Nat.reduceAdd] at z0 z1 z2 z3 z4 z5
    exact Or.inl (by simp [z0, z1, z2, z3, z4, z5])
  · have z0 := hz 0 (by decide); have z1 := hz 1 (by decide); have z2 := hz 2 (by decide); have z3 := hz 3 (by decide); have z4 := hz 4 (by decide); have z5 := hz 5 (by decide)
    simp only [Nat.add_zero, Nat.reduceAdd] at z0 z1 z2 z3 z4 z5
    rw [z0, z1, z2, z3, z4, z5]
    rcases (show a = 0 ∨ a = 1 ∨ a = 2 ∨ a = 3 ∨ a = 4 ∨ a = 5 by omega) with rfl | rfl | rfl | rfl | rfl | rfl
    · exact Or.inr ⟨4, by simp, by omega, by simp⟩
    · by_cases hm : 51 ≤ mj
      · exact Or.inr ⟨5, by simp [hm], by omega, by simp [hm]⟩
      · exact Or.inl (by simp [hm])
    · by_cases hm : 55 ≤ mj
      · exact Or.inr ⟨6, by simp [hm], by omega, by simp [hm]⟩
      · exact Or.inl (by simp [hm])
    · by_cases hm : 55 ≤ mj
      · exact Or.inr ⟨7, by simp [hm], by omega, by simp [hm]⟩
      · exact Or.inl (by simp [hm])
    · by_cases hm : 60 ≤ mj
      · exact Or.inr ⟨8, by simp [hm], by omega, by simp [hm]⟩
      · exact Or.inl (by simp [hm])
    · by_cases hm : 61 ≤ mj
      · exact Or.inr ⟨9, by simp [hm], by omega, by simp [hm]⟩
      · exact Or.inl (by simp [hm])
theorem ck_y {f : Nat → Int32} {n mj x : Nat} {E : List (Nat × Nat)} (h : ¬ (gI (kb mj 4 (tX f n E x) 10) < 0)) : ∃ w, kb mj 4 (tX f n E x) 10 = some w ∧ (4 ≤ w ∧ w ≤ 9) ∧ ckN f n E mj x = w + 1 := by
  rw [ck_L]
  rcases ck_kb (mj := mj) (l := tX f n E x) with h9 | h9
  · rw [h9.1] at h
    exact absurd (by decide) h
  · exact h9
theorem ck_n {f : Nat → Int32} {n mj x : Nat} {E : List (Nat × Nat)} (h : gI (kb mj 4 (tX f n E x) 10) < 0) : ckN f n E mj x = 0 := by
  rw [ck_L]
  rcases ck_kb (mj := mj) (l := tX f n E x) with h9 | ⟨w, h8, h7, h6⟩
  · exact h9.2
  · rw [h8] at h
    exfalso
    have h1 : nI 0 ≤ nI w := (le_nI (p := 0) (n := w) (by decide) (by omega)).mpr (Nat.zero_le _)
    have h2 : nI w < nI 0 := h
    have h3 := (lt_nI (p := w) (n := 0) (by omega) (by decide)).mp h2
    omega
section CLS
variable {f : Nat → Int32} {n : Nat} {E : List (Nat × Nat)} {x mj c i p s bc w : Nat}
theorem clS_28 (h : i < c) (ht : ¬ tg f E (by2 f p) = 1) : clS f n E x mj (c - i) p s bc = .inl (28, p) := by
  rw [clS_st h, show nwS f E s (ckN f n E mj (by2 f p)) p = .inl (28, p) by unfold nwS; rw [if_pos ht]]
theorem clS_29 (h : i < c) (ht : tg f E (by2 f p) = 1) (hk : ckN f n E mj (by2 f p) = w + 1) (hw : 4 ≤ w) (hs : ¬ sb s (w + 1) = 0) : clS f n E x mj (c - i) p s bc = .inl (29, p) := by
  rw [clS_st h, hk, show nwS f E s (w + 1) p = .inl (29, p) by unfold nwS; rw [if_neg (fun h9 => h9 ht), if_neg (by omega), if_pos hs]]
theorem clS_u (h : i < c) (ht : tg f E (by2 f p) = 1) (hk : ckN f n E mj (by2 f p) = 0) : clS f n E x mj (c - i) p s bc = clS f n E x mj (c - (i + 1)) (p + 6 + by4 f (p + 2)) s bc := by
  rw [clS_st h, hk, show nwS f E s 0 p = .inr s by unfold nwS; rw [if_neg (fun h9 => h9 ht), if_pos rfl]]
  dsimp only
  rw [if_neg (fun h9 => h9.1 rfl), show brS f n E x 0 p s = none by unfold brS; rfl]
  rfl
theorem clS_k {s3 : Nat} (h : i < c) (ht : tg f E (by2 f p) = 1) (hk : ckN f n E mj (by2 f p) = w + 1) (hs : sb s3 w = 0) (hq : sb s3 w = sb s (w + 1)) : clS f n E x mj (c - i) p s bc = if ¬ s_fe f (w + 1) (p + 6) (p + 6 + by4 f (p + 2)) = some (p + 6 + by4 f (p + 2)) then .inl (30, p) else
    match brS f n E x (w + 1) p (so s (w + 1)) with
      | some (.inl r9) => .inl (r9, p)
      | some (.inr e) => .inl e
      | none => clS f n E x mj (c - (i + 1)) (p + 6 + by4 f (p + 2)) (so s (w + 1)) (if w = 5 then by2 f (p + 6) else bc) := by
  rw [clS_st h, hk, show nwS f E s (w + 1) p = .inr (so s (w + 1)) by unfold nwS; rw [if_neg (fun h9 => h9 ht), if_neg (by omega), if_neg (fun h9 => h9 (by omega))]]
  have h5 : (if w + 1 = 6 then by2 f (p + 6) else bc) = (if w = 5 then by2 f (p + 6) else bc) := by
    by_cases h9 : w = 5
    · rw [if_pos h9, if_pos (by omega)]
    · rw [if_neg h9, if_neg (by omega)]
  rw [← h5]
  dsimp only
  by_cases h4 : ¬ s_fe f (w + 1) (p + 6) (p + 6 + by4 f (p + 2)) = some (p + 6 + by4 f (p + 2))
  · rw [if_pos h4, if_pos ⟨by omega, h4⟩]
  · rw [if_neg h4, if_neg (fun h9 => h4 h9.2)]
    rfl
end CLS
set_option maxHeartbeats 1000000 in
theorem rd_attrK {g : xe_G} {m0 : Nat} {q : Nat → Nat} {z : Nat × Nat} {I : rI} {R : rR} {M : mi_H} {n : Nat} {f : Nat → Int32} {tx : List (List Nat)} {cN : Nat} {A : Nat → Nat} {N mj : Nat} {E : List (Nat × Nat)} {p e x s3 s2 fl w nb : Nat} {t : Int32} {n5 n8 n10 : Nat} {n7 n9 : Int32} (hR : RS g m0 q z I R M) (hi51 : I 51 = some 0) (hi52 : I 52 = some (nI N)) (hi53 : I 53 = some (nI mj)) (hi58 : I 58 = some (nI fl)) (hi71 : I 71 = some (nI nb)) (hi65 : I 65 = some (nI n5)) (hi68 : I 68 = some (nI n8)) (hi69 : I 69 = some (nI n10)) (hi70 : I 70 = some n7) (hi72 : I 72 = some n9) (hF : FK n f I R) (hY : SYT tx cN A I R) (hP : RPV f n E tx N I R) (hEP : EP f n E) (hN : N < 65536) (hmj : mj < 65536) (he : p + 6 ≤ e ∧ e ≤ n) (hs3 : s3 < 2048) (hf6 : fl < 65536) (hw : 4 ≤ w ∧ w ≤ 9) (h6 : w = 6 → sb s2 8 = sb s3 7) (h7 : w = 7 → sb s2 7 = sb s3 6) : pt (mT g) 177 [.ref m0, .int (nI w), .int t, .int (nI (p + 6)), .int (nI e), .int (nI x), .int (nI s3)] M (fun v M' => (∃  (I' : rI) (R' : rR), (¬ s_fe f (w + 1) (p + 6) e = some e) ∧ v = some (.int 30) ∧ RS g m0 q z I' R' M' ∧ eqI [47, 48, 65, 67, 68, 69, 70, 71, 72] I I' ∧ eqR [] R R') ∨ (∃ (r : Nat) (I' : rI) (R' : rR), (s_fe f (w + 1) (p + 6) e = some e) ∧ (brS f n E fl (w + 1) p s2 = some (.inl r) ∨ brS f n E fl (w + 1) p s2 = some (.inr (r, p))) ∧ (31 ≤ r ∧ r ≤ 38) ∧ v = some (.int (nI r)) ∧ RS g m0 q z I' R' M' ∧ eqI [47, 48, 65, 67, 68, 69, 70, 71, 72] I I' ∧ eqR [] R R') ∨ (∃ (e9 : Nat × Nat) (I' : rI) (R' : rR), (s_fe f (w + 1) (p + 6) e = some e) ∧ (brS f n E fl (w + 1) p s2 = some (.inr e9)) ∧ v = some (.int (-1)) ∧ RS g m0 q z I' R' M' ∧ eqI [47, 48, 65, 67, 68, 69, 70, 71, 72] I I' ∧ eqR [] R R' ∧ I' 47 = some (nI e9.1) ∧ I' 48 = some (nI e9.2)) ∨ (∃  (I' : rI) (R' : rR), (s_fe f (w + 1) (p + 6) e = some e) ∧ (brS f n E fl (w + 1) p s2 = none) ∧ v = some (.int 0) ∧ RS g m0 q z I' R' M' ∧ eqI [47, 48, 65, 67, 68, 69, 70, 71, 72] I I' ∧ eqR [] R R' ∧ I' 71 = some (nI (if w = 5 then by2 f (p + 6) else nb)) ∧ I' 65 = some (nI (if w + 1 = 5 then by2 f (p + 6) else n5)) ∧ I' 68 = some (nI (if w + 1 = 8 then by2 f (p + 6) else n8)) ∧ I' 69 = some (nI (if w + 1 = 10 then by2 f (p + 6) else n10)) ∧ I' 70 = some (if w + 1 = 6 then (nI (p + 6)) else n7) ∧ I' 72 = some (if w + 1 = 9 then (nI (by2 f (p + 6))) else n9))) := by
  rcases (show w = 4 ∨ w = 5 ∨ w = 6 ∨ w = 7 ∨ w = 8 ∨ w = 9 by omega) with rfl | rfl | rfl | rfl | rfl | rfl
  · refine pt.mono (rd_attr4 (p0 := p + 6) hR hi51 hi52 hi53 hF hY hP hEP hN hmj he hs3) (fun v M' h9 => ?_)
    rcases h9 with ⟨I', R', hs, hv, hR', hI', hX'⟩ | ⟨I', R', hs, hb, hv, hR', hI', hX'⟩ | ⟨I', R', hs, hb, hv, hR', hI', hX', h65⟩
    · exact Or.inl ⟨I', R', hs, hv, hR', eqI.rf.tr hI' (by decide), eqR.rf.tr hX' (by decide)⟩
    · exact Or.inr (Or.inl ⟨33, I', R', hs, Or.inl (by rw [br_5, if_pos hb]), by decide, hv, hR', eqI.rf.tr hI' (by decide), eqR.rf.tr hX' (by decide)⟩)
    · exact Or.inr (Or.inr (Or.inr ⟨I', R', hs, by rw [br_5, if_neg hb], hv, hR', eqI.rf.tr hI' (by decide), eqR.rf.tr hX' (by decide), (by rw [if_neg (by decide)]; exact (hI' 71 (by decide)).trans hi71), (by rw [if_pos (by decide)]; exact h65), (by rw [if_neg (by decide)]; exact (hI' 68 (by decide)).trans hi68), (by rw [if_neg (by decide)]; exact (hI' 69 (by decide)).trans hi69), (by rw [if_neg (by decide)]; exact (hI' 70 (by decide)).trans hi70), (by rw [if_neg (by decide)]; exact (hI' 72 (by decide)).trans hi72)⟩))
  · refine pt.mono (rd_attr5 (p0 := p + 6) hR hi51 hi52 hi53 hF hY hP hEP hN hmj he hs3) (fun v M' h9 => ?_)
    rcases h9 with ⟨I', R', hs, hv, hR', hI', hX'⟩ | ⟨I', R', hs, hb, hv, hR', hI', hX'⟩ | ⟨I', R', hs, hb, hv, hR', hI', hX', h71, h70⟩
    · exact Or.inl ⟨I', R', hs, hv, hR', eqI.rf.tr hI' (by decide), eqR.rf.tr hX' (by decide)⟩
    · exact Or.inr (Or.inl ⟨38, I', R', hs, Or.inl (by rw [br_6, if_pos hb]), by decide, hv, hR', eqI.rf.tr hI' (by decide), eqR.rf.tr hX' (by decide)⟩)
    · exact Or.inr (Or.inr (Or.inr ⟨I', R', hs, by rw [br_6, if_neg hb], hv, hR', eqI.rf.tr hI' (by decide), eqR.rf.tr hX' (by decide), (by rw [if_pos rfl]; exact h71), (by rw [if_neg (by decide)]; exact (hI' 65 (by decide)).trans hi65), (by rw [if_neg (by decide)]; exact (hI' 68 (by decide)).trans hi68), (by rw [if_neg (by decide)]; exact (hI' 69 (by decide)).trans hi69), (by rw [if_pos (by decide)]; exact h70), (by rw [if_neg (by decide)]; exact (hI' 72 (by decide)).trans hi72)⟩))
  · refine pt.mono (rd_attr6 (p0 := p + 6) hR hi51 hi52 hi53 hF hY hP hEP hN hmj he hs3) (fun v M' h9 => ?_)
    rcases h9 with ⟨I', R', hs, hv, hR', hI', hX'⟩ | ⟨I', R', hs, hb, hv, hR', hI', hX'⟩ | ⟨I', R', hs, hb, hv, hR', hI', hX'⟩
    · exact Or.inl ⟨I', R', hs, hv, hR', eqI.rf.tr hI' (by decide), eqR.rf.tr hX' (by decide)⟩
    · exact Or.inr (Or.inl ⟨34, I', R', hs, Or.inl (by rw [br_7, if_neg (fun h8 => hb ⟨h8.1, by rw [← h6 rfl]; exact h8.2⟩)]), by decide, hv, hR', eqI.rf.tr hI' (by decide), eqR.rf.tr hX' (by decide)⟩)
    · exact Or.inr (Or.inr (Or.inr ⟨I', R', hs, by rw [br_7, if_pos ⟨hb.1, by rw [h6 rfl]; exact hb.2⟩], hv, hR', eqI.rf.tr hI' (by decide), eqR.rf.tr hX' (by decide), (by rw [if_neg (by decide)]; exact (hI' 71 (by decide)).trans hi71), (by rw [if_neg (by decide)]; exact (hI' 65 (by decide)).trans hi65), (by rw [if_neg (by decide)]; exact (hI' 68 (by decide)).trans hi68), (by rw [if_neg (by decide)]; exact (hI' 69 (by decide)).trans hi69), (by rw [if_neg (by decide)]; exact (hI' 70 (by decide)).trans hi70), (by rw [if_neg (by decide)]; exact (hI' 72 (by decide)).trans hi72)⟩))
  · refine pt.mono (rd_attr7 (p0 := p + 6) hR hi51 hi52 hi53 hF hY hP hEP hN hmj he hs3) (fun v M' h9 => ?_)
    rcases h9 with ⟨I', R', hs, hv, hR', hI', hX'⟩ | ⟨I', R', hs, hb, hv, hR', hI', hX'⟩ | ⟨I', R', hs, hb, hv, hR', hI', hX', h68⟩
    · exact Or.inl ⟨I', R', hs, hv, hR', eqI.rf.tr hI' (by decide), eqR.rf.tr hX' (by decide)⟩
    · exact Or.inr (Or.inl ⟨35, I', R', hs, Or.inl (by rw [br_8, if_neg (fun h8 => (by rcases hb with hb | hb; exact h8.1 hb; exact hb (by rw [← h7 rfl]; exact h8.2)))]), by decide, hv, hR', eqI.rf.tr hI' (by decide), eqR.rf.tr hX' (by decide)⟩)
    · exact Or.inr (Or.inr (Or.inr ⟨I', R', hs, by rw [br_8, if_pos ⟨hb.1, by rw [h7 rfl]; exact hb.2⟩], hv, hR', eqI.rf.tr hI' (by decide), eqR.rf.tr hX' (by decide), (by rw [if_neg (by decide)]; exact (hI' 71 (by decide)).trans hi71), (by rw [if_neg (by decide)]; exact (hI' 65 (by decide)).trans hi65), (by rw [if_pos (by decide)]; exact h68), (by rw [if_neg (by decide)]; exact (hI' 69 (by decide)).trans hi69), (by rw [if_neg (by decide)]; exact (hI' 70 (by decide)).trans hi70), (by rw [if_neg (by decide)]; exact (hI' 72 (by decide)).trans hi72)⟩))
  · refine pt.mono (rd_attr8 (p0 := p + 6) (t := p) hR hi51 hi52 hi53 hF hY hP hEP hN hmj he hs3) (fun v M' h9 => ?_)
    rcases h9 with ⟨I', R', hs, hv, hR', hI', hX'⟩ | ⟨I', R', hs, hb, hv, hR', hI', hX'⟩ | ⟨y, I', R', hs, hb, hv, hR', hI', hX', h47, h48⟩ | ⟨I', R', hs, hb, hv, hR', hI', hX', h72⟩
    · exact Or.inl ⟨I', R', hs, hv, hR', eqI.rf.tr hI' (by decide), eqR.rf.tr hX' (by decide)⟩
    · exact Or.inr (Or.inl ⟨37, I', R', hs, Or.inr (br_9s hb), by decide, hv, hR', eqI.rf.tr hI' (by decide), eqR.rf.tr hX' (by decide)⟩)
    · exact Or.inr (Or.inr (Or.inl ⟨(28, y), I', R', hs, br_9s hb, hv, hR', eqI.rf.tr hI' (by decide), eqR.rf.tr hX' (by decide), h47, h48⟩))
    · exact Or.inr (Or.inr (Or.inr ⟨I', R', hs, br_9n hb, hv, hR', eqI.rf.tr hI' (by decide), eqR.rf.tr hX' (by decide), (by rw [if_neg (by decide)]; exact (hI' 71 (by decide)).trans hi71), (by rw [if_neg (by decide)]; exact (hI' 65 (by decide)).trans hi65), (by rw [if_neg (by decide)]; exact (hI' 68 (by decide)).trans hi68), (by rw [if_neg (by decide)]; exact (hI' 69 (by decide)).trans hi69), (by rw [if_neg (by decide)]; exact (hI' 70 (by decide)).trans hi70), (by rw [if_pos (by decide)]; exact h72)⟩))
  · refine pt.mono (rd_attr9 (p0 := p + 6) hR hi51 hi52 hi53 hi58 hF hY hP hEP hN hmj he hs3 hf6) (fun v M' h9 => ?_)
    rcases h9 with ⟨I', R', hs, hv, hR', hI', hX'⟩ | ⟨I', R', hs, hb, hv, hR', hI', hX'⟩ | ⟨I', R', hs, hb, hv, hR', hI', hX', h69⟩
    · exact Or.inl ⟨I', R', hs, hv, hR', eqI.rf.tr hI' (by decide), eqR.rf.tr hX' (by decide)⟩
    · exact Or.inr (Or.inl ⟨36, I', R', hs, Or.inl (by rw [br_10, if_neg (fun h8 => (by rcases hb with hb | hb; exact h8.1 hb; exact hb (has_9.mp h8.2)))]), by decide, hv, hR', eqI.rf.tr hI' (by decide), eqR.rf.tr hX' (by decide)⟩)
    · exact Or.inr (Or.inr (Or.inr ⟨I', R', hs, by rw [br_10, if_pos ⟨hb.1, has_9.mpr hb.2⟩], hv, hR', eqI.rf.tr hI' (by decide), eqR.rf.tr hX' (by decide), (by rw [if_neg (by decide)]; exact (hI' 71 (by decide)).trans hi71), (by rw [if_neg (by decide)]; exact (hI' 65 (by decide)).trans hi65), (by rw [if_neg (by decide)]; exact (hI' 68 (by decide)).trans hi68), (by rw [if_pos (by decide)]; exact h69), (by rw [if_neg (by decide)]; exact (hI' 70 (by decide)).trans hi70), (by rw [if_neg (by decide)]; exact (hI' 72 (by decide)).trans hi72)⟩))
set_option maxHeartbeats 4000000 in
theorem rd_checkAttributes4 {g : xe_G} {m0 : Nat} {q : Nat → Nat} {z : Nat × Nat} {I : rI} {R : rR} {M : mi_H} {n : Nat} {f : Nat → Int32} {tx : List (List Nat)} {cN : Nat} {A : Nat → Nat} {N mj : Nat} {E : List (Nat × Nat)} {p1 e x fl : Nat} (hR : RS g m0 q z I R M) (hi51 : I 51 = some 0) (hi52 : I 52 = some (nI N)) (hi53 : I 53 = some (nI mj)) (hi58 : I 58 = some (nI fl)) (hi71 : I 71 = some (nI 0)) (hi66 : I 66 = some (nI 0)) (hi65 : I 65 = some (nI 0)) (hi68 : I 68 = some (nI 0)) (hi69 : I 69 = some (nI 0)) (hi70 : I 70 = some (-1)) (hi72 : I 72 = some (-1)) (hF : FK n f I R) (hY : SYT tx cN A I R) (hP : RPV f n E tx N I R) (hK : KX I R) (hEP : EP f n E) (hN : N < 65536) (hmj : mj < 65536) (hin : p1 + 2 ≤ e ∧ e ≤ n) (hat : s_atE f e (by2 f p1) (p1 + 2) = some e) (hf6 : fl < 65536) : pt (mT g) 187 [.ref m0, .int (nI p1), .int 4, .int (nI x)] M (fun v M' => (∃ (e9 : Nat × Nat) (I' : rI) (R' : rR), (clS f n E fl mj (by2 f p1) (p1 + 2) 0 0 = .inl e9) ∧ v = some (.int (-1)) ∧ RS g m0 q z I' R' M' ∧ eqI [66, 47, 48, 65, 67, 68, 69, 70, 71, 72] I I' ∧ eqR [] R R' ∧ I' 47 = some (nI e9.1) ∧ I' 48 = some (nI e9.2)) ∨ (∃ (bc : Nat) (K : KT) (I' : rI) (R' : rR), (clS f n E fl mj (by2 f p1) (p1 + 2) 0 0 = .inr bc) ∧ (clU f n E mj (by2 f p1) (p1 + 2) (0, 0, 0, 0, 0, -1) = K) ∧ v = some (.int (nI e)) ∧ RS g m0 q z I' R' M' ∧ eqI [66, 47, 48, 65, 67, 68, 69, 70, 71, 72] I I' ∧ eqR [] R R' ∧ I' 71 = some (nI bc) ∧ I' 66 = some (nI K.1) ∧ I' 65 = some (nI K.2.2.1) ∧ I' 68 = some (nI K.2.2.2.1) ∧ I' 69 = some (nI K.2.2.2.2.1) ∧ I' 70 = some (b7 K) ∧ I' 72 = some K.2.2.2.2.2)) := by
  refine pt_in (b := mb_187 g) rfl (fun kf => ?_)
  show pl (mT g) kf (mb_187 g).2 (0, [(0, .ref m0), (1, .int (nI p1)), (2, .int 4), (3, .int (nI x))], [], M) _
  have hEI : eqI [66, 47, 48, 65, 67, 68, 69, 70, 71, 72] I I := eqI.rf
  have hER : eqR [] R R := eqR.rf
  have hn := hF.1
  have LL : ∀ (kf : Nat), (∀ (i p s2 s3 : Nat) (bc : Nat) (K : KT) (M1 : mi_H) (I1 : rI) (R1 : rR), (RS g m0 q z I1 R1 M1) → (eqI [66, 47, 48, 65, 67, 68, 69, 70, 71, 72] I I1) → (eqR [] R R1) → (I1 51 = some 0) → (I1 52 = some (nI N)) → (I1 53 = some (nI mj)) → (I1 58 = some (nI fl)) → (I1 71 = some (nI bc)) → (I1 66 = some (nI K.1)) → (I1 65 = some (nI K.2.2.1)) → (I1 68 = some (nI K.2.2.2.1)) → (I1 69 = some (nI K.2.2.2.2.1)) → (I1 70 = some (b7 K)) → (I1 72 = some K.2.2.2.2.2) → (FK n f I1 R1) → (SYT tx cN A I1 R1) → (RPV f n E tx N I1 R1) → (KX I1 R1) → (i ≤ by2 f p1) → (s3 < 2048) → (∀ w, 4 ≤ w → w ≤ 9 → sb s3 w = sb s2 (w + 1)) → (s_atE f e (by2 f p1 - i) p = some e) → (clS f n E fl mj (by2 f p1 - i) p s2 bc = clS f n E fl mj (by2 f p1) (p1 + 2) 0 0) → (clU f n E mj (by2 f p1 - i) p K = clU f n E mj (by2 f p1) (p1 + 2) (0, 0, 0, 0, 0, -1)) → (K.1 ≤ i) →  pl (mT g) kf (mb_187 g).2 (18, [(0, .ref m0), (2, .int 4), (3, .int (nI x)), (4, .int (nI (by2 f p1))), (5, .int (nI p)), (6, .int (nI s3)), (7, .int (nI i))], [], M1) (fun v M' => (∃ (e9 : Nat × Nat) (I' : rI) (R' : rR), (clS f n E fl mj (by2 f p1) (p1 + 2) 0 0 = .inl e9) ∧ v = some (.int (-1)) ∧ RS g m0 q z I' R' M' ∧ eqI [66, 47, 48, 65, 67, 68, 69, 70, 71, 72] I I' ∧ eqR [] R R' ∧ I' 47 = some (nI e9.1) ∧ I' 48 = some (nI e9.2)) ∨ (∃ (bc : Nat) (K : KT) (I' : rI) (R' : rR), (clS f n E fl mj (by2 f p1) (p1 + 2) 0 0 = .inr bc) ∧ (clU f n E mj (by2 f p1) (p1 + 2) (0, 0, 0, 0, 0, -1) = K) ∧ v = some (.int (nI e)) ∧ RS g m0 q z I' R' M' ∧ eqI [66, 47, 48, 65, 67, 68, 69, 70, 71, 72] I I' ∧ eqR [] R R' ∧ I' 71 = some (nI bc) ∧ I' 66 = some (nI K.1) ∧ I' 65 = some (nI K.2.2.1) ∧ I' 68 = some (nI K.2.2.2.1) ∧ I' 69 = some (nI K.2.2.2.2.1) ∧ I' 70 = some (b7 K) ∧ I' 72 = some K.2.2.2.2.2))) ∧ (∀ (i p s2 s3 k t : Nat) (bc : Nat) (K : KT) (M1 : mi_H) (I1 : rI) (R1 : rR), (RS g m0 q z I1 R1 M1) → (eqI [66, 47, 48, 65, 67, 68, 69, 70, 71, 72] I I1) → (eqR [] R R1) → (I1 51 = some 0) → (I1 52 = some (nI N)) → (I1 53 = some (nI mj)) → (I1 58 = some (nI fl)) → (I1 71 = some (nI bc)) → (I1 66 = some (nI K.1)) → (I1 65 = some (nI K.2.2.1)) → (I1 68 = some (nI K.2.2.2.1)) → (I1 69 = some (nI K.2.2.2.2.1)) → (I1 70 = some (b7 K)) → (I1 72 = some K.2.2.2.2.2) → (FK n f I1 R1) → (SYT tx cN A I1 R1) → (RPV f n E tx N I1 R1) → (KX I1 R1) → (i < by2 f p1) → (s3 < 2048) → (∀ w, 4 ≤ w → w ≤ 9 → sb s3 w = sb s2 (w + 1)) → (s_atE f e (by2 f p1 - i) p = some e) → (clS f n E fl mj (by2 f p1 - i) p s2 bc = clS f n E fl mj (by2 f p1) (p1 + 2) 0 0) → (clU f n E mj (by2 f p1 - i) p K = clU f n E mj (by2 f p1) (p1 + 2) (0, 0, 0, 0, 0, -1)) → (K.1 ≤ i) → (k ≤ 10) → (tg f E (by2 f p) = 1) → (t < tx.length ∧ tx.getD t [] = tX f n E (by2 f p)) →  pl (mT g) kf (mb_187 g).2 (79, [(0, .ref m0), (2, .int 4), (3, .int (nI x)), (4, .int (nI (by2 f p1))), (5, .int (nI p)), (6, .int (nI s3)), (7, .int (nI i)), (8, .int (nI (by4 f (p + 2)))), (9, .int (nI t)), (10, .int (gI (kb mj 4 (tX f n E (by2 f p)) k))), (11, .int (nI k))], [], M1) (fun v M' => (∃ (e9 : Nat × Nat) (I' : rI) (R' : rR), (clS f n E fl mj (by2 f p1) (p1 + 2) 0 0 = .inl e9) ∧ v = some (.int (-1)) ∧ RS g m0 q z I' R' M' ∧ eqI [66, 47, 48, 65, 67, 68, 69, 70, 71, 72] I I' ∧ eqR [] R R' ∧ I' 47 = some (nI e9.1) ∧ I' 48 = some (nI e9.2)) ∨ (∃ (bc : Nat) (K : KT) (I' : rI) (R' : rR), (clS f n E fl mj (by2 f p1) (p1 + 2) 0 0 = .inr bc) ∧ (clU f n E mj (by2 f p1) (p1 + 2) (0, 0, 0, 0, 0, -1) = K) ∧ v = some (.int (nI e)) ∧ RS g m0 q z I' R' M' ∧ eqI [66, 47, 48, 65, 67, 68, 69, 70, 71, 72] I I' ∧ eqR [] R R' ∧ I' 71 = some (nI bc) ∧ I' 66 = some (nI K.1) ∧ I' 65 = some (nI K.2.2.1) ∧ I' 68 = some (nI K.2.2.2.1) ∧ I' 69 = some (nI K.2.2.2.2.1) ∧ I' 70 = some (b7 K) ∧ I' 72 = some K.2.2.2.2.2))) := by
    intro kf
    induction kf with
    | zero => exact ⟨by intros; exact pl_0, by intros; exact pl_0⟩
    | succ kf ih =>
      refine ⟨?_, ?_⟩
      · skip
        intro i p s2 s3 bc K M1 I1 R1 hR1 hEI1 hER1 hl51 hl52 hl53 hl58 hl71 hl66 hl65 hl68 hl69 hl70 hl72 hF1 hY1 hP1 hK1 hi hl hb ha hs9 hu hkn
        have hn := hF1.1
        have hu9 := by2_lt f p1
        have htl := hY1.1.2.2.1
        refine ps_st1 (S' := (20, [(0, .ref m0), (2, .int 4), (3, .int (nI x)), (4, .int (nI (by2 f p1))), (5, .int (nI p)), (6, .int (nI s3)), (7, .int (nI i))], [.int (nI i)], M1)) rfl rfl rfl ?_
        refine ps_st (S' := (22, [(0, .ref m0), (2, .int 4), (3, .int (nI x)), (4, .int (nI (by2 f p1))), (5, .int (nI p)), (6, .int (nI s3)), (7, .int (nI i))], [.int (nI (by2 f p1)), .int (nI i)], M1)) rfl rfl rfl ?_
        refine ps_if2 (S1 := (284, [(0, .ref m0), (2, .int 4), (3, .int (nI x)), (4, .int (nI (by2 f p1))), (5, .int (nI p)), (6, .int (nI s3)), (7, .int (nI i))], [], M1)) (S2 := (25, [(0, .ref m0), (2, .int 4), (3, .int (nI x)), (4, .int (nI (by2 f p1))), (5, .int (nI p)), (6, .int (nI s3)), (7, .int (nI i))], [], M1)) rfl rfl rfl (fun c_22 => ?_) (fun c_22 => ?_)
        · have c_22 : (nI (by2 f p1)) ≤ (nI i) := of_decide_eq_true c_22
          have n_22 : by2 f p1 ≤ i := (le_nI (p := by2 f p1) (n := i) (Nat.lt_trans (by2_lt _ _) (by decide)) (by omega)).mp c_22
          refine ps_st (S' := (286, [(0, .ref m0), (2, .int 4), (3, .int (nI x)), (4, .int (nI (by2 f p1))), (5, .int (nI p)), (6, .int (nI s3)), (7, .int (nI i))], [.int (nI p)], M1)) rfl rfl rfl ?_
          exact ps_reti rfl (Or.inr ⟨bc, K, I1, R1, by rw [← hs9, show by2 f p1 - i = 0 by omega]; rfl, by rw [← hu, show by2 f p1 - i = 0 by omega]; rfl, by rw [show e = p by (rw [show by2 f p1 - i = 0 by omega] at ha; exact (Option.some.inj ha).symm)], hR1, hEI1, hER1, hl71, hl66, hl65, hl68, hl69, hl70, hl72⟩)
        · have c_22 : ¬ ((nI (by2 f p1)) ≤ (nI i)) := of_decide_eq_false c_22
          have n_22 : ¬ (by2 f p1 ≤ i) := fun h9 => c_22 ((le_nI (p := by2 f p1) (n := i) (Nat.lt_trans (by2_lt _ _) (by decide)) (by omega)).mpr h9)
          obtain ⟨hq5, hq6, hq7⟩ := s_atE_in (i := i) (p := p) ha (by omega)
          refine ps_st (S' := (26, [(0, .ref m0), (2, .int 4), (3, .int (nI x)), (4, .int (nI (by2 f p1))), (5, .int (nI p)), (6, .int (nI s3)), (7, .int (nI i))], [.ref m0], M1)) rfl rfl rfl ?_
          refine ps_st (S' := (28, [(0, .ref m0), (2, .int 4), (3, .int (nI x)), (4, .int (nI (by2 f p1))), (5, .int (nI p)), (6, .int (nI s3)), (7, .int (nI i))], [.int (nI p), .ref m0], M1)) rfl rfl rfl ?_
          refine ps_st (S' := (29, [(0, .ref m0), (2, .int 4), (3, .int (nI x)), (4, .int (nI (by2 f p1))), (5, .int (nI p)), (6, .int (nI s3)), (7, .int (nI i))], [.int 2, .int (nI p), .ref m0], M1)) rfl rfl rfl ?_
          refine ps_st (S' := (30, [(0, .ref m0), (2, .int 4), (3, .int (nI x)), (4, .int (nI (by2 f p1))), (5, .int (nI p)), (6, .int (nI s3)), (7, .int (nI i))], [.int ((nI p) + 2), .ref m0], M1)) rfl rfl rfl ?_
          rw [nI_add1 (p := p) (k := 2) (x := 2) rfl (by omega)]
          show pl _ _ _ (_, [(0, .ref m0), (2, .int 4), (3, .int (nI x)), (4, .int (nI (by2 f p1))), (5, .int (nI p)), (6, .int (nI s3)), (7, .int (nI i))], [.int (nI (p + 2)), .ref m0], M1) _
          refine pl_call (a := [.ref m0, .int (nI (p + 2))]) (rest := []) rfl rfl rfl (rd_u4 (n := n) (f := f) (p := (p + 2)) hR1 hF1 (by omega)) (fun v1 M2 q3 => ?_)
          obtain ⟨rfl, rfl⟩ := q3
          show pl _ _ _ (33, [(0, .ref m0), (2, .int 4), (3, .int (nI x)), (4, .int (nI (by2 f p1))), (5, .int (nI p)), (6, .int (nI s3)), (7, .int (nI i))], [.long (nL (by4 f (p + 2)))], M1) _
          have hu_30 := by4_lt f (p + 2)
          refine ps_st (S' := (34, [(0, .ref m0), (2, .int 4), (3, .int (nI x)), (4, .int (nI (by2 f p1))), (5, .int (nI p)), (6, .int (nI s3)), (7, .int (nI i))], [.int (Int64.toInt32 (nL (by4 f (p + 2))))], M1)) rfl rfl rfl ?_
          rw [l2i_nL (p := by4 f (p + 2)) (by omega)]
          show pl _ _ _ (_, [(0, .ref m0), (2, .int 4), (3, .int (nI x)), (4, .int (nI (by2 f p1))), (5, .int (nI p)), (6, .int (nI s3)), (7, .int (nI i))], [.int (nI (by4 f (p + 2)))], M1) _
          refine ps_st (S' := (36, [(8, .int (nI (by4 f (p + 2)))), (0, .ref m0), (2, .int 4), (3, .int (nI x)), (4, .int (nI (by2 f p1))), (5, .int (nI p)), (6, .int (nI s3)), (7, .int (nI i))], [], M1)) rfl rfl rfl ?_
          refine ps_st (S' := (37, [(8, .int (nI (by4 f (p + 2)))), (0, .ref m0), (2, .int 4), (3, .int (nI x)), (4, .int (nI (by2 f p1))), (5, .int (nI p)), (6, .int (nI s3)), (7, .int (nI i))], [.ref m0], M1)) rfl rfl rfl ?_
          refine ps_st (S' := (38, [(8, .int (nI (by4 f (p + 2)))), (0, .ref m0), (2, .int 4), (3, .int (nI x)), (4, .int (nI (by2 f p1))), (5, .int (nI p)), (6, .int (nI s3)), (7, .int (nI i))], [.ref m0, .ref m0], M1)) rfl rfl rfl ?_
          refine ps_st (S' := (40, [(8, .int (nI (by4 f (p + 2)))), (0, .ref m0), (2, .int 4), (3, .int (nI x)), (4, .int (nI (by2 f p1))), (5, .int (nI p)), (6, .int (nI s3)), (7, .int (nI i))], [.int (nI p), .ref m0, .ref m0], M1)) rfl rfl rfl ?_
          refine pl_call (a := [.ref m0, .int (nI p)]) (rest := [.ref m0]) rfl rfl rfl (rd_u2 (n := n) (f := f) (p := p) hR1 hF1 (by omega)) (fun v4 M5 q6 => ?_)
          obtain ⟨rfl, rfl⟩ := q6
          show pl _ _ _ (43, [(8, .int (nI (by4 f (p + 2)))), (0, .ref m0), (2, .int 4), (3, .int (nI x)), (4, .int (nI (by2 f p1))), (5, .int (nI p)), (6, .int (nI s3)), (7, .int (nI i))], [.int (nI (by2 f p)), .ref m0], M1) _
          have hu_40 := by2_lt f p
          refine pl_call (a := [.ref m0, .int (nI (by2 f p))]) (rest := []) rfl rfl rfl (rd_tag (n := n) (f := f) (tx := tx) (cN := cN) (A := A) (N := N) (mj := mj) (E := E) (k := (by2 f p)) hR1 hl51 hl52 hl53 hF1 hY1 hP1 (hEP) (hN) (hmj) (by2_lt _ _)) (fun v7 M8 q9 => ?_)
          obtain ⟨rfl, rfl⟩ := q9
          show pl _ _ _ (46, [(8, .int (nI (by4 f (p + 2)))), (0, .ref m0), (2, .int 4), (3, .int (nI x)), (4, .int (nI (by2 f p1))), (5, .int (nI p)), (6, .int (nI s3)), (7, .int (nI i))], [.int (nI (tg f E (by2 f p)))], M1) _
          have htg_43 := tg_lt f E (by2 f p)
          refine ps_st (S' := (47, [(8, .int (nI (by4 f (p + 2)))), (0, .ref m0), (2, .int 4), (3, .int (nI x)), (4, .int (nI (by2 f p1))), (5, .int (nI p)), (6, .int (nI s3)), (7, .int (nI i))], [.int 1, .int (nI (tg f E (by2 f p)))], M1)) rfl rfl rfl ?_
          refine ps_if2 (S1 := (61, [(8, .int (nI (by4 f (p + 2)))), (0, .ref m0), (2, .int 4), (3, .int (nI x)), (4, .int (nI (by2 f p1))), (5, .int (nI p)), (6, .int (nI s3)), (7, .int (nI i))], [], M1)) (S2 := (50, [(8, .int (nI (by4 f (p + 2)))), (0, .ref m0), (2, .int 4), (3, .int (nI x)), (4, .int (nI (by2 f p1))), (5, .int (nI p)), (6, .int (nI s3)), (7, .int (nI i))], [], M1)) rfl rfl rfl (fun c_47 => ?_) (fun c_47 => ?_)
          · have c_47 : (nI (tg f E (by2 f p))) = 1 := of_decide_eq_true c_47
            have n_47 : tg f E (by2 f p) = 1 := (eq_nI (p := tg f E (by2 f p)) (n := 1) (Nat.lt_trans (tg_lt _ _ _) (by decide)) (by decide)).mp c_47
            refine ps_st (S' := (62, [(8, .int (nI (by4 f (p + 2)))), (0, .ref m0), (2, .int 4), (3, .int (nI x)), (4, .int (nI (by2 f p1))), (5, .int (nI p)), (6, .int (nI s3)), (7, .int (nI i))], [.ref m0], M1)) rfl rfl rfl ?_
            refine ps_st (S' := (63, [(8, .int (nI (by4 f (p + 2)))), (0, .ref m0), (2, .int 4), (3, .int (nI x)), (4, .int (nI (by2 f p1))), (5, .int (nI p)), (6, .int (nI s3)), (7, .int (nI i))], [.ref m0, .ref m0], M1)) rfl rfl rfl ?_
            refine ps_st (S' := (65, [(8, .int (nI (by4 f (p + 2)))), (0, .ref m0), (2, .int 4), (3, .int (nI x)), (4, .int (nI (by2 f p1))), (5, .int (nI p)), (6, .int (nI s3)), (7, .int (nI i))], [.int (nI p), .ref m0, .ref m0], M1)) rfl rfl rfl ?_
            refine pl_call (a := [.ref m0, .int (nI p)]) (rest := [.ref m0]) rfl rfl rfl (rd_u2 (n := n) (f := f) (p := p) hR1 hF1 (by omega)) (fun v10 M11 q12 => ?_)
            obtain ⟨rfl, rfl⟩ := q12
            show pl _ _ _ (68, [(8, .int (nI (by4 f (p + 2)))), (0, .ref m0), (2, .int 4), (3, .int (nI x)), (4, .int (nI (by2 f p1))), (5, .int (nI p)), (6, .int (nI s3)), (7, .int (nI i))], [.int (nI (by2 f p)), .ref m0], M1) _
            have hu_65 := by2_lt f p
            refine pl_call (a := [.ref m0, .int (nI (by2 f p))]) (rest := []) rfl rfl rfl (rd_symOf (n := n) (f := f) (tx := tx) (cN := cN) (A := A) (N := N) (mj := mj) (E := E) (k := (by2 f p)) hR1 hl51 hl52 hl53 hF1 hY1 hP1 (hEP) (hN) (hmj) (by omega)) (fun v13 M14 q15 => ?_)
            obtain ⟨s16, q68_s, rfl, rfl⟩ := q15
            show pl _ _ _ (71, [(8, .int (nI (by4 f (p + 2)))), (0, .ref m0), (2, .int 4), (3, .int (nI x)), (4, .int (nI (by2 f p1))), (5, .int (nI p)), (6, .int (nI s3)), (7, .int (nI i))], [.int (nI s16)], M1) _
            have hsl_68 := q68_s.1
            have htl_68 := hY1.1.2.2.1
            refine ps_st (S' := (73, [(9, .int (nI s16)), (8, .int (nI (by4 f (p + 2)))), (0, .ref m0), (2, .int 4), (3, .int (nI x)), (4, .int (nI (by2 f p1))), (5, .int (nI p)), (6, .int (nI s3)), (7, .int (nI i))], [], M1)) rfl rfl rfl ?_
            refine ps_st (S' := (74, [(9, .int (nI s16)), (8, .int (nI (by4 f (p + 2)))), (0, .ref m0), (2, .int 4), (3, .int (nI x)), (4, .int (nI (by2 f p1))), (5, .int (nI p)), (6, .int (nI s3)), (7, .int (nI i))], [.int (-1)], M1)) rfl rfl rfl ?_
            refine ps_st (S' := (76, [(10, .int (-1)), (9, .int (nI s16)), (8, .int (nI (by4 f (p + 2)))), (0, .ref m0), (2, .int 4), (3, .int (nI x)), (4, .int (nI (by2 f p1))), (5, .int (nI p)), (6, .int (nI s3)), (7, .int (nI i))], [], M1)) rfl rfl rfl ?_
            refine ps_st (S' := (77, [(10, .int (-1)), (9, .int (nI s16)), (8, .int (nI (by4 f (p + 2)))), (0, .ref m0), (2, .int 4), (3, .int (nI x)), (4, .int (nI (by2 f p1))), (5, .int (nI p)), (6, .int (nI s3)), (7, .int (nI i))], [.int 0], M1)) rfl rfl rfl ?_
            refine ps_st (S' := (79, [(0, .ref m0), (2, .int 4), (3, .int (nI x)), (4, .int (nI (by2 f p1))), (5, .int (nI p)), (6, .int (nI s3)), (7, .int (nI i)), (8, .int (nI (by4 f (p + 2)))), (9, .int (nI s16)), (10, .int (-1)), (11, .int 0)], [], M1)) rfl rfl rfl ?_
            exact ih.2 (i) (p) (s2) (s3) (0) (s16) (bc) (K) M1 I1 R1 hR1 hEI1 hER1 hl51 hl52 hl53 hl58 hl71 hl66 hl65 hl68 hl69 hl70 hl72 hF1 hY1 hP1 hK1 (by omega) (hl) (hb) (ha) (hs9) (hu) (hkn) (by omega) (by omega) (q68_s)
          · have c_47 : ¬ ((nI (tg f E (by2 f p))) = 1) := of_decide_eq_false c_47
            have n_47 : ¬ (tg f E (by2 f p) = 1) := fun h9 => c_47 ((eq_nI (p := tg f E (by2 f p)) (n := 1) (Nat.lt_trans (tg_lt _ _ _) (by decide)) (by decide)).mpr h9)
            refine ps_st (S' := (51, [(8, .int (nI (by4 f (p + 2)))), (0, .ref m0), (2, .int 4), (3, .int (nI x)), (4, .int (nI (by2 f p1))), (5, .int (nI p)), (6, .int (nI s3)), (7, .int (nI i))], [.ref m0], M1)) rfl rfl rfl ?_
            refine ps_st (S' := (53, [(8, .int (nI (by4 f (p + 2)))), (0, .ref m0), (2, .int 4), (3, .int (nI x)), (4, .int (nI (by2 f p1))), (5, .int (nI p)), (6, .int (nI s3)), (7, .int (nI i))], [.int 28, .ref m0], M1)) rfl rfl rfl ?_
            refine ps_st (S' := (55, [(8, .int (nI (by4 f (p + 2)))), (0, .ref m0), (2, .int 4), (3, .int (nI x)), (4, .int (nI (by2 f p1))), (5, .int (nI p)), (6, .int (nI s3)), (7, .int (nI i))], [.int (nI p), .int 28, .ref m0], M1)) rfl rfl rfl ?_
            refine pl_call (a := [.ref m0, .int 28, .int (nI p)]) (rest := []) rfl rfl rfl (rd_wrong (x1 := 28) (x2 := (nI p)) hR1) (fun v17 M18 q19 => ?_)
            obtain ⟨I20, R21, rfl, hR22, hI23, hX24, hi25, hi26⟩ := q19
            have hi27 := (hI23 51 (by decide)).trans hl51
            have hi28 := (hI23 52 (by decide)).trans hl52
            have hi29 := (hI23 53 (by decide)).trans hl53
            have hi30 := (hI23 58 (by decide)).trans hl58
            have hi31 := (hI23 71 (by decide)).trans hl71
            have hi32 := (hI23 66 (by decide)).trans hl66
            have hi33 := (hI23 65 (by decide)).trans hl65
            have hi34 := (hI23 68 (by decide)).trans hl68
            have hi35 := (hI23 69 (by decide)).trans hl69
            have hi36 := (hI23 70 (by decide)).trans hl70
            have hi37 := (hI23 72 (by decide)).trans hl72
            have hF_38 := hF1.mono (cIx hI23 (by decide)) (cRx hX24 (by decide))
            have hY_39 := hY1.mono (cIx hI23 (by decide)) (cRx hX24 (by decide))
            have hP_40 := hP1.mono (cIx hI23 (by decide)) (cRx hX24 (by decide))
            have hK_41 := hK1.mono (cIx hI23 (by decide)) (cRx hX24 (by decide))
            have hEI42 := hEI1.tr hI23 (by decide)
            have hER43 := hER1.tr hX24 (by decide)
            show pl _ _ _ (58, [(8, .int (nI (by4 f (p + 2)))), (0, .ref m0), (2, .int 4), (3, .int (nI x)), (4, .int (nI (by2 f p1))), (5, .int (nI p)), (6, .int (nI s3)), (7, .int (nI i))], [.int 0], M18) _
            refine ps_st (S' := (59, [(8, .int (nI (by4 f (p + 2)))), (0, .ref m0), (2, .int 4), (3, .int (nI x)), (4, .int (nI (by2 f p1))), (5, .int (nI p)), (6, .int (nI s3)), (7, .int (nI i))], [], M18)) rfl rfl rfl ?_
            refine ps_st (S' := (60, [(8, .int (nI (by4 f (p + 2)))), (0, .ref m0), (2, .int 4), (3, .int (nI x)), (4, .int (nI (by2 f p1))), (5, .int (nI p)), (6, .int (nI s3)), (7, .int (nI i))], [.int (-1)], M18)) rfl rfl rfl ?_
            exact ps_ret rfl rfl (Or.inl ⟨(28, p), I20, R21, by
                rw [← hs9, clS_28 (i := i) (p := p) (s := s2) (by omega) (by omega)], rfl, hR22, hEI42, hER43, hi25, hi26⟩)
      · skip
        intro i p s2 s3 k t bc K M1 I1 R1 hR1 hEI1 hER1 hl51 hl52 hl53 hl58 hl71 hl66 hl65 hl68 hl69 hl70 hl72 hF1 hY1 hP1 hK1 hi0 hl hb ha hs9 hu hkn hk h1 hsy
        have hn := hF1.1
        have hu9 := by2_lt f p1
        have htl := hY1.1.2.2.1
        obtain ⟨hq5, hq6, hq7⟩ := s_atE_in (i := i) (p := p) ha hi0
        refine ps_st1 (S' := (81, [(0, .ref m0), (2, .int 4), (3, .int (nI x)), (4, .int (nI (by2 f p1))), (5, .int (nI p)), (6, .int (nI s3)), (7, .int (nI i)), (8, .int (nI (by4 f (p + 2)))), (9, .int (nI t)), (10, .int (gI (kb mj 4 (tX f n E (by2 f p)) k))), (11, .int (nI k))], [.int (nI k)], M1)) rfl rfl rfl ?_
        refine ps_st (S' := (82, [(0, .ref m0), (2, .int 4), (3, .int (nI x)), (4, .int (nI (by2 f p1))), (5, .int (nI p)), (6, .int (nI s3)), (7, .int (nI i)), (8, .int (nI (by4 f (p + 2)))), (9, .int (nI t)), (10, .int (gI (kb mj 4 (tX f n E (by2 f p)) k))), (11, .int (nI k))], [.ref m0, .int (nI k)], M1)) rfl rfl rfl ?_
        refine pr_ref (j := 62) (S' := (85, [(0, .ref m0), (2, .int 4), (3, .int (nI x)), (4, .int (nI (by2 f p1))), (5, .int (nI p)), (6, .int (nI s3)), (7, .int (nI i)), (8, .int (nI (by4 f (p + 2)))), (9, .int (nI t)), (10, .int (gI (kb mj 4 (tX f n E (by2 f p)) k))), (11, .int (nI k))], [.ref (q 62), .int (nI k)], M1)) rfl hR1 rfl rfl ?_
        refine pr_knl (S' := (86, [(0, .ref m0), (2, .int 4), (3, .int (nI x)), (4, .int (nI (by2 f p1))), (5, .int (nI p)), (6, .int (nI s3)), (7, .int (nI i)), (8, .int (nI (by4 f (p + 2)))), (9, .int (nI t)), (10, .int (gI (kb mj 4 (tX f n E (by2 f p)) k))), (11, .int (nI k))], [.int (nI 10), .int (nI k)], M1)) rfl hR1 rfl ?_
        refine ps_if2 (S1 := (140, [(0, .ref m0), (2, .int 4), (3, .int (nI x)), (4, .int (nI (by2 f p1))), (5, .int (nI p)), (6, .int (nI s3)), (7, .int (nI i)), (8, .int (nI (by4 f (p + 2)))), (9, .int (nI t)), (10, .int (gI (kb mj 4 (tX f n E (by2 f p)) k))), (11, .int (nI k))], [], M1)) (S2 := (89, [(0, .ref m0), (2, .int 4), (3, .int (nI x)), (4, .int (nI (by2 f p1))), (5, .int (nI p)), (6, .int (nI s3)), (7, .int (nI i)), (8, .int (nI (by4 f (p + 2)))), (9, .int (nI t)), (10, .int (gI (kb mj 4 (tX f n E (by2 f p)) k))), (11, .int (nI k))], [], M1)) rfl rfl rfl (fun c_86 => ?_) (fun c_86 => ?_)
        · have c_86 : (nI 10) ≤ (nI k) := of_decide_eq_true c_86
          have n_86 : 10 ≤ k := (le_nI (p := 10) (n := k) (by decide) (by omega)).mp c_86
          have ek : k = 10 := by omega
          refine ps_st (S' := (142, [(0, .ref m0), (2, .int 4), (3, .int (nI x)), (4, .int (nI (by2 f p1))), (5, .int (nI p)), (6, .int (nI s3)), (7, .int (nI i)), (8, .int (nI (by4 f (p + 2)))), (9, .int (nI t)), (10, .int (gI (kb mj 4 (tX f n E (by2 f p)) k))), (11, .int (nI k))], [.int (gI (kb mj 4 (tX f n E (by2 f p)) k))], M1)) rfl rfl rfl ?_
          refine ps_if (S1 := (268, [(0, .ref m0), (2, .int 4), (3, .int (nI x)), (4, .int (nI (by2 f p1))), (5, .int (nI p)), (6, .int (nI s3)), (7, .int (nI i)), (8, .int (nI (by4 f (p + 2))))], [], M1)) (S2 := (145, [(0, .ref m0), (2, .int 4), (3, .int (nI x)), (4, .int (nI (by2 f p1))), (5, .int (nI p)), (6, .int (nI s3)), (7, .int (nI i)), (8, .int (nI (by4 f (p + 2)))), (9, .int (nI t)), (10, .int (gI (kb mj 4 (tX f n E (by2 f p)) k))), (11, .int (nI k))], [], M1)) rfl rfl rfl (fun c_142 => ?_) (fun c_142 => ?_)
          · have c_142 : (gI (kb mj 4 (tX f n E (by2 f p)) k)) < 0 := of_decide_eq_true c_142
            rw [ek] at c_142
            have hsm := ck_n c_142
            refine ps_st (S' := (270, [(0, .ref m0), (2, .int 4), (3, .int (nI x)), (4, .int (nI (by2 f p1))), (5, .int (nI p)), (6, .int (nI s3)), (7, .int (nI i)), (8, .int (nI (by4 f (p + 2))))], [.int (nI p)], M1)) rfl rfl rfl ?_
            refine ps_st (S' := (272, [(0, .ref m0), (2, .int 4), (3, .int (nI x)), (4, .int (nI (by2 f p1))), (5, .int (nI p)), (6, .int (nI s3)), (7, .int (nI i)), (8, .int (nI (by4 f (p + 2))))], [.int 6, .int (nI p)], M1)) rfl rfl rfl ?_
            refine ps_st (S' := (274, [(0, .ref m0), (2, .int 4), (3, .int (nI x)), (4, .int (nI (by2 f p1))), (5, .int (nI p)), (6, .int (nI s3)), (7, .int (nI i)), (8, .int (nI (by4 f (p + 2))))], [.int (nI (by4 f (p + 2))), .int 6, .int (nI p)], M1)) rfl rfl rfl ?_
            refine ps_st (S' := (275, [(0, .ref m0), (2, .int 4), (3, .int (nI x)), (4, .int (nI (by2 f p1))), (5, .int (nI p)), (6, .int (nI s3)), (7, .int (nI i)), (8, .int (nI (by4 f (p + 2))))], [.int (6 + (nI (by4 f (p + 2)))), .int (nI p)], M1)) rfl rfl rfl ?_
            rw [nI_add2 (p := 6) (k := by4 f (p + 2)) (x := 6) (y := (nI (by4 f (p + 2)))) rfl rfl (by omega)]
            show pl _ _ _ (_, [(0, .ref m0), (2, .int 4), (3, .int (nI x)), (4, .int (nI (by2 f p1))), (5, .int (nI p)), (6, .int (nI s3)), (7, .int (nI i)), (8, .int (nI (by4 f (p + 2))))], [.int (nI (6 + by4 f (p + 2))), .int (nI p)], M1) _
            refine ps_st (S' := (276, [(0, .ref m0), (2, .int 4), (3, .int (nI x)), (4, .int (nI (by2 f p1))), (5, .int (nI p)), (6, .int (nI s3)), (7, .int (nI i)), (8, .int (nI (by4 f (p + 2))))], [.int ((nI p) + (nI (6 + by4 f (p + 2))))], M1)) rfl rfl rfl ?_
            rw [nI_add1 (p := p) (k := 6 + by4 f (p + 2)) (x := (nI (6 + by4 f (p + 2)))) rfl (by omega)]
            rw [show nI (p + (6 + by4 f (p + 2))) = nI (p + 6 + by4 f (p + 2)) from congrArg nI (by omega)]
            show pl _ _ _ (_, [(0, .ref m0), (2, .int 4), (3, .int (nI x)), (4, .int (nI (by2 f p1))), (5, .int (nI p)), (6, .int (nI s3)), (7, .int (nI i)), (8, .int (nI (by4 f (p + 2))))], [.int (nI (p + 6 + by4 f (p + 2)))], M1) _
            refine ps_st (S' := (278, [(5, .int (nI (p + 6 + by4 f (p + 2)))), (0, .ref m0), (2, .int 4), (3, .int (nI x)), (4, .int (nI (by2 f p1))), (6, .int (nI s3)), (7, .int (nI i)), (8, .int (nI (by4 f (p + 2))))], [], M1)) rfl rfl rfl ?_
            refine ps_st (S' := (281, [(7, .int ((nI i) + 1)), (5, .int (nI (p + 6 + by4 f (p + 2)))), (0, .ref m0), (2, .int 4), (3, .int (nI x)), (4, .int (nI (by2 f p1))), (6, .int (nI s3)), (8, .int (nI (by4 f (p + 2))))], [], M1)) rfl rfl rfl ?_
            rw [nI_add1 (p := i) (k := 1) (x := 1) rfl (by omega)]
            show pl _ _ _ (_, [(7, .int (nI (i + 1))), (5, .int (nI (p + 6 + by4 f (p + 2)))), (0, .ref m0), (2, .int 4), (3, .int (nI x)), (4, .int (nI (by2 f p1))), (6, .int (nI s3)), (8, .int (nI (by4 f (p + 2))))], [], M1) _
            refine ps_st (S' := (18, [(0, .ref m0), (2, .int 4), (3, .int (nI x)), (4, .int (nI (by2 f p1))), (5, .int (nI (p + 6 + by4 f (p + 2)))), (6, .int (nI s3)), (7, .int (nI (i + 1)))], [], M1)) rfl rfl rfl ?_
            exact ih.1 (i + 1) (p + 6 + by4 f (p + 2)) (s2) (s3) (bc) (K) M1 I1 R1 hR1 hEI1 hER1 hl51 hl52 hl53 hl58 hl71 hl66 hl65 hl68 hl69 hl70 hl72 hF1 hY1 hP1 hK1 (by omega) (hl) (hb) (hq7) (by
                rw [← hs9, clS_u (i := i) (p := p) (s := s2) hi0 h1 hsm]) (by
                rw [← hu, clU_st (i := i) hi0, hsm, stU_0]) (by omega)
          · have c_142 : ¬ ((gI (kb mj 4 (tX f n E (by2 f p)) k)) < 0) := of_decide_eq_false c_142
            rw [ek] at c_142
            obtain ⟨w, hw1, hw2, hsm⟩ := ck_y c_142
            have hws := hb w hw2.1 hw2.2
            have hb2 := sb_lt s3 w
            rw [show gI (kb mj 4 (tX f n E (by2 f p)) k) = nI w by rw [ek, hw1]; rfl]
            show pl _ _ _ (145, [(0, .ref m0), (2, .int 4), (3, .int (nI x)), (4, .int (nI (by2 f p1))), (5, .int (nI p)), (6, .int (nI s3)), (7, .int (nI i)), (8, .int (nI (by4 f (p + 2)))), (9, .int (nI t)), (10, .int (nI w)), (11, .int (nI k))], [], M1) _
            refine ps_st (S' := (146, [(0, .ref m0), (2, .int 4), (3, .int (nI x)), (4, .int (nI (by2 f p1))), (5, .int (nI p)), (6, .int (nI s3)), (7, .int (nI i)), (8, .int (nI (by4 f (p + 2)))), (9, .int (nI t)), (10, .int (nI w)), (11, .int (nI k))], [.int 4], M1)) rfl rfl rfl ?_
            refine ps_st (S' := (147, [(0, .ref m0), (2, .int 4), (3, .int (nI x)), (4, .int (nI (by2 f p1))), (5, .int (nI p)), (6, .int (nI s3)), (7, .int (nI i)), (8, .int (nI (by4 f (p + 2)))), (9, .int (nI t)), (10, .int (nI w)), (11, .int (nI k))], [.int 1, .int 4], M1)) rfl rfl rfl ?_
            refine ps_if2 (S1 := (160, [(0, .ref m0), (2, .int 4), (3, .int (nI x)), (4, .int (nI (by2 f p1))), (5, .int (nI p)), (6, .int (nI s3)), (7, .int (nI i)), (8, .int (nI (by4 f (p + 2)))), (10, .int (nI w))], [], M1)) (S2 := (150, [(0, .ref m0), (2, .int 4), (3, .int (nI x)), (4, .int (nI (by2 f p1))), (5, .int (nI p)), (6, .int (nI s3)), (7, .int (nI i)), (8, .int (nI (by4 f (p + 2)))), (9, .int (nI t)), (10, .int (nI w)), (11, .int (nI k))], [], M1)) rfl rfl rfl (fun c_147 => ?_) (fun c_147 => ?_)
            rotate_left
            · exact absurd (by decide) (of_decide_eq_false c_147)
            refine ps_st (S' := (161, [(0, .ref m0), (2, .int 4), (3, .int (nI x)), (4, .int (nI (by2 f p1))), (5, .int (nI p)), (6, .int (nI s3)), (7, .int (nI i)), (8, .int (nI (by4 f (p + 2)))), (10, .int (nI w))], [.int 4], M1)) rfl rfl rfl ?_
            refine ps_st (S' := (162, [(0, .ref m0), (2, .int 4), (3, .int (nI x)), (4, .int (nI (by2 f p1))), (5, .int (nI p)), (6, .int (nI s3)), (7, .int (nI i)), (8, .int (nI (by4 f (p + 2)))), (10, .int (nI w))], [.int 2, .int 4], M1)) rfl rfl rfl ?_
            refine ps_if2 (S1 := (175, [(0, .ref m0), (2, .int 4), (3, .int (nI x)), (4, .int (nI (by2 f p1))), (5, .int (nI p)), (6, .int (nI s3)), (7, .int (nI i)), (8, .int (nI (by4 f (p + 2)))), (10, .int (nI w))], [], M1)) (S2 := (165, [(0, .ref m0), (2, .int 4), (3, .int (nI x)), (4, .int (nI (by2 f p1))), (5, .int (nI p)), (6, .int (nI s3)), (7, .int (nI i)), (8, .int (nI (by4 f (p + 2)))), (10, .int (nI w))], [], M1)) rfl rfl rfl (fun c_162 => ?_) (fun c_162 => ?_)
            rotate_left
            · exact absurd (by decide) (of_decide_eq_false c_162)
            refine ps_st (S' := (176, [(0, .ref m0), (2, .int 4), (3, .int (nI x)), (4, .int (nI (by2 f p1))), (5, .int (nI p)), (6, .int (nI s3)), (7, .int (nI i)), (8, .int (nI (by4 f (p + 2)))), (10, .int (nI w))], [.int 4], M1)) rfl rfl rfl ?_
            refine ps_st (S' := (177, [(0, .ref m0), (2, .int 4), (3, .int (nI x)), (4, .int (nI (by2 f p1))), (5, .int (nI p)), (6, .int (nI s3)), (7, .int (nI i)), (8, .int (nI (by4 f (p + 2)))), (10, .int (nI w))], [.int 4, .int 4], M1)) rfl rfl rfl ?_
            refine ps_if2 (S1 := (190, [(0, .ref m0), (2, .int 4), (3, .int (nI x)), (4, .int (nI (by2 f p1))), (5, .int (nI p)), (6, .int (nI s3)), (7, .int (nI i)), (8, .int (nI (by4 f (p + 2)))), (10, .int (nI w))], [], M1)) (S2 := (180, [(0, .ref m0), (2, .int 4), (3, .int (nI x)), (4, .int (nI (by2 f p1))), (5, .int (nI p)), (6, .int (nI s3)), (7, .int (nI i)), (8, .int (nI (by4 f (p + 2)))), (10, .int (nI w))], [], M1)) rfl rfl rfl (fun c_177 => ?_) (fun c_177 => ?_)
            · exact absurd (of_decide_eq_true c_177) (by decide)
            refine ps_st (S' := (181, [(0, .ref m0), (2, .int 4), (3, .int (nI x)), (4, .int (nI (by2 f p1))), (5, .int (nI p)), (6, .int (nI s3)), (7, .int (nI i)), (8, .int (nI (by4 f (p + 2)))), (10, .int (nI w))], [.ref m0], M1)) rfl rfl rfl ?_
            refine ps_st (S' := (182, [(0, .ref m0), (2, .int 4), (3, .int (nI x)), (4, .int (nI (by2 f p1))), (5, .int (nI p)), (6, .int (nI s3)), (7, .int (nI i)), (8, .int (nI (by4 f (p + 2)))), (10, .int (nI w))], [.ref m0, .ref m0], M1)) rfl rfl rfl ?_
            refine pr_int (j := 66) (S' := (185, [(0, .ref m0), (2, .int 4), (3, .int (nI x)), (4, .int (nI (by2 f p1))), (5, .int (nI p)), (6, .int (nI s3)), (7, .int (nI i)), (8, .int (nI (by4 f (p + 2)))), (10, .int (nI w))], [.int (nI K.1), .ref m0], M1)) rfl hR1 rfl hl66 rfl ?_
            refine ps_st (S' := (186, [(0, .ref m0), (2, .int 4), (3, .int (nI x)), (4, .int (nI (by2 f p1))), (5, .int (nI p)), (6, .int (nI s3)), (7, .int (nI i)), (8, .int (nI (by4 f (p + 2)))), (10, .int (nI w))], [.int 1, .int (nI K.1), .ref m0], M1)) rfl rfl rfl ?_
            refine ps_st (S' := (187, [(0, .ref m0), (2, .int 4), (3, .int (nI x)), (4, .int (nI (by2 f p1))), (5, .int (nI p)), (6, .int (nI s3)), (7, .int (nI i)), (8, .int (nI (by4 f (p + 2)))), (10, .int (nI w))], [.int ((nI K.1) + 1), .ref m0], M1)) rfl rfl rfl ?_
            rw [nI_add1 (p := K.1) (k := 1) (x := 1) rfl (by omega)]
            show pl _ _ _ (_, [(0, .ref m0), (2, .int 4), (3, .int (nI x)), (4, .int (nI (by2 f p1))), (5, .int (nI p)), (6, .int (nI s3)), (7, .int (nI i)), (8, .int (nI (by4 f (p + 2)))), (10, .int (nI w))], [.int (nI (K.1 + 1)), .ref m0], M1) _
            refine pr_put (j := 66) rfl hR1 rfl (fun M44 I45 hR46 hi47 hI48 => ?_)
            have hi49 := (hI48 51 (by decide)).trans hl51
            have hi50 := (hI48 52 (by decide)).trans hl52
            have hi54 := (hI48 53 (by decide)).trans hl53
            have hi55 := (hI48 58 (by decide)).trans hl58
            have hi56 := (hI48 71 (by decide)).trans hl71
            have hi57 := (hI48 65 (by decide)).trans hl65
            have hi59 := (hI48 68 (by decide)).trans hl68
            have hi60 := (hI48 69 (by decide)).trans hl69
            have hi61 := (hI48 70 (by decide)).trans hl70
            have hi62 := (hI48 72 (by decide)).trans hl72
            have hF_63 := hF1.mono (pIx hI48 (by decide)) (fun _ _ => rfl)
            have hY_64 := hY1.mono (pIx hI48 (by decide)) (fun _ _ => rfl)
            have hP_65 := hP1.mono (pIx hI48 (by decide)) (fun _ _ => rfl)
            have hK_66 := hK1.mono (pIx hI48 (by decide)) (fun _ _ => rfl)
            have hEI67 := hEI1.put hI48 (by decide)
            show pl _ _ _ (190, [(0, .ref m0), (2, .int 4), (3, .int (nI x)), (4, .int (nI (by2 f p1))), (5, .int (nI p)), (6, .int (nI s3)), (7, .int (nI i)), (8, .int (nI (by4 f (p + 2)))), (10, .int (nI w))], [], M44) _
            refine ps_st (S' := (192, [(0, .ref m0), (2, .int 4), (3, .int (nI x)), (4, .int (nI (by2 f p1))), (5, .int (nI p)), (6, .int (nI s3)), (7, .int (nI i)), (8, .int (nI (by4 f (p + 2)))), (10, .int (nI w))], [.int (nI s3)], M44)) rfl rfl rfl ?_
            refine ps_st (S' := (194, [(0, .ref m0), (2, .int 4), (3, .int (nI x)), (4, .int (nI (by2 f p1))), (5, .int (nI p)), (6, .int (nI s3)), (7, .int (nI i)), (8, .int (nI (by4 f (p + 2)))), (10, .int (nI w))], [.int (nI w), .int (nI s3)], M44)) rfl rfl rfl ?_
            refine ps_st (S' := (195, [(0, .ref m0), (2, .int 4), (3, .int (nI x)), (4, .int (nI (by2 f p1))), (5, .int (nI p)), (6, .int (nI s3)), (7, .int (nI i)), (8, .int (nI (by4 f (p + 2)))), (10, .int (nI w))], [.int ((nI s3) >>> ((nI w) &&& 31))], M44)) rfl rfl rfl ?_
            refine ps_st (S' := (196, [(0, .ref m0), (2, .int 4), (3, .int (nI x)), (4, .int (nI (by2 f p1))), (5, .int (nI p)), (6, .int (nI s3)), (7, .int (nI i)), (8, .int (nI (by4 f (p + 2)))), (10, .int (nI w))], [.int 1, .int ((nI s3) >>> ((nI w) &&& 31))], M44)) rfl rfl rfl ?_
            refine ps_st (S' := (197, [(0, .ref m0), (2, .int 4), (3, .int (nI x)), (4, .int (nI (by2 f p1))), (5, .int (nI p)), (6, .int (nI s3)), (7, .int (nI i)), (8, .int (nI (by4 f (p + 2)))), (10, .int (nI w))], [.int (((nI s3) >>> ((nI w) &&& 31)) &&& 1)], M44)) rfl rfl rfl ?_
            rw [shr_k s3 (by omega) w (by omega)]
            show pl _ _ _ (_, [(0, .ref m0), (2, .int 4), (3, .int (nI x)), (4, .int (nI (by2 f p1))), (5, .int (nI p)), (6, .int (nI s3)), (7, .int (nI i)), (8, .int (nI (by4 f (p + 2)))), (10, .int (nI w))], [.int (nI (sb s3 w))], M44) _
            refine ps_st (S' := (198, [(0, .ref m0), (2, .int 4), (3, .int (nI x)), (4, .int (nI (by2 f p1))), (5, .int (nI p)), (6, .int (nI s3)), (7, .int (nI i)), (8, .int (nI (by4 f (p + 2)))), (10, .int (nI w))], [.int 1, .int (nI (sb s3 w))], M44)) rfl rfl rfl ?_
            refine ps_if2 (S1 := (212, [(0, .ref m0), (2, .int 4), (3, .int (nI x)), (4, .int (nI (by2 f p1))), (5, .int (nI p)), (6, .int (nI s3)), (7, .int (nI i)), (8, .int (nI (by4 f (p + 2)))), (10, .int (nI w))], [], M44)) (S2 := (201, [(0, .ref m0), (2, .int 4), (3, .int (nI x)), (4, .int (nI (by2 f p1))), (5, .int (nI p)), (6, .int (nI s3)), (7, .int (nI i)), (8, .int (nI (by4 f (p + 2)))), (10, .int (nI w))], [], M44)) rfl rfl rfl (fun c_198 => ?_) (fun c_198 => ?_)
            · have c_198 : ¬ (nI (sb s3 w)) = 1 := of_decide_eq_true c_198
              have n_198 : ¬ (sb s3 w = 1) := fun h9 => c_198 ((eq_nI (p := sb s3 w) (n := 1) (Nat.lt_trans (sb_lt _ _) (by decide)) (by decide)).mpr h9)
              refine ps_st (S' := (213, [(0, .ref m0), (2, .int 4), (3, .int (nI x)), (4, .int (nI (by2 f p1))), (5, .int (nI p)), (6, .int (nI s3)), (7, .int (nI i)), (8, .int (nI (by4 f (p + 2)))), (10, .int (nI w))], [.ref m0], M44)) rfl rfl rfl ?_
              refine ps_st (S' := (215, [(0, .ref m0), (2, .int 4), (3, .int (nI x)), (4, .int (nI (by2 f p1))), (5, .int (nI p)), (6, .int (nI s3)), (7, .int (nI i)), (8, .int (nI (by4 f (p + 2)))), (10, .int (nI w))], [.int (nI w), .ref m0], M44)) rfl rfl rfl ?_
              refine ps_st (S' := (217, [(0, .ref m0), (2, .int 4), (3, .int (nI x)), (4, .int (nI (by2 f p1))), (5, .int (nI p)), (6, .int (nI s3)), (7, .int (nI i)), (8, .int (nI (by4 f (p + 2)))), (10, .int (nI w))], [.int (nI p), .int (nI w), .ref m0], M44)) rfl rfl rfl ?_
              refine ps_st (S' := (219, [(0, .ref m0), (2, .int 4), (3, .int (nI x)), (4, .int (nI (by2 f p1))), (5, .int (nI p)), (6, .int (nI s3)), (7, .int (nI i)), (8, .int (nI (by4 f (p + 2)))), (10, .int (nI w))], [.int (nI p), .int (nI p), .int (nI w), .ref m0], M44)) rfl rfl rfl ?_
              refine ps_st (S' := (221, [(0, .ref m0), (2, .int 4), (3, .int (nI x)), (4, .int (nI (by2 f p1))), (5, .int (nI p)), (6, .int (nI s3)), (7, .int (nI i)), (8, .int (nI (by4 f (p + 2)))), (10, .int (nI w))], [.int 6, .int (nI p), .int (nI p), .int (nI w), .ref m0], M44)) rfl rfl rfl ?_
              refine ps_st (S' := (222, [(0, .ref m0), (2, .int 4), (3, .int (nI x)), (4, .int (nI (by2 f p1))), (5, .int (nI p)), (6, .int (nI s3)), (7, .int (nI i)), (8, .int (nI (by4 f (p + 2)))), (10, .int (nI w))], [.int ((nI p) + 6), .int (nI p), .int (nI w), .ref m0], M44)) rfl rfl rfl ?_
              rw [nI_add1 (p := p) (k := 6) (x := 6) rfl (by omega)]
              show pl _ _ _ (_, [(0, .ref m0), (2, .int 4), (3, .int (nI x)), (4, .int (nI (by2 f p1))), (5, .int (nI p)), (6, .int (nI s3)), (7, .int (nI i)), (8, .int (nI (by4 f (p + 2)))), (10, .int (nI w))], [.int (nI (p + 6)), .int (nI p), .int (nI w), .ref m0], M44) _
              refine ps_st (S' := (224, [(0, .ref m0), (2, .int 4), (3, .int (nI x)), (4, .int (nI (by2 f p1))), (5, .int (nI p)), (6, .int (nI s3)), (7, .int (nI i)), (8, .int (nI (by4 f (p + 2)))), (10, .int (nI w))], [.int (nI p), .int (nI (p + 6)), .int (nI p), .int (nI w), .ref m0], M44)) rfl rfl rfl ?_
              refine ps_st (S' := (226, [(0, .ref m0), (2, .int 4), (3, .int (nI x)), (4, .int (nI (by2 f p1))), (5, .int (nI p)), (6, .int (nI s3)), (7, .int (nI i)), (8, .int (nI (by4 f (p + 2)))), (10, .int (nI w))], [.int 6, .int (nI p), .int (nI (p + 6)), .int (nI p), .int (nI w), .ref m0], M44)) rfl rfl rfl ?_
              refine ps_st (S' := (227, [(0, .ref m0), (2, .int 4), (3, .int (nI x)), (4, .int (nI (by2 f p1))), (5, .int (nI p)), (6, .int (nI s3)), (7, .int (nI i)), (8, .int (nI (by4 f (p + 2)))), (10, .int (nI w))], [.int ((nI p) + 6), .int (nI (p + 6)), .int (nI p), .int (nI w), .ref m0], M44)) rfl rfl rfl ?_
              rw [nI_add1 (p := p) (k := 6) (x := 6) rfl (by omega)]
              show pl _ _ _ (_, [(0, .ref m0), (2, .int 4), (3, .int (nI x)), (4, .int (nI (by2 f p1))), (5, .int (nI p)), (6, .int (nI s3)), (7, .int (nI i)), (8, .int (nI (by4 f (p + 2)))), (10, .int (nI w))], [.int (nI (p + 6)), .int (nI (p + 6)), .int (nI p), .int (nI w), .ref m0], M44) _
              refine ps_st (S' := (229, [(0, .ref m0), (2, .int 4), (3, .int (nI x)), (4, .int (nI (by2 f p1))), (5, .int (nI p)), (6, .int (nI s3)), (7, .int (nI i)), (8, .int (nI (by4 f (p + 2)))), (10, .int (nI w))], [.int (nI (by4 f (p + 2))), .int (nI (p + 6)), .int (nI (p + 6)), .int (nI p), .int (nI w), .ref m0], M44)) rfl rfl rfl ?_
              refine ps_st (S' := (230, [(0, .ref m0), (2, .int 4), (3, .int (nI x)), (4, .int (nI (by2 f p1))), (5, .int (nI p)), (6, .int (nI s3)), (7, .int (nI i)), (8, .int (nI (by4 f (p + 2)))), (10, .int (nI w))], [.int ((nI (p + 6)) + (nI (by4 f (p + 2)))), .int (nI (p + 6)), .int (nI p), .int (nI w), .ref m0], M44)) rfl rfl rfl ?_
              rw [nI_add1 (p := p + 6) (k := by4 f (p + 2)) (x := (nI (by4 f (p + 2)))) rfl (by omega)]
              show pl _ _ _ (_, [(0, .ref m0), (2, .int 4), (3, .int (nI x)), (4, .int (nI (by2 f p1))), (5, .int (nI p)), (6, .int (nI s3)), (7, .int (nI i)), (8, .int (nI (by4 f (p + 2)))), (10, .int (nI w))], [.int (nI (p + 6 + by4 f (p + 2))), .int (nI (p + 6)), .int (nI p), .int (nI w), .ref m0], M44) _
              refine ps_st (S' := (231, [(0, .ref m0), (2, .int 4), (3, .int (nI x)), (4, .int (nI (by2 f p1))), (5, .int (nI p)), (6, .int (nI s3)), (7, .int (nI i)), (8, .int (nI (by4 f (p + 2)))), (10, .int (nI w))], [.int (nI x), .int (nI (p + 6 + by4 f (p + 2))), .int (nI (p + 6)), .int (nI p), .int (nI w), .ref m0], M44)) rfl rfl rfl ?_
              refine ps_st (S' := (233, [(0, .ref m0), (2, .int 4), (3, .int (nI x)), (4, .int (nI (by2 f p1))), (5, .int (nI p)), (6, .int (nI s3)), (7, .int (nI i)), (8, .int (nI (by4 f (p + 2)))), (10, .int (nI w))], [.int (nI s3), .int (nI x), .int (nI (p + 6 + by4 f (p + 2))), .int (nI (p + 6)), .int (nI p), .int (nI w), .ref m0], M44)) rfl rfl rfl ?_
              refine pl_call (a := [.ref m0, .int (nI w), .int (nI p), .int (nI (p + 6)), .int (nI (p + 6 + by4 f (p + 2))), .int (nI x), .int (nI s3)]) (rest := []) rfl rfl rfl (rd_attrK (n := n) (f := f) (tx := tx) (cN := cN) (A := A) (N := N) (mj := mj) (E := E) (p := p) (e := (p + 6 + by4 f (p + 2))) (x := x) (s3 := s3) (s2 := (so s2 (w + 1))) (fl := fl) (w := w) (nb := bc) (t := (nI p)) (n5 := K.2.2.1) (n8 := K.2.2.2.1) (n10 := K.2.2.2.2.1) (n7 := (b7 K)) (n9 := K.2.2.2.2.2) hR46 hi49 hi50 hi54 hi55 hi56 hi57 hi59 hi60 hi61 hi62 hF_63 hY_64 hP_65 (hEP) (hN) (hmj) (⟨by omega, by omega⟩) (hl) (hf6) (hw2) (fun h9 => (by rw [sb_so, if_neg (by omega), hb 7 (by decide) (by decide)])) (fun h9 => (by rw [sb_so, if_neg (by omega), hb 6 (by decide) (by decide)]))) (fun v68 M69 q70 => ?_)
              rcases q70 with q70 | q70 | q70 | q70
              · skip
                obtain ⟨I71, R72, q233_s, rfl, hR73, hI74, hX75⟩ := q70
                have hi76 := (hI74 51 (by decide)).trans hi49
                have hi77 := (hI74 52 (by decide)).trans hi50
                have hi78 := (hI74 53 (by decide)).trans hi54
                have hi79 := (hI74 58 (by decide)).trans hi55
                have hi80 := (hI74 66 (by decide)).trans hi47
                have hF_81 := hF_63.mono (cIx hI74 (by decide)) (cRx hX75 (by decide))
                have hY_82 := hY_64.mono (cIx hI74 (by decide)) (cRx hX75 (by decide))
                have hP_83 := hP_65.mono (cIx hI74 (by decide)) (cRx hX75 (by decide))
                have hK_84 := hK_66.mono (cIx hI74 (by decide)) (cRx hX75 (by decide))
                have hEI85 := hEI67.tr hI74 (by decide)
                have hER86 := hER1.tr hX75 (by decide)
                show pl _ _ _ (236, [(0, .ref m0), (2, .int 4), (3, .int (nI x)), (4, .int (nI (by2 f p1))), (5, .int (nI p)), (6, .int (nI s3)), (7, .int (nI i)), (8, .int (nI (by4 f (p + 2)))), (10, .int (nI w))], [.int 30], M69) _
                refine ps_st (S' := (238, [(11, .int 30), (0, .ref m0), (2, .int 4), (3, .int (nI x)), (4, .int (nI (by2 f p1))), (5, .int (nI p)), (6, .int (nI s3)), (7, .int (nI i)), (8, .int (nI (by4 f (p + 2)))), (10, .int (nI w))], [], M69)) rfl rfl rfl ?_
                refine ps_st (S' := (240, [(11, .int 30), (0, .ref m0), (2, .int 4), (3, .int (nI x)), (4, .int (nI (by2 f p1))), (5, .int (nI p)), (6, .int (nI s3)), (7, .int (nI i)), (8, .int (nI (by4 f (p + 2)))), (10, .int (nI w))], [.int (nI s3)], M69)) rfl rfl rfl ?_
                refine ps_st (S' := (241, [(11, .int 30), (0, .ref m0), (2, .int 4), (3, .int (nI x)), (4, .int (nI (by2 f p1))), (5, .int (nI p)), (6, .int (nI s3)), (7, .int (nI i)), (8, .int (nI (by4 f (p + 2)))), (10, .int (nI w))], [.int 1, .int (nI s3)], M69)) rfl rfl rfl ?_
                refine ps_st (S' := (243, [(11, .int 30), (0, .ref m0), (2, .int 4), (3, .int (nI x)), (4, .int (nI (by2 f p1))), (5, .int (nI p)), (6, .int (nI s3)), (7, .int (nI i)), (8, .int (nI (by4 f (p + 2)))), (10, .int (nI w))], [.int (nI w), .int 1, .int (nI s3)], M69)) rfl rfl rfl ?_
                refine ps_st (S' := (244, [(11, .int 30), (0, .ref m0), (2, .int 4), (3, .int (nI x)), (4, .int (nI (by2 f p1))), (5, .int (nI p)), (6, .int (nI s3)), (7, .int (nI i)), (8, .int (nI (by4 f (p + 2)))), (10, .int (nI w))], [.int (1 <<< ((nI w) &&& 31)), .int (nI s3)], M69)) rfl rfl rfl ?_
                refine ps_st (S' := (245, [(11, .int 30), (0, .ref m0), (2, .int 4), (3, .int (nI x)), (4, .int (nI (by2 f p1))), (5, .int (nI p)), (6, .int (nI s3)), (7, .int (nI i)), (8, .int (nI (by4 f (p + 2)))), (10, .int (nI w))], [.int ((nI s3) ||| (1 <<< ((nI w) &&& 31)))], M69)) rfl rfl rfl ?_
                rw [or_k s3 w (by omega)]
                show pl _ _ _ (_, [(11, .int 30), (0, .ref m0), (2, .int 4), (3, .int (nI x)), (4, .int (nI (by2 f p1))), (5, .int (nI p)), (6, .int (nI s3)), (7, .int (nI i)), (8, .int (nI (by4 f (p + 2)))), (10, .int (nI w))], [.int (nI (so s3 w))], M69) _
                refine ps_st (S' := (247, [(6, .int (nI (so s3 w))), (11, .int 30), (0, .ref m0), (2, .int 4), (3, .int (nI x)), (4, .int (nI (by2 f p1))), (5, .int (nI p)), (7, .int (nI i)), (8, .int (nI (by4 f (p + 2)))), (10, .int (nI w))], [], M69)) rfl rfl rfl ?_
                refine ps_st (S' := (249, [(6, .int (nI (so s3 w))), (11, .int 30), (0, .ref m0), (2, .int 4), (3, .int (nI x)), (4, .int (nI (by2 f p1))), (5, .int (nI p)), (7, .int (nI i)), (8, .int (nI (by4 f (p + 2)))), (10, .int (nI w))], [.int 30], M69)) rfl rfl rfl ?_
                refine ps_if (S1 := (261, [(0, .ref m0), (2, .int 4), (3, .int (nI x)), (4, .int (nI (by2 f p1))), (5, .int (nI p)), (6, .int (nI (so s3 w))), (7, .int (nI i)), (8, .int (nI (by4 f (p + 2)))), (11, .int 30)], [], M69)) (S2 := (252, [(6, .int (nI (so s3 w))), (11, .int 30), (0, .ref m0), (2, .int 4), (3, .int (nI x)), (4, .int (nI (by2 f p1))), (5, .int (nI p)), (7, .int (nI i)), (8, .int (nI (by4 f (p + 2)))), (10, .int (nI w))], [], M69)) rfl rfl rfl (fun c_249 => ?_) (fun c_249 => ?_)
                · exact absurd (of_decide_eq_true c_249) (by decide)
                refine ps_st (S' := (253, [(6, .int (nI (so s3 w))), (11, .int 30), (0, .ref m0), (2, .int 4), (3, .int (nI x)), (4, .int (nI (by2 f p1))), (5, .int (nI p)), (7, .int (nI i)), (8, .int (nI (by4 f (p + 2)))), (10, .int (nI w))], [.ref m0], M69)) rfl rfl rfl ?_
                refine ps_st (S' := (255, [(6, .int (nI (so s3 w))), (11, .int 30), (0, .ref m0), (2, .int 4), (3, .int (nI x)), (4, .int (nI (by2 f p1))), (5, .int (nI p)), (7, .int (nI i)), (8, .int (nI (by4 f (p + 2)))), (10, .int (nI w))], [.int 30, .ref m0], M69)) rfl rfl rfl ?_
                refine ps_st (S' := (257, [(6, .int (nI (so s3 w))), (11, .int 30), (0, .ref m0), (2, .int 4), (3, .int (nI x)), (4, .int (nI (by2 f p1))), (5, .int (nI p)), (7, .int (nI i)), (8, .int (nI (by4 f (p + 2)))), (10, .int (nI w))], [.int (nI p), .int 30, .ref m0], M69)) rfl rfl rfl ?_
                refine pl_call (a := [.ref m0, .int 30, .int (nI p)]) (rest := []) rfl rfl rfl (rd_wrong (x1 := 30) (x2 := (nI p)) hR73) (fun v87 M88 q89 => ?_)
                obtain ⟨I90, R91, rfl, hR92, hI93, hX94, hi95, hi96⟩ := q89
                have hi97 := (hI93 51 (by decide)).trans hi76
                have hi98 := (hI93 52 (by decide)).trans hi77
                have hi99 := (hI93 53 (by decide)).trans hi78
                have hi100 := (hI93 58 (by decide)).trans hi79
                have hi101 := (hI93 66 (by decide)).trans hi80
                have hF_102 := hF_81.mono (cIx hI93 (by decide)) (cRx hX94 (by decide))
                have hY_103 := hY_82.mono (cIx hI93 (by decide)) (cRx hX94 (by decide))
                have hP_104 := hP_83.mono (cIx hI93 (by decide)) (cRx hX94 (by decide))
                have hK_105 := hK_84.mono (cIx hI93 (by decide)) (cRx hX94 (by decide))
                have hEI106 := hEI85.tr hI93 (by decide)
                have hER107 := hER86.tr hX94 (by decide)
                show pl _ _ _ (260, [(6, .int (nI (so s3 w))), (11, .int 30), (0, .ref m0), (2, .int 4), (3, .int (nI x)), (4, .int (nI (by2 f p1))), (5, .int (nI p)), (7, .int (nI i)), (8, .int (nI (by4 f (p + 2)))), (10, .int (nI w))], [.int 0], M88) _
                refine ps_st (S' := (261, [(0, .ref m0), (2, .int 4), (3, .int (nI x)), (4, .int (nI (by2 f p1))), (5, .int (nI p)), (6, .int (nI (so s3 w))), (7, .int (nI i)), (8, .int (nI (by4 f (p + 2)))), (11, .int 30)], [], M88)) rfl rfl rfl ?_
                refine ps_st (S' := (263, [(0, .ref m0), (2, .int 4), (3, .int (nI x)), (4, .int (nI (by2 f p1))), (5, .int (nI p)), (6, .int (nI (so s3 w))), (7, .int (nI i)), (8, .int (nI (by4 f (p + 2)))), (11, .int 30)], [.int 30], M88)) rfl rfl rfl ?_
                refine ps_if (S1 := (268, [(0, .ref m0), (2, .int 4), (3, .int (nI x)), (4, .int (nI (by2 f p1))), (5, .int (nI p)), (6, .int (nI (so s3 w))), (7, .int (nI i)), (8, .int (nI (by4 f (p + 2))))], [], M88)) (S2 := (266, [(0, .ref m0), (2, .int 4), (3, .int (nI x)), (4, .int (nI (by2 f p1))), (5, .int (nI p)), (6, .int (nI (so s3 w))), (7, .int (nI i)), (8, .int (nI (by4 f (p + 2)))), (11, .int 30)], [], M88)) rfl rfl rfl (fun c_263 => ?_) (fun c_263 => ?_)
                · exact absurd (of_decide_eq_true c_263) (by decide)
                refine ps_st (S' := (267, [(0, .ref m0), (2, .int 4), (3, .int (nI x)), (4, .int (nI (by2 f p1))), (5, .int (nI p)), (6, .int (nI (so s3 w))), (7, .int (nI i)), (8, .int (nI (by4 f (p + 2)))), (11, .int 30)], [.int (-1)], M88)) rfl rfl rfl ?_
                exact ps_ret rfl rfl (Or.inl ⟨(30, p), I90, R91, by
                    rw [← hs9, clS_k (i := i) (p := p) (s := s2) hi0 h1 hsm (by omega) hws, if_pos q233_s], rfl, hR92, hEI106, hER107, hi95, hi96⟩)
              · skip
                obtain ⟨r108, I109, R110, q233_s, q233_b, q233_l, rfl, hR111, hI112, hX113⟩ := q70
                have hi114 := (hI112 51 (by decide)).trans hi49
                have hi115 := (hI112 52 (by decide)).trans hi50
                have hi116 := (hI112 53 (by decide)).trans hi54
                have hi117 := (hI112 58 (by decide)).trans hi55
                have hi118 := (hI112 66 (by decide)).trans hi47
                have hF_119 := hF_63.mono (cIx hI112 (by decide)) (cRx hX113 (by decide))
                have hY_120 := hY_64.mono (cIx hI112 (by decide)) (cRx hX113 (by decide))
                have hP_121 := hP_65.mono (cIx hI112 (by decide)) (cRx hX113 (by decide))
                have hK_122 := hK_66.mono (cIx hI112 (by decide)) (cRx hX113 (by decide))
                have hEI123 := hEI67.tr hI112 (by decide)
                have hER124 := hER1.tr hX113 (by decide)
                show pl _ _ _ (236, [(0, .ref m0), (2, .int 4), (3, .int (nI x)), (4, .int (nI (by2 f p1))), (5, .int (nI p)), (6, .int (nI s3)), (7, .int (nI i)), (8, .int (nI (by4 f (p + 2)))), (10, .int (nI w))], [.int (nI r108)], M69) _
                refine ps_st (S' := (238, [(11, .int (nI r108)), (0, .ref m0), (2, .int 4), (3, .int (nI x)), (4, .int (nI (by2 f p1))), (5, .int (nI p)), (6, .int (nI s3)), (7, .int (nI i)), (8, .int (nI (by4 f (p + 2)))), (10, .int (nI w))], [], M69)) rfl rfl rfl ?_
                refine ps_st (S' := (240, [(11, .int (nI r108)), (0, .ref m0), (2, .int 4), (3, .int (nI x)), (4, .int (nI (by2 f p1))), (5, .int (nI p)), (6, .int (nI s3)), (7, .int (nI i)), (8, .int (nI (by4 f (p + 2)))), (10, .int (nI w))], [.int (nI s3)], M69)) rfl rfl rfl ?_
                refine ps_st (S' := (241, [(11, .int (nI r108)), (0, .ref m0), (2, .int 4), (3, .int (nI x)), (4, .int (nI (by2 f p1))), (5, .int (nI p)), (6, .int (nI s3)), (7, .int (nI i)), (8, .int (nI (by4 f (p + 2)))), (10, .int (nI w))], [.int 1, .int (nI s3)], M69)) rfl rfl rfl ?_
                refine ps_st (S' := (243, [(11, .int (nI r108)), (0, .ref m0), (2, .int 4), (3, .int (nI x)), (4, .int (nI (by2 f p1))), (5, .int (nI p)), (6, .int (nI s3)), (7, .int (nI i)), (8, .int (nI (by4 f (p + 2)))), (10, .int (nI w))], [.int (nI w), .int 1, .int (nI s3)], M69)) rfl rfl rfl ?_
                refine ps_st (S' := (244, [(11, .int (nI r108)), (0, .ref m0), (2, .int 4), (3, .int (nI x)), (4, .int (nI (by2 f p1))), (5, .int (nI p)), (6, .int (nI s3)), (7, .int (nI i)), (8, .int (nI (by4 f (p + 2)))), (10, .int (nI w))], [.int (1 <<< ((nI w) &&& 31)), .int (nI s3)], M69)) rfl rfl rfl ?_
                refine ps_st (S' := (245, [(11, .int (nI r108)), (0, .ref m0), (2, .int 4), (3, .int (nI x)), (4, .int (nI (by2 f p1))), (5, .int (nI p)), (6, .int (nI s3)), (7, .int (nI i)), (8, .int (nI (by4 f (p + 2)))), (10, .int (nI w))], [.int ((nI s3) ||| (1 <<< ((nI w) &&& 31)))], M69)) rfl rfl rfl ?_
                rw [or_k s3 w (by omega)]
                show pl _ _ _ (_, [(11, .int (nI r108)), (0, .ref m0), (2, .int 4), (3, .int (nI x)), (4, .int (nI (by2 f p1))), (5, .int (nI p)), (6, .int (nI s3)), (7, .int (nI i)), (8, .int (nI (by4 f (p + 2)))), (10, .int (nI w))], [.int (nI (so s3 w))], M69) _
                refine ps_st (S' := (247, [(6, .int (nI (so s3 w))), (11, .int (nI r108)), (0, .ref m0), (2, .int 4), (3, .int (nI x)), (4, .int (nI (by2 f p1))), (5, .int (nI p)), (7, .int (nI i)), (8, .int (nI (by4 f (p + 2)))), (10, .int (nI w))], [], M69)) rfl rfl rfl ?_
                refine ps_st (S' := (249, [(6, .int (nI (so s3 w))), (11, .int (nI r108)), (0, .ref m0), (2, .int 4), (3, .int (nI x)), (4, .int (nI (by2 f p1))), (5, .int (nI p)), (7, .int (nI i)), (8, .int (nI (by4 f (p + 2)))), (10, .int (nI w))], [.int (nI r108)], M69)) rfl rfl rfl ?_
                refine ps_if (S1 := (261, [(0, .ref m0), (2, .int 4), (3, .int (nI x)), (4, .int (nI (by2 f p1))), (5, .int (nI p)), (6, .int (nI (so s3 w))), (7, .int (nI i)), (8, .int (nI (by4 f (p + 2)))), (11, .int (nI r108))], [], M69)) (S2 := (252, [(6, .int (nI (so s3 w))), (11, .int (nI r108)), (0, .ref m0), (2, .int 4), (3, .int (nI x)), (4, .int (nI (by2 f p1))), (5, .int (nI p)), (7, .int (nI i)), (8, .int (nI (by4 f (p + 2)))), (10, .int (nI w))], [], M69)) rfl rfl rfl (fun c_249 => ?_) (fun c_249 => ?_)
                · exact absurd (of_decide_eq_true c_249) (show ¬ ((nI r108) ≤ 0) from fun h9 => absurd ((le_nI (p := r108) (n := 0) (by omega) (by decide)).mp h9) (by omega))
                refine ps_st (S' := (253, [(6, .int (nI (so s3 w))), (11, .int (nI r108)), (0, .ref m0), (2, .int 4), (3, .int (nI x)), (4, .int (nI (by2 f p1))), (5, .int (nI p)), (7, .int (nI i)), (8, .int (nI (by4 f (p + 2)))), (10, .int (nI w))], [.ref m0], M69)) rfl rfl rfl ?_
                refine ps_st (S' := (255, [(6, .int (nI (so s3 w))), (11, .int (nI r108)), (0, .ref m0), (2, .int 4), (3, .int (nI x)), (4, .int (nI (by2 f p1))), (5, .int (nI p)), (7, .int (nI i)), (8, .int (nI (by4 f (p + 2)))), (10, .int (nI w))], [.int (nI r108), .ref m0], M69)) rfl rfl rfl ?_
                refine ps_st (S' := (257, [(6, .int (nI (so s3 w))), (11, .int (nI r108)), (0, .ref m0), (2, .int 4), (3, .int (nI x)), (4, .int (nI (by2 f p1))), (5, .int (nI p)), (7, .int (nI i)), (8, .int (nI (by4 f (p + 2)))), (10, .int (nI w))], [.int (nI p), .int (nI r108), .ref m0], M69)) rfl rfl rfl ?_
                refine pl_call (a := [.ref m0, .int (nI r108), .int (nI p)]) (rest := []) rfl rfl rfl (rd_wrong (x1 := (nI r108)) (x2 := (nI p)) hR111) (fun v125 M126 q127 => ?_)
                obtain ⟨I128, R129, rfl, hR130, hI131, hX132, hi133, hi134⟩ := q127
                have hi135 := (hI131 51 (by decide)).trans hi114
                have hi136 := (hI131 52 (by decide)).trans hi115
                have hi137 := (hI131 53 (by decide)).trans hi116
                have hi138 := (hI131 58 (by decide)).trans hi117
                have hi139 := (hI131 66 (by decide)).trans hi118
                have hF_140 := hF_119.mono (cIx hI131 (by decide)) (cRx hX132 (by decide))
                have hY_141 := hY_120.mono (cIx hI131 (by decide)) (cRx hX132 (by decide))
                have hP_142 := hP_121.mono (cIx hI131 (by decide)) (cRx hX132 (by decide))
                have hK_143 := hK_122.mono (cIx hI131 (by decide)) (cRx hX132 (by decide))
                have hEI144 := hEI123.tr hI131 (by decide)
                have hER145 := hER124.tr hX132 (by decide)
                show pl _ _ _ (260, [(6, .int (nI (so s3 w))), (11, .int (nI r108)), (0, .ref m0), (2, .int 4), (3, .int (nI x)), (4, .int (nI (by2 f p1))), (5, .int (nI p)), (7, .int (nI i)), (8, .int (nI (by4 f (p + 2)))), (10, .int (nI w))], [.int 0], M126) _
                refine ps_st (S' := (261, [(0, .ref m0), (2, .int 4), (3, .int (nI x)), (4, .int (nI (by2 f p1))), (5, .int (nI p)), (6, .int (nI (so s3 w))), (7, .int (nI i)), (8, .int (nI (by4 f (p + 2)))), (11, .int (nI r108))], [], M126)) rfl rfl rfl ?_
                refine ps_st (S' := (263, [(0, .ref m0), (2, .int 4), (3, .int (nI x)), (4, .int (nI (by2 f p1))), (5, .int (nI p)), (6, .int (nI (so s3 w))), (7, .int (nI i)), (8, .int (nI (by4 f (p + 2)))), (11, .int (nI r108))], [.int (nI r108)], M126)) rfl rfl rfl ?_
                refine ps_if (S1 := (268, [(0, .ref m0), (2, .int 4), (3, .int (nI x)), (4, .int (nI (by2 f p1))), (5, .int (nI p)), (6, .int (nI (so s3 w))), (7, .int (nI i)), (8, .int (nI (by4 f (p + 2))))], [], M126)) (S2 := (266, [(0, .ref m0), (2, .int 4), (3, .int (nI x)), (4, .int (nI (by2 f p1))), (5, .int (nI p)), (6, .int (nI (so s3 w))), (7, .int (nI i)), (8, .int (nI (by4 f (p + 2)))), (11, .int (nI r108))], [], M126)) rfl rfl rfl (fun c_263 => ?_) (fun c_263 => ?_)
                · exact absurd (of_decide_eq_true c_263) (show ¬ ((nI r108) = 0) from fun h9 => absurd ((eq_nI (p := r108) (n := 0) (by omega) (by decide)).mp h9) (by omega))
                refine ps_st (S' := (267, [(0, .ref m0), (2, .int 4), (3, .int (nI x)), (4, .int (nI (by2 f p1))), (5, .int (nI p)), (6, .int (nI (so s3 w))), (7, .int (nI i)), (8, .int (nI (by4 f (p + 2)))), (11, .int (nI r108))], [.int (-1)], M126)) rfl rfl rfl ?_
                exact ps_ret rfl rfl (Or.inl ⟨(r108, p), I128, R129, by
                    rw [← hs9, clS_k (i := i) (p := p) (s := s2) hi0 h1 hsm (by omega) hws, if_neg (fun h9 => h9 q233_s)]; rcases q233_b with q9 | q9 <;> rw [q9], rfl, hR130, hEI144, hER145, hi133, hi134⟩)
              · skip
                obtain ⟨e9146, I147, R148, q233_s, q233_b, rfl, hR149, hI150, hX151, hi152, hi153⟩ := q70
                have hi154 := (hI150 51 (by decide)).trans hi49
                have hi155 := (hI150 52 (by decide)).trans hi50
                have hi156 := (hI150 53 (by decide)).trans hi54
                have hi157 := (hI150 58 (by decide)).trans hi55
                have hi158 := (hI150 66 (by decide)).trans hi47
                have hF_159 := hF_63.mono (cIx hI150 (by decide)) (cRx hX151 (by decide))
                have hY_160 := hY_64.mono (cIx hI150 (by decide)) (cRx hX151 (by decide))
                have hP_161 := hP_65.mono (cIx hI150 (by decide)) (cRx hX151 (by decide))
                have hK_162 := hK_66.mono (cIx hI150 (by decide)) (cRx hX151 (by decide))
                have hEI163 := hEI67.tr hI150 (by decide)
                have hER164 := hER1.tr hX151 (by decide)
                show pl _ _ _ (236, [(0, .ref m0), (2, .int 4), (3, .int (nI x)), (4, .int (nI (by2 f p1))), (5, .int (nI p)), (6, .int (nI s3)), (7, .int (nI i)), (8, .int (nI (by4 f (p + 2)))), (10, .int (nI w))], [.int (-1)], M69) _
                refine ps_st (S' := (238, [(11, .int (-1)), (0, .ref m0), (2, .int 4), (3, .int (nI x)), (4, .int (nI (by2 f p1))), (5, .int (nI p)), (6, .int (nI s3)), (7, .int (nI i)), (8, .int (nI (by4 f (p + 2)))), (10, .int (nI w))], [], M69)) rfl rfl rfl ?_
                refine ps_st (S' := (240, [(11, .int (-1)), (0, .ref m0), (2, .int 4), (3, .int (nI x)), (4, .int (nI (by2 f p1))), (5, .int (nI p)), (6, .int (nI s3)), (7, .int (nI i)), (8, .int (nI (by4 f (p + 2)))), (10, .int (nI w))], [.int (nI s3)], M69)) rfl rfl rfl ?_
                refine ps_st (S' := (241, [(11, .int (-1)), (0, .ref m0), (2, .int 4), (3, .int (nI x)), (4, .int (nI (by2 f p1))), (5, .int (nI p)), (6, .int (nI s3)), (7, .int (nI i)), (8, .int (nI (by4 f (p + 2)))), (10, .int (nI w))], [.int 1, .int (nI s3)], M69)) rfl rfl rfl ?_
                refine ps_st (S' := (243, [(11, .int (-1)), (0, .ref m0), (2, .int 4), (3, .int (nI x)), (4, .int (nI (by2 f p1))), (5, .int (nI p)), (6, .int (nI s3)), (7, .int (nI i)), (8, .int (nI (by4 f (p + 2)))), (10, .int (nI w))], [.int (nI w), .int 1, .int (nI s3)], M69)) rfl rfl rfl ?_
                refine ps_st (S' := (244, [(11, .int (-1)), (0, .ref m0), (2, .int 4), (3, .int (nI x)), (4, .int (nI (by2 f p1))), (5, .int (nI p)), (6, .int (nI s3)), (7, .int (nI i)), (8, .int (nI (by4 f (p + 2)))), (10, .int (nI w))], [.int (1 <<< ((nI w) &&& 31)), .int (nI s3)], M69)) rfl rfl rfl ?_
                refine ps_st (S' := (245, [(11, .int (-1)), (0, .ref m0), (2, .int 4), (3, .int (nI x)), (4, .int (nI (by2 f p1))), (5, .int (nI p)), (6, .int (nI s3)), (7, .int (nI i)), (8, .int (nI (by4 f (p + 2)))), (10, .int (nI w))], [.int ((nI s3) ||| (1 <<< ((nI w) &&& 31)))], M69)) rfl rfl rfl ?_
                rw [or_k s3 w (by omega)]
                show pl _ _ _ (_, [(11, .int (-1)), (0, .ref m0), (2, .int 4), (3, .int (nI x)), (4, .int (nI (by2 f p1))), (5, .int (nI p)), (6, .int (nI s3)), (7, .int (nI i)), (8, .int (nI (by4 f (p + 2)))), (10, .int (nI w))], [.int (nI (so s3 w))], M69) _
                refine ps_st (S' := (247, [(6, .int (nI (so s3 w))), (11, .int (-1)), (0, .ref m0), (2, .int 4), (3, .int (nI x)), (4, .int (nI (by2 f p1))), (5, .int (nI p)), (7, .int (nI i)), (8, .int (nI (by4 f (p + 2)))), (10, .int (nI w))], [], M69)) rfl rfl rfl ?_
                refine ps_st (S' := (249, [(6, .int (nI (so s3 w))), (11, .int (-1)), (0, .ref m0), (2, .int 4), (3, .int (nI x)), (4, .int (nI (by2 f p1))), (5, .int (nI p)), (7, .int (nI i)), (8, .int (nI (by4 f (p + 2)))), (10, .int (nI w))], [.int (-1)], M69)) rfl rfl rfl ?_
                refine ps_if (S1 := (261, [(0, .ref m0), (2, .int 4), (3, .int (nI x)), (4, .int (nI (by2 f p1))), (5, .int (nI p)), (6, .int (nI (so s3 w))), (7, .int (nI i)), (8, .int (nI (by4 f (p + 2)))), (11, .int (-1))], [], M69)) (S2 := (252, [(6, .int (nI (so s3 w))), (11, .int (-1)), (0, .ref m0), (2, .int 4), (3, .int (nI x)), (4, .int (nI (by2 f p1))), (5, .int (nI p)), (7, .int (nI i)), (8, .int (nI (by4 f (p + 2)))), (10, .int (nI w))], [], M69)) rfl rfl rfl (fun c_249 => ?_) (fun c_249 => ?_)
                rotate_left
                · exact absurd (by decide) (of_decide_eq_false c_249)
                refine ps_st (S' := (263, [(0, .ref m0), (2, .int 4), (3, .int (nI x)), (4, .int (nI (by2 f p1))), (5, .int (nI p)), (6, .int (nI (so s3 w))), (7, .int (nI i)), (8, .int (nI (by4 f (p + 2)))), (11, .int (-1))], [.int (-1)], M69)) rfl rfl rfl ?_
                refine ps_if (S1 := (268, [(0, .ref m0), (2, .int 4), (3, .int (nI x)), (4, .int (nI (by2 f p1))), (5, .int (nI p)), (6, .int (nI (so s3 w))), (7, .int (nI i)), (8, .int (nI (by4 f (p + 2))))], [], M69)) (S2 := (266, [(0, .ref m0), (2, .int 4), (3, .int (nI x)), (4, .int (nI (by2 f p1))), (5, .int (nI p)), (6, .int (nI (so s3 w))), (7, .int (nI i)), (8, .int (nI (by4 f (p + 2)))), (11, .int (-1))], [], M69)) rfl rfl rfl (fun c_263 => ?_) (fun c_263 => ?_)
                · exact absurd (of_decide_eq_true c_263) (by decide)
                refine ps_st (S' := (267, [(0, .ref m0), (2, .int 4), (3, .int (nI x)), (4, .int (nI (by2 f p1))), (5, .int (nI p)), (6, .int (nI (so s3 w))), (7, .int (nI i)), (8, .int (nI (by4 f (p + 2)))), (11, .int (-1))], [.int (-1)], M69)) rfl rfl rfl ?_
                exact ps_ret rfl rfl (Or.inl ⟨e9146, I147, R148, by
                    rw [← hs9, clS_k (i := i) (p := p) (s := s2) hi0 h1 hsm (by omega) hws, if_neg (fun h9 => h9 q233_s), q233_b], rfl, hR149, hEI163, hER164, hi152, hi153⟩)
              · skip
                obtain ⟨I165, R166, q233_s, q233_b, rfl, hR167, hI168, hX169, hi170, hi171, hi172, hi173, hi174, hi175⟩ := q70
                have hi176 := (hI168 51 (by decide)).trans hi49
                have hi177 := (hI168 52 (by decide)).trans hi50
                have hi178 := (hI168 53 (by decide)).trans hi54
                have hi179 := (hI168 58 (by decide)).trans hi55
                have hi180 := (hI168 66 (by decide)).trans hi47
                have hF_181 := hF_63.mono (cIx hI168 (by decide)) (cRx hX169 (by decide))
                have hY_182 := hY_64.mono (cIx hI168 (by decide)) (cRx hX169 (by decide))
                have hP_183 := hP_65.mono (cIx hI168 (by decide)) (cRx hX169 (by decide))
                have hK_184 := hK_66.mono (cIx hI168 (by decide)) (cRx hX169 (by decide))
                have hEI185 := hEI67.tr hI168 (by decide)
                have hER186 := hER1.tr hX169 (by decide)
                show pl _ _ _ (236, [(0, .ref m0), (2, .int 4), (3, .int (nI x)), (4, .int (nI (by2 f p1))), (5, .int (nI p)), (6, .int (nI s3)), (7, .int (nI i)), (8, .int (nI (by4 f (p + 2)))), (10, .int (nI w))], [.int 0], M69) _
                refine ps_st (S' := (238, [(11, .int 0), (0, .ref m0), (2, .int 4), (3, .int (nI x)), (4, .int (nI (by2 f p1))), (5, .int (nI p)), (6, .int (nI s3)), (7, .int (nI i)), (8, .int (nI (by4 f (p + 2)))), (10, .int (nI w))], [], M69)) rfl rfl rfl ?_
                refine ps_st (S' := (240, [(11, .int 0), (0, .ref m0), (2, .int 4), (3, .int (nI x)), (4, .int (nI (by2 f p1))), (5, .int (nI p)), (6, .int (nI s3)), (7, .int (nI i)), (8, .int (nI (by4 f (p + 2)))), (10, .int (nI w))], [.int (nI s3)], M69)) rfl rfl rfl ?_
                refine ps_st (S' := (241, [(11, .int 0), (0, .ref m0), (2, .int 4), (3, .int (nI x)), (4, .int (nI (by2 f p1))), (5, .int (nI p)), (6, .int (nI s3)), (7, .int (nI i)), (8, .int (nI (by4 f (p + 2)))), (10, .int (nI w))], [.int 1, .int (nI s3)], M69)) rfl rfl rfl ?_
                refine ps_st (S' := (243, [(11, .int 0), (0, .ref m0), (2, .int 4), (3, .int (nI x)), (4, .int (nI (by2 f p1))), (5, .int (nI p)), (6, .int (nI s3)), (7, .int (nI i)), (8, .int (nI (by4 f (p + 2)))), (10, .int (nI w))], [.int (nI w), .int 1, .int (nI s3)], M69)) rfl rfl rfl ?_
                refine ps_st (S' := (244, [(11, .int 0), (0, .ref m0), (2, .int 4), (3, .int (nI x)), (4, .int (nI (by2 f p1))), (5, .int (nI p)), (6, .int (nI s3)), (7, .int (nI i)), (8, .int (nI (by4 f (p + 2)))), (10, .int (nI w))], [.int (1 <<< ((nI w) &&& 31)), .int (nI s3)], M69)) rfl rfl rfl ?_
                refine ps_st (S' := (245, [(11, .int 0), (0, .ref m0), (2, .int 4), (3, .int (nI x)), (4, .int (nI (by2 f p1))), (5, .int (nI p)), (6, .int (nI s3)), (7, .int (nI i)), (8, .int (nI (by4 f (p + 2)))), (10, .int (nI w))], [.int ((nI s3) ||| (1 <<< ((nI w) &&& 31)))], M69)) rfl rfl rfl ?_
                rw [or_k s3 w (by omega)]
                show pl _ _ _ (_, [(11, .int 0), (0, .ref m0), (2, .int 4), (3, .int (nI x)), (4, .int (nI (by2 f p1))), (5, .int (nI p)), (6, .int (nI s3)), (7, .int (nI i)), (8, .int (nI (by4 f (p + 2)))), (10, .int (nI w))], [.int (nI (so s3 w))], M69) _
                refine ps_st (S' := (247, [(6, .int (nI (so s3 w))), (11, .int 0), (0, .ref m0), (2, .int 4), (3, .int (nI x)), (4, .int (nI (by2 f p1))), (5, .int (nI p)), (7, .int (nI i)), (8, .int (nI (by4 f (p + 2)))), (10, .int (nI w))], [], M69)) rfl rfl rfl ?_
                refine ps_st (S' := (249, [(6, .int (nI (so s3 w))), (11, .int 0), (0, .ref m0), (2, .int 4), (3, .int (nI x)), (4, .int (nI (by2 f p1))), (5, .int (nI p)), (7, .int (nI i)), (8, .int (nI (by4 f (p + 2)))), (10, .int (nI w))], [.int 0], M69)) rfl rfl rfl ?_
                refine ps_if (S1 := (261, [(0, .ref m0), (2, .int 4), (3, .int (nI x)), (4, .int (nI (by2 f p1))), (5, .int (nI p)), (6, .int (nI (so s3 w))), (7, .int (nI i)), (8, .int (nI (by4 f (p + 2)))), (11, .int 0)], [], M69)) (S2 := (252, [(6, .int (nI (so s3 w))), (11, .int 0), (0, .ref m0), (2, .int 4), (3, .int (nI x)), (4, .int (nI (by2 f p1))), (5, .int (nI p)), (7, .int (nI i)), (8, .int (nI (by4 f (p + 2)))), (10, .int (nI w))], [], M69)) rfl rfl rfl (fun c_249 => ?_) (fun c_249 => ?_)
                rotate_left
                · exact absurd (by decide) (of_decide_eq_false c_249)
                refine ps_st (S' := (263, [(0, .ref m0), (2, .int 4), (3, .int (nI x)), (4, .int (nI (by2 f p1))), (5, .int (nI p)), (6, .int (nI (so s3 w))), (7, .int (nI i)), (8, .int (nI (by4 f (p + 2)))), (11, .int 0)], [.int 0], M69)) rfl rfl rfl ?_
                refine ps_if (S1 := (268, [(0, .ref m0), (2, .int 4), (3, .int (nI x)), (4, .int (nI (by2 f p1))), (5, .int (nI p)), (6, .int (nI (so s3 w))), (7, .int (nI i)), (8, .int (nI (by4 f (p + 2))))], [], M69)) (S2 := (266, [(0, .ref m0), (2, .int 4), (3, .int (nI x)), (4, .int (nI (by2 f p1))), (5, .int (nI p)), (6, .int (nI (so s3 w))), (7, .int (nI i)), (8, .int (nI (by4 f (p + 2)))), (11, .int 0)], [], M69)) rfl rfl rfl (fun c_263 => ?_) (fun c_263 => ?_)
                rotate_left
                · exact absurd (by decide) (of_decide_eq_false c_263)
                refine ps_st (S' := (270, [(0, .ref m0), (2, .int 4), (3, .int (nI x)), (4, .int (nI (by2 f p1))), (5, .int (nI p)), (6, .int (nI (so s3 w))), (7, .int (nI i)), (8, .int (nI (by4 f (p + 2))))], [.int (nI p)], M69)) rfl rfl rfl ?_
                refine ps_st (S' := (272, [(0, .ref m0), (2, .int 4), (3, .int (nI x)), (4, .int (nI (by2 f p1))), (5, .int (nI p)), (6, .int (nI (so s3 w))), (7, .int (nI i)), (8, .int (nI (by4 f (p + 2))))], [.int 6, .int (nI p)], M69)) rfl rfl rfl ?_
                refine ps_st (S' := (274, [(0, .ref m0), (2, .int 4), (3, .int (nI x)), (4, .int (nI (by2 f p1))), (5, .int (nI p)), (6, .int (nI (so s3 w))), (7, .int (nI i)), (8, .int (nI (by4 f (p + 2))))], [.int (nI (by4 f (p + 2))), .int 6, .int (nI p)], M69)) rfl rfl rfl ?_
                refine ps_st (S' := (275, [(0, .ref m0), (2, .int 4), (3, .int (nI x)), (4, .int (nI (by2 f p1))), (5, .int (nI p)), (6, .int (nI (so s3 w))), (7, .int (nI i)), (8, .int (nI (by4 f (p + 2))))], [.int (6 + (nI (by4 f (p + 2)))), .int (nI p)], M69)) rfl rfl rfl ?_
                rw [nI_add2 (p := 6) (k := by4 f (p + 2)) (x := 6) (y := (nI (by4 f (p + 2)))) rfl rfl (by omega)]
                show pl _ _ _ (_, [(0, .ref m0), (2, .int 4), (3, .int (nI x)), (4, .int (nI (by2 f p1))), (5, .int (nI p)), (6, .int (nI (so s3 w))), (7, .int (nI i)), (8, .int (nI (by4 f (p + 2))))], [.int (nI (6 + by4 f (p + 2))), .int (nI p)], M69) _
                refine ps_st (S' := (276, [(0, .ref m0), (2, .int 4), (3, .int (nI x)), (4, .int (nI (by2 f p1))), (5, .int (nI p)), (6, .int (nI (so s3 w))), (7, .int (nI i)), (8, .int (nI (by4 f (p + 2))))], [.int ((nI p) + (nI (6 + by4 f (p + 2))))], M69)) rfl rfl rfl ?_
                rw [nI_add1 (p := p) (k := 6 + by4 f (p + 2)) (x := (nI (6 + by4 f (p + 2)))) rfl (by omega)]
                rw [show nI (p + (6 + by4 f (p + 2))) = nI (p + 6 + by4 f (p + 2)) from congrArg nI (by omega)]
                show pl _ _ _ (_, [(0, .ref m0), (2, .int 4), (3, .int (nI x)), (4, .int (nI (by2 f p1))), (5, .int (nI p)), (6, .int (nI (so s3 w))), (7, .int (nI i)), (8, .int (nI (by4 f (p + 2))))], [.int (nI (p + 6 + by4 f (p + 2)))], M69) _
                refine ps_st (S' := (278, [(5, .int (nI (p + 6 + by4 f (p + 2)))), (0, .ref m0), (2, .int 4), (3, .int (nI x)), (4, .int (nI (by2 f p1))), (6, .int (nI (so s3 w))), (7, .int (nI i)), (8, .int (nI (by4 f (p + 2))))], [], M69)) rfl rfl rfl ?_
                refine ps_st (S' := (281, [(7, .int ((nI i) + 1)), (5, .int (nI (p + 6 + by4 f (p + 2)))), (0, .ref m0), (2, .int 4), (3, .int (nI x)), (4, .int (nI (by2 f p1))), (6, .int (nI (so s3 w))), (8, .int (nI (by4 f (p + 2))))], [], M69)) rfl rfl rfl ?_
                rw [nI_add1 (p := i) (k := 1) (x := 1) rfl (by omega)]
                show pl _ _ _ (_, [(7, .int (nI (i + 1))), (5, .int (nI (p + 6 + by4 f (p + 2)))), (0, .ref m0), (2, .int 4), (3, .int (nI x)), (4, .int (nI (by2 f p1))), (6, .int (nI (so s3 w))), (8, .int (nI (by4 f (p + 2))))], [], M69) _
                refine ps_st (S' := (18, [(0, .ref m0), (2, .int 4), (3, .int (nI x)), (4, .int (nI (by2 f p1))), (5, .int (nI (p + 6 + by4 f (p + 2)))), (6, .int (nI (so s3 w))), (7, .int (nI (i + 1)))], [], M69)) rfl rfl rfl ?_
                have h66 : I165 66 = some (nI (stU f (w + 1) p K).1) := by
                  rw [stU_k (show ¬ w + 1 = 0 by omega)]
                  exact hi180
                have h70 : I165 70 = some (b7 (stU f (w + 1) p K)) := by
                  rw [b7_st]
                  exact hi174
                exact ih.1 (i + 1) (p + 6 + by4 f (p + 2)) (so s2 (w + 1)) (so s3 w) (if w = 5 then by2 f (p + 6) else bc) (stU f (w + 1) p K) M69 I165 R166 hR167 hEI185 hER186 hi176 hi177 hi178 hi179 hi170 h66 hi171 hi172 hi173 h70 hi175 hF_181 hY_182 hP_183 hK_184 (by omega) (so_lt hl (by omega)) (fun w9 a9 b9 => (by have h9 := hb w9 a9 b9; rw [sb_so, sb_so, h9]; by_cases h8 : w9 = w; rw [if_pos h8, if_pos (by omega)]; rw [if_neg h8, if_neg (by omega)])) (hq7) (by
                    rw [← hs9, clS_k (i := i) (p := p) (s := s2) hi0 h1 hsm (by omega) hws, if_neg (show ¬ ¬ s_fe f (w + 1) (p + 6) (p + 6 + by4 f (p + 2)) = some (p + 6 + by4 f (p + 2)) from fun h9 => h9 q233_s), q233_b]) (by
                    rw [← hu, clU_st (i := i) hi0, hsm]) (by
                    rw [stU_k (show ¬ w + 1 = 0 by omega)]
                    omega)
            · have c_198 : ¬ (¬ (nI (sb s3 w)) = 1) := of_decide_eq_false c_198
              have n_198 : sb s3 w = 1 := (eq_nI (p := sb s3 w) (n := 1) (Nat.lt_trans (sb_lt _ _) (by decide)) (by decide)).mp (Decidable.not_not.mp c_198)
              refine ps_st (S' := (202, [(0, .ref m0), (2, .int 4), (3, .int (nI x)), (4, .int (nI (by2 f p1))), (5, .int (nI p)), (6, .int (nI s3)), (7, .int (nI i)), (8, .int (nI (by4 f (p + 2)))), (10, .int (nI w))], [.ref m0], M44)) rfl rfl rfl ?_
              refine ps_st (S' := (204, [(0, .ref m0), (2, .int 4), (3, .int (nI x)), (4, .int (nI (by2 f p1))), (5, .int (nI p)), (6, .int (nI s3)), (7, .int (nI i)), (8, .int (nI (by4 f (p + 2)))), (10, .int (nI w))], [.int 29, .ref m0], M44)) rfl rfl rfl ?_
              refine ps_st (S' := (206, [(0, .ref m0), (2, .int 4), (3, .int (nI x)), (4, .int (nI (by2 f p1))), (5, .int (nI p)), (6, .int (nI s3)), (7, .int (nI i)), (8, .int (nI (by4 f (p + 2)))), (10, .int (nI w))], [.int (nI p), .int 29, .ref m0], M44)) rfl rfl rfl ?_
              refine pl_call (a := [.ref m0, .int 29, .int (nI p)]) (rest := []) rfl rfl rfl (rd_wrong (x1 := 29) (x2 := (nI p)) hR46) (fun v187 M188 q189 => ?_)
              obtain ⟨I190, R191, rfl, hR192, hI193, hX194, hi195, hi196⟩ := q189
              have hi197 := (hI193 51 (by decide)).trans hi49
              have hi198 := (hI193 52 (by decide)).trans hi50
              have hi199 := (hI193 53 (by decide)).trans hi54
              have hi200 := (hI193 58 (by decide)).trans hi55
              have hi201 := (hI193 71 (by decide)).trans hi56
              have hi202 := (hI193 65 (by decide)).trans hi57
              have hi203 := (hI193 68 (by decide)).trans hi59
              have hi204 := (hI193 69 (by decide)).trans hi60
              have hi205 := (hI193 70 (by decide)).trans hi61
              have hi206 := (hI193 72 (by decide)).trans hi62
              have hi207 := (hI193 66 (by decide)).trans hi47
              have hF_208 := hF_63.mono (cIx hI193 (by decide)) (cRx hX194 (by decide))
              have hY_209 := hY_64.mono (cIx hI193 (by decide)) (cRx hX194 (by decide))
              have hP_210 := hP_65.mono (cIx hI193 (by decide)) (cRx hX194 (by decide))
              have hK_211 := hK_66.mono (cIx hI193 (by decide)) (cRx hX194 (by decide))
              have hEI212 := hEI67.tr hI193 (by decide)
              have hER213 := hER1.tr hX194 (by decide)
              show pl _ _ _ (209, [(0, .ref m0), (2, .int 4), (3, .int (nI x)), (4, .int (nI (by2 f p1))), (5, .int (nI p)), (6, .int (nI s3)), (7, .int (nI i)), (8, .int (nI (by4 f (p + 2)))), (10, .int (nI w))], [.int 0], M188) _
              refine ps_st (S' := (210, [(0, .ref m0), (2, .int 4), (3, .int (nI x)), (4, .int (nI (by2 f p1))), (5, .int (nI p)), (6, .int (nI s3)), (7, .int (nI i)), (8, .int (nI (by4 f (p + 2)))), (10, .int (nI w))], [], M188)) rfl rfl rfl ?_
              refine ps_st (S' := (211, [(0, .ref m0), (2, .int 4), (3, .int (nI x)), (4, .int (nI (by2 f p1))), (5, .int (nI p)), (6, .int (nI s3)), (7, .int (nI i)), (8, .int (nI (by4 f (p + 2)))), (10, .int (nI w))], [.int (-1)], M188)) rfl rfl rfl ?_
              exact ps_ret rfl rfl (Or.inl ⟨(29, p), I190, R191, by
                  rw [← hs9, clS_29 (i := i) (p := p) (s := s2) hi0 h1 hsm hw2.1 (by omega)], rfl, hR192, hEI212, hER213, hi195, hi196⟩)
        · have c_86 : ¬ ((nI 10) ≤ (nI k)) := of_decide_eq_false c_86
          have n_86 : ¬ (10 ≤ k) := fun h9 => c_86 ((le_nI (p := 10) (n := k) (by decide) (by omega)).mpr h9)
          refine ps_st (S' := (90, [(0, .ref m0), (2, .int 4), (3, .int (nI x)), (4, .int (nI (by2 f p1))), (5, .int (nI p)), (6, .int (nI s3)), (7, .int (nI i)), (8, .int (nI (by4 f (p + 2)))), (9, .int (nI t)), (10, .int (gI (kb mj 4 (tX f n E (by2 f p)) k))), (11, .int (nI k))], [.ref m0], M1)) rfl rfl rfl ?_
          refine pr_ref (j := 63) (S' := (93, [(0, .ref m0), (2, .int 4), (3, .int (nI x)), (4, .int (nI (by2 f p1))), (5, .int (nI p)), (6, .int (nI s3)), (7, .int (nI i)), (8, .int (nI (by4 f (p + 2)))), (9, .int (nI t)), (10, .int (gI (kb mj 4 (tX f n E (by2 f p)) k))), (11, .int (nI k))], [.ref (q 63)], M1)) rfl hR1 rfl rfl ?_
          refine ps_st (S' := (95, [(0, .ref m0), (2, .int 4), (3, .int (nI x)), (4, .int (nI (by2 f p1))), (5, .int (nI p)), (6, .int (nI s3)), (7, .int (nI i)), (8, .int (nI (by4 f (p + 2)))), (9, .int (nI t)), (10, .int (gI (kb mj 4 (tX f n E (by2 f p)) k))), (11, .int (nI k))], [.int (nI k), .ref (q 63)], M1)) rfl rfl rfl ?_
          have hki_95 := kiN_lt k
          refine pr_ld (a := 63) (j := k) (y := (nI (kiN k))) (S' := (96, [(0, .ref m0), (2, .int 4), (3, .int (nI x)), (4, .int (nI (by2 f p1))), (5, .int (nI p)), (6, .int (nI s3)), (7, .int (nI i)), (8, .int (nI (by4 f (p + 2)))), (9, .int (nI t)), (10, .int (gI (kb mj 4 (tX f n E (by2 f p)) k))), (11, .int (nI k))], [.int (nI (kiN k))], M1)) rfl hR1 rfl (by omega) (fun _ => (hK1 k (by omega)).1) rfl (fun i1_95 => ?_)
          refine ps_st (S' := (97, [(0, .ref m0), (2, .int 4), (3, .int (nI x)), (4, .int (nI (by2 f p1))), (5, .int (nI p)), (6, .int (nI s3)), (7, .int (nI i)), (8, .int (nI (by4 f (p + 2)))), (9, .int (nI t)), (10, .int (gI (kb mj 4 (tX f n E (by2 f p)) k))), (11, .int (nI k))], [.int 4, .int (nI (kiN k))], M1)) rfl rfl rfl ?_
          refine ps_if2 (S1 := (134, [(0, .ref m0), (2, .int 4), (3, .int (nI x)), (4, .int (nI (by2 f p1))), (5, .int (nI p)), (6, .int (nI s3)), (7, .int (nI i)), (8, .int (nI (by4 f (p + 2)))), (9, .int (nI t)), (10, .int (gI (kb mj 4 (tX f n E (by2 f p)) k))), (11, .int (nI k))], [], M1)) (S2 := (100, [(0, .ref m0), (2, .int 4), (3, .int (nI x)), (4, .int (nI (by2 f p1))), (5, .int (nI p)), (6, .int (nI s3)), (7, .int (nI i)), (8, .int (nI (by4 f (p + 2)))), (9, .int (nI t)), (10, .int (gI (kb mj 4 (tX f n E (by2 f p)) k))), (11, .int (nI k))], [], M1)) rfl rfl rfl (fun c_97 => ?_) (fun c_97 => ?_)
          · have c_97 : ¬ (nI (kiN k)) = 4 := of_decide_eq_true c_97
            have n_97 : ¬ (kiN k = 4) := fun h9 => c_97 ((eq_nI (p := kiN k) (n := 4) (Nat.lt_trans (kiN_lt _) (by decide)) (by decide)).mpr h9)
            refine ps_st (S' := (137, [(11, .int ((nI k) + 1)), (0, .ref m0), (2, .int 4), (3, .int (nI x)), (4, .int (nI (by2 f p1))), (5, .int (nI p)), (6, .int (nI s3)), (7, .int (nI i)), (8, .int (nI (by4 f (p + 2)))), (9, .int (nI t)), (10, .int (gI (kb mj 4 (tX f n E (by2 f p)) k)))], [], M1)) rfl rfl rfl ?_
            rw [nI_add1 (p := k) (k := 1) (x := 1) rfl (by omega)]
            show pl _ _ _ (_, [(11, .int (nI (k + 1))), (0, .ref m0), (2, .int 4), (3, .int (nI x)), (4, .int (nI (by2 f p1))), (5, .int (nI p)), (6, .int (nI s3)), (7, .int (nI i)), (8, .int (nI (by4 f (p + 2)))), (9, .int (nI t)), (10, .int (gI (kb mj 4 (tX f n E (by2 f p)) k)))], [], M1) _
            refine ps_st (S' := (79, [(0, .ref m0), (2, .int 4), (3, .int (nI x)), (4, .int (nI (by2 f p1))), (5, .int (nI p)), (6, .int (nI s3)), (7, .int (nI i)), (8, .int (nI (by4 f (p + 2)))), (9, .int (nI t)), (10, .int (gI (kb mj 4 (tX f n E (by2 f p)) k))), (11, .int (nI (k + 1)))], [], M1)) rfl rfl rfl ?_
            have hkb : (gI (kb mj 4 (tX f n E (by2 f p)) k)) = gI (kb mj 4 (tX f n E (by2 f p)) (k + 1)) := by
              conv => rhs; unfold kb
              rw [if_neg (by omega)]
            rw [hkb]
            exact ih.2 (i) (p) (s2) (s3) (k + 1) (t) (bc) (K) M1 I1 R1 hR1 hEI1 hER1 hl51 hl52 hl53 hl58 hl71 hl66 hl65 hl68 hl69 hl70 hl72 hF1 hY1 hP1 hK1 (hi0) (hl) (hb) (ha) (hs9) (hu) (hkn) (by omega) (h1) (hsy)
          · have c_97 : ¬ (¬ (nI (kiN k)) = 4) := of_decide_eq_false c_97
            have n_97 : kiN k = 4 := (eq_nI (p := kiN k) (n := 4) (Nat.lt_trans (kiN_lt _) (by decide)) (by decide)).mp (Decidable.not_not.mp c_97)
            refine ps_st (S' := (101, [(0, .ref m0), (2, .int 4), (3, .int (nI x)), (4, .int (nI (by2 f p1))), (5, .int (nI p)), (6, .int (nI s3)), (7, .int (nI i)), (8, .int (nI (by4 f (p + 2)))), (9, .int (nI t)), (10, .int (gI (kb mj 4 (tX f n E (by2 f p)) k))), (11, .int (nI k))], [.ref m0], M1)) rfl rfl rfl ?_
            refine pr_int (j := 53) (S' := (104, [(0, .ref m0), (2, .int 4), (3, .int (nI x)), (4, .int (nI (by2 f p1))), (5, .int (nI p)), (6, .int (nI s3)), (7, .int (nI i)), (8, .int (nI (by4 f (p + 2)))), (9, .int (nI t)), (10, .int (gI (kb mj 4 (tX f n E (by2 f p)) k))), (11, .int (nI k))], [.int (nI mj)], M1)) rfl hR1 rfl hl53 rfl ?_
            refine ps_st (S' := (105, [(0, .ref m0), (2, .int 4), (3, .int (nI x)), (4, .int (nI (by2 f p1))), (5, .int (nI p)), (6, .int (nI s3)), (7, .int (nI i)), (8, .int (nI (by4 f (p + 2)))), (9, .int (nI t)), (10, .int (gI (kb mj 4 (tX f n E (by2 f p)) k))), (11, .int (nI k))], [.ref m0, .int (nI mj)], M1)) rfl rfl rfl ?_
            refine pr_ref (j := 64) (S' := (108, [(0, .ref m0), (2, .int 4), (3, .int (nI x)), (4, .int (nI (by2 f p1))), (5, .int (nI p)), (6, .int (nI s3)), (7, .int (nI i)), (8, .int (nI (by4 f (p + 2)))), (9, .int (nI t)), (10, .int (gI (kb mj 4 (tX f n E (by2 f p)) k))), (11, .int (nI k))], [.ref (q 64), .int (nI mj)], M1)) rfl hR1 rfl rfl ?_
            refine ps_st (S' := (110, [(0, .ref m0), (2, .int 4), (3, .int (nI x)), (4, .int (nI (by2 f p1))), (5, .int (nI p)), (6, .int (nI s3)), (7, .int (nI i)), (8, .int (nI (by4 f (p + 2)))), (9, .int (nI t)), (10, .int (gI (kb mj 4 (tX f n E (by2 f p)) k))), (11, .int (nI k))], [.int (nI k), .ref (q 64), .int (nI mj)], M1)) rfl rfl rfl ?_
            have hkf_110 := kfN_lt k
            refine pr_ld (a := 64) (j := k) (y := (nI (kfN k))) (S' := (111, [(0, .ref m0), (2, .int 4), (3, .int (nI x)), (4, .int (nI (by2 f p1))), (5, .int (nI p)), (6, .int (nI s3)), (7, .int (nI i)), (8, .int (nI (by4 f (p + 2)))), (9, .int (nI t)), (10, .int (gI (kb mj 4 (tX f n E (by2 f p)) k))), (11, .int (nI k))], [.int (nI (kfN k)), .int (nI mj)], M1)) rfl hR1 rfl (by omega) (fun _ => (hK1 k (by omega)).2) rfl (fun i1_110 => ?_)
            refine ps_if2 (S1 := (134, [(0, .ref m0), (2, .int 4), (3, .int (nI x)), (4, .int (nI (by2 f p1))), (5, .int (nI p)), (6, .int (nI s3)), (7, .int (nI i)), (8, .int (nI (by4 f (p + 2)))), (9, .int (nI t)), (10, .int (gI (kb mj 4 (tX f n E (by2 f p)) k))), (11, .int (nI k))], [], M1)) (S2 := (114, [(0, .ref m0), (2, .int 4), (3, .int (nI x)), (4, .int (nI (by2 f p1))), (5, .int (nI p)), (6, .int (nI s3)), (7, .int (nI i)), (8, .int (nI (by4 f (p + 2)))), (9, .int (nI t)), (10, .int (gI (kb mj 4 (tX f n E (by2 f p)) k))), (11, .int (nI k))], [], M1)) rfl rfl rfl (fun c_111 => ?_) (fun c_111 => ?_)
            · have c_111 : (nI mj) < (nI (kfN k)) := of_decide_eq_true c_111
              have n_111 : mj < kfN k := (lt_nI (p := mj) (n := kfN k) (by omega) (Nat.lt_trans (kfN_lt _) (by decide))).mp c_111
              refine ps_st (S' := (137, [(11, .int ((nI k) + 1)), (0, .ref m0), (2, .int 4), (3, .int (nI x)), (4, .int (nI (by2 f p1))), (5, .int (nI p)), (6, .int (nI s3)), (7, .int (nI i)), (8, .int (nI (by4 f (p + 2)))), (9, .int (nI t)), (10, .int (gI (kb mj 4 (tX f n E (by2 f p)) k)))], [], M1)) rfl rfl rfl ?_
              rw [nI_add1 (p := k) (k := 1) (x := 1) rfl (by omega)]
              show pl _ _ _ (_, [(11, .int (nI (k + 1))), (0, .ref m0), (2, .int 4), (3, .int (nI x)), (4, .int (nI (by2 f p1))), (5, .int (nI p)), (6, .int (nI s3)), (7, .int (nI i)), (8, .int (nI (by4 f (p + 2)))), (9, .int (nI t)), (10, .int (gI (kb mj 4 (tX f n E (by2 f p)) k)))], [], M1) _
              refine ps_st (S' := (79, [(0, .ref m0), (2, .int 4), (3, .int (nI x)), (4, .int (nI (by2 f p1))), (5, .int (nI p)), (6, .int (nI s3)), (7, .int (nI i)), (8, .int (nI (by4 f (p + 2)))), (9, .int (nI t)), (10, .int (gI (kb mj 4 (tX f n E (by2 f p)) k))), (11, .int (nI (k + 1)))], [], M1)) rfl rfl rfl ?_
              have hkb : (gI (kb mj 4 (tX f n E (by2 f p)) k)) = gI (kb mj 4 (tX f n E (by2 f p)) (k + 1)) := by
                conv => rhs; unfold kb
                rw [if_neg (by omega)]
              rw [hkb]
              exact ih.2 (i) (p) (s2) (s3) (k + 1) (t) (bc) (K) M1 I1 R1 hR1 hEI1 hER1 hl51 hl52 hl53 hl58 hl71 hl66 hl65 hl68 hl69 hl70 hl72 hF1 hY1 hP1 hK1 (hi0) (hl) (hb) (ha) (hs9) (hu) (hkn) (by omega) (h1) (hsy)
            · have c_111 : ¬ ((nI mj) < (nI (kfN k))) := of_decide_eq_false c_111
              have n_111 : ¬ (mj < kfN k) := fun h9 => c_111 ((lt_nI (p := mj) (n := kfN k) (by omega) (Nat.lt_trans (kfN_lt _) (by decide))).mpr h9)
              refine ps_st (S' := (115, [(0, .ref m0), (2, .int 4), (3, .int (nI x)), (4, .int (nI (by2 f p1))), (5, .int (nI p)), (6, .int (nI s3)), (7, .int (nI i)), (8, .int (nI (by4 f (p + 2)))), (9, .int (nI t)), (10, .int (gI (kb mj 4 (tX f n E (by2 f p)) k))), (11, .int (nI k))], [.ref m0], M1)) rfl rfl rfl ?_
              refine ps_st (S' := (117, [(0, .ref m0), (2, .int 4), (3, .int (nI x)), (4, .int (nI (by2 f p1))), (5, .int (nI p)), (6, .int (nI s3)), (7, .int (nI i)), (8, .int (nI (by4 f (p + 2)))), (9, .int (nI t)), (10, .int (gI (kb mj 4 (tX f n E (by2 f p)) k))), (11, .int (nI k))], [.int (nI t), .ref m0], M1)) rfl rfl rfl ?_
              refine ps_st (S' := (118, [(0, .ref m0), (2, .int 4), (3, .int (nI x)), (4, .int (nI (by2 f p1))), (5, .int (nI p)), (6, .int (nI s3)), (7, .int (nI i)), (8, .int (nI (by4 f (p + 2)))), (9, .int (nI t)), (10, .int (gI (kb mj 4 (tX f n E (by2 f p)) k))), (11, .int (nI k))], [.ref m0, .int (nI t), .ref m0], M1)) rfl rfl rfl ?_
              refine pr_ref (j := 62) (S' := (121, [(0, .ref m0), (2, .int 4), (3, .int (nI x)), (4, .int (nI (by2 f p1))), (5, .int (nI p)), (6, .int (nI s3)), (7, .int (nI i)), (8, .int (nI (by4 f (p + 2)))), (9, .int (nI t)), (10, .int (gI (kb mj 4 (tX f n E (by2 f p)) k))), (11, .int (nI k))], [.ref (q 62), .int (nI t), .ref m0], M1)) rfl hR1 rfl rfl ?_
              refine ps_st (S' := (123, [(0, .ref m0), (2, .int 4), (3, .int (nI x)), (4, .int (nI (by2 f p1))), (5, .int (nI p)), (6, .int (nI s3)), (7, .int (nI i)), (8, .int (nI (by4 f (p + 2)))), (9, .int (nI t)), (10, .int (gI (kb mj 4 (tX f n E (by2 f p)) k))), (11, .int (nI k))], [.int (nI k), .ref (q 62), .int (nI t), .ref m0], M1)) rfl rfl rfl ?_
              refine pr_kn (j := k) (S' := (124, [(0, .ref m0), (2, .int 4), (3, .int (nI x)), (4, .int (nI (by2 f p1))), (5, .int (nI p)), (6, .int (nI s3)), (7, .int (nI i)), (8, .int (nI (by4 f (p + 2)))), (9, .int (nI t)), (10, .int (gI (kb mj 4 (tX f n E (by2 f p)) k))), (11, .int (nI k))], [.ref (g.2.1 (15 + k)), .int (nI t), .ref m0], M1)) rfl hR1 (by omega) rfl ?_
              refine pl_call (a := [.ref m0, .int (nI t), .ref (g.2.1 (15 + k))]) (rest := []) rfl rfl rfl (rd_is (tx := tx) (cN := cN) (A := A) (s := t) (l := (tX f n E (by2 f p))) (lk := (15 + k)) hR1 hY1 (hsy) (⟨by omega, by omega⟩)) (fun v214 M215 q216 => ?_)
              obtain ⟨rfl, rfl⟩ := q216
              show pl _ _ _ (127, [(0, .ref m0), (2, .int 4), (3, .int (nI x)), (4, .int (nI (by2 f p1))), (5, .int (nI p)), (6, .int (nI s3)), (7, .int (nI i)), (8, .int (nI (by4 f (p + 2)))), (9, .int (nI t)), (10, .int (gI (kb mj 4 (tX f n E (by2 f p)) k))), (11, .int (nI k))], [.int (nI (eqN (tX f n E (by2 f p)) (ltx (15 + k))))], M1) _
              refine ps_if (S1 := (134, [(0, .ref m0), (2, .int 4), (3, .int (nI x)), (4, .int (nI (by2 f p1))), (5, .int (nI p)), (6, .int (nI s3)), (7, .int (nI i)), (8, .int (nI (by4 f (p + 2)))), (9, .int (nI t)), (10, .int (gI (kb mj 4 (tX f n E (by2 f p)) k))), (11, .int (nI k))], [], M1)) (S2 := (130, [(0, .ref m0), (2, .int 4), (3, .int (nI x)), (4, .int (nI (by2 f p1))), (5, .int (nI p)), (6, .int (nI s3)), (7, .int (nI i)), (8, .int (nI (by4 f (p + 2)))), (9, .int (nI t)), (10, .int (gI (kb mj 4 (tX f n E (by2 f p)) k))), (11, .int (nI k))], [], M1)) rfl rfl rfl (fun c_127 => ?_) (fun c_127 => ?_)
              · have c_127 : (nI (eqN (tX f n E (by2 f p)) (ltx (15 + k)))) = 0 := of_decide_eq_true c_127
                have n_127 : eqN (tX f n E (by2 f p)) (ltx (15 + k)) = 0 := (eq_nI (p := eqN (tX f n E (by2 f p)) (ltx (15 + k))) (n := 0) (Nat.lt_trans (le1_eq _ _) (by decide)) (by decide)).mp c_127
                refine ps_st (S' := (137, [(11, .int ((nI k) + 1)), (0, .ref m0), (2, .int 4), (3, .int (nI x)), (4, .int (nI (by2 f p1))), (5, .int (nI p)), (6, .int (nI s3)), (7, .int (nI i)), (8, .int (nI (by4 f (p + 2)))), (9, .int (nI t)), (10, .int (gI (kb mj 4 (tX f n E (by2 f p)) k)))], [], M1)) rfl rfl rfl ?_
                rw [nI_add1 (p := k) (k := 1) (x := 1) rfl (by omega)]
                show pl _ _ _ (_, [(11, .int (nI (k + 1))), (0, .ref m0), (2, .int 4), (3, .int (nI x)), (4, .int (nI (by2 f p1))), (5, .int (nI p)), (6, .int (nI s3)), (7, .int (nI i)), (8, .int (nI (by4 f (p + 2)))), (9, .int (nI t)), (10, .int (gI (kb mj 4 (tX f n E (by2 f p)) k)))], [], M1) _
                refine ps_st (S' := (79, [(0, .ref m0), (2, .int 4), (3, .int (nI x)), (4, .int (nI (by2 f p1))), (5, .int (nI p)), (6, .int (nI s3)), (7, .int (nI i)), (8, .int (nI (by4 f (p + 2)))), (9, .int (nI t)), (10, .int (gI (kb mj 4 (tX f n E (by2 f p)) k))), (11, .int (nI (k + 1)))], [], M1)) rfl rfl rfl ?_
                have hkb : (gI (kb mj 4 (tX f n E (by2 f p)) k)) = gI (kb mj 4 (tX f n E (by2 f p)) (k + 1)) := by
                  conv => rhs; unfold kb
                  rw [if_neg (by omega)]
                rw [hkb]
                exact ih.2 (i) (p) (s2) (s3) (k + 1) (t) (bc) (K) M1 I1 R1 hR1 hEI1 hER1 hl51 hl52 hl53 hl58 hl71 hl66 hl65 hl68 hl69 hl70 hl72 hF1 hY1 hP1 hK1 (hi0) (hl) (hb) (ha) (hs9) (hu) (hkn) (by omega) (h1) (hsy)
              · have c_127 : ¬ ((nI (eqN (tX f n E (by2 f p)) (ltx (15 + k)))) = 0) := of_decide_eq_false c_127
                have n_127 : ¬ (eqN (tX f n E (by2 f p)) (ltx (15 + k)) = 0) := fun h9 => c_127 ((eq_nI (p := eqN (tX f n E (by2 f p)) (ltx (15 + k))) (n := 0) (Nat.lt_trans (le1_eq _ _) (by decide)) (by decide)).mpr h9)
                refine ps_st (S' := (132, [(0, .ref m0), (2, .int 4), (3, .int (nI x)), (4, .int (nI (by2 f p1))), (5, .int (nI p)), (6, .int (nI s3)), (7, .int (nI i)), (8, .int (nI (by4 f (p + 2)))), (9, .int (nI t)), (10, .int (gI (kb mj 4 (tX f n E (by2 f p)) k))), (11, .int (nI k))], [.int (nI k)], M1)) rfl rfl rfl ?_
                refine ps_st (S' := (134, [(0, .ref m0), (2, .int 4), (3, .int (nI x)), (4, .int (nI (by2 f p1))), (5, .int (nI p)), (6, .int (nI s3)), (7, .int (nI i)), (8, .int (nI (by4 f (p + 2)))), (9, .int (nI t)), (10, .int (nI k)), (11, .int (nI k))], [], M1)) rfl rfl rfl ?_
                refine ps_st (S' := (137, [(11, .int ((nI k) + 1)), (0, .ref m0), (2, .int 4), (3, .int (nI x)), (4, .int (nI (by2 f p1))), (5, .int (nI p)), (6, .int (nI s3)), (7, .int (nI i)), (8, .int (nI (by4 f (p + 2)))), (9, .int (nI t)), (10, .int (nI k))], [], M1)) rfl rfl rfl ?_
                rw [nI_add1 (p := k) (k := 1) (x := 1) rfl (by omega)]
                show pl _ _ _ (_, [(11, .int (nI (k + 1))), (0, .ref m0), (2, .int 4), (3, .int (nI x)), (4, .int (nI (by2 f p1))), (5, .int (nI p)), (6, .int (nI s3)), (7, .int (nI i)), (8, .int (nI (by4 f (p + 2)))), (9, .int (nI t)), (10, .int (nI k))], [], M1) _
                refine ps_st (S' := (79, [(0, .ref m0), (2, .int 4), (3, .int (nI x)), (4, .int (nI (by2 f p1))), (5, .int (nI p)), (6, .int (nI s3)), (7, .int (nI i)), (8, .int (nI (by4 f (p + 2)))), (9, .int (nI t)), (10, .int (nI k)), (11, .int (nI (k + 1)))], [], M1)) rfl rfl rfl ?_
                have hkb : (nI k) = gI (kb mj 4 (tX f n E (by2 f p)) (k + 1)) := by
                  conv => rhs; unfold kb
                  rw [if_pos ⟨by omega, by omega, by omega⟩]
                  rfl
                rw [hkb]
                exact ih.2 (i) (p) (s2) (s3) (k + 1) (t) (bc) (K) M1 I1 R1 hR1 hEI1 hER1 hl51 hl52 hl53 hl58 hl71 hl66 hl65 hl68 hl69 hl70 hl72 hF1 hY1 hP1 hK1 (hi0) (hl) (hb) (ha) (hs9) (hu) (hkn) (by omega) (h1) (hsy)
  refine ps_st (S' := (1, [(0, .ref m0), (1, .int (nI p1)), (2, .int 4), (3, .int (nI x))], [.ref m0], M)) rfl rfl rfl ?_
  refine ps_st (S' := (2, [(0, .ref m0), (1, .int (nI p1)), (2, .int 4), (3, .int (nI x))], [.int (nI p1), .ref m0], M)) rfl rfl rfl ?_
  refine pl_call (a := [.ref m0, .int (nI p1)]) (rest := []) rfl rfl rfl (rd_u2 (n := n) (f := f) (p := p1) hR hF (by omega)) (fun v217 M218 q219 => ?_)
  obtain ⟨rfl, rfl⟩ := q219
  show pl _ _ _ (5, [(0, .ref m0), (1, .int (nI p1)), (2, .int 4), (3, .int (nI x))], [.int (nI (by2 f p1))], M) _
  have hu_2 := by2_lt f p1
  refine ps_st (S' := (7, [(4, .int (nI (by2 f p1))), (0, .ref m0), (1, .int (nI p1)), (2, .int 4), (3, .int (nI x))], [], M)) rfl rfl rfl ?_
  refine ps_st (S' := (8, [(4, .int (nI (by2 f p1))), (0, .ref m0), (1, .int (nI p1)), (2, .int 4), (3, .int (nI x))], [.int (nI p1)], M)) rfl rfl rfl ?_
  refine ps_st (S' := (9, [(4, .int (nI (by2 f p1))), (0, .ref m0), (1, .int (nI p1)), (2, .int 4), (3, .int (nI x))], [.int 2, .int (nI p1)], M)) rfl rfl rfl ?_
  refine ps_st (S' := (10, [(4, .int (nI (by2 f p1))), (0, .ref m0), (1, .int (nI p1)), (2, .int 4), (3, .int (nI x))], [.int ((nI p1) + 2)], M)) rfl rfl rfl ?_
  rw [nI_add1 (p := p1) (k := 2) (x := 2) rfl (by omega)]
  show pl _ _ _ (_, [(4, .int (nI (by2 f p1))), (0, .ref m0), (1, .int (nI p1)), (2, .int 4), (3, .int (nI x))], [.int (nI (p1 + 2))], M) _
  refine ps_st (S' := (12, [(5, .int (nI (p1 + 2))), (4, .int (nI (by2 f p1))), (0, .ref m0), (1, .int (nI p1)), (2, .int 4), (3, .int (nI x))], [], M)) rfl rfl rfl ?_
  refine ps_st (S' := (13, [(5, .int (nI (p1 + 2))), (4, .int (nI (by2 f p1))), (0, .ref m0), (1, .int (nI p1)), (2, .int 4), (3, .int (nI x))], [.int 0], M)) rfl rfl rfl ?_
  refine ps_st (S' := (15, [(6, .int 0), (5, .int (nI (p1 + 2))), (4, .int (nI (by2 f p1))), (0, .ref m0), (1, .int (nI p1)), (2, .int 4), (3, .int (nI x))], [], M)) rfl rfl rfl ?_
  refine ps_st (S' := (16, [(6, .int 0), (5, .int (nI (p1 + 2))), (4, .int (nI (by2 f p1))), (0, .ref m0), (1, .int (nI p1)), (2, .int 4), (3, .int (nI x))], [.int 0], M)) rfl rfl rfl ?_
  refine ps_st (S' := (18, [(0, .ref m0), (2, .int 4), (3, .int (nI x)), (4, .int (nI (by2 f p1))), (5, .int (nI (p1 + 2))), (6, .int 0), (7, .int 0)], [], M)) rfl rfl rfl ?_
  exact (LL kf).1 (0) (p1 + 2) (0) (0) (0) ((0, 0, 0, 0, 0, -1)) M I R hR hEI hER hi51 hi52 hi53 hi58 hi71 hi66 hi65 hi68 hi69 hi70 hi72 hF hY hP hK (by omega) (by decide) (fun w _ _ => by rw [sb_0, sb_0]) (hat) (rfl) (rfl) (Nat.le_refl _)
end
section
/-! a method's attributes, as the reference checks them (laid by wip/p4/e16.py) -/
def CX (h x : Nat) (I : rI) (R : rR) : Prop := if h = 0 then R 37 x = some (-1) else ∃ c, c < 70000 ∧ R 37 x = some (nI c)
theorem CX.mono {h x : Nat} {I I' : rI} {R R' : rR} (hc : CX h x I R) (hI : ∀ k, k ∈ ([] : List Nat) → I' k = I k) (hR : ∀ k, k ∈ [37] → R' k = R k) : CX h x I' R' := by
  unfold CX
  rw [hR 37 (by decide)]
  exact hc
section MAS
variable {f : Nat → Int32} {n : Nat} {E : List (Nat × Nat)} {mj wa c i p s h w : Nat}
variable (f n E mj wa) in
/-- what a method's attribute of the reference's number w (1: code, 2: exceptions) at p says -/
def mbS (w p : Nat) : (Nat × Nat) ⊕ Nat := if w = 1 then cdS f n E mj wa p 0 else if clA f E (p + 6 + 2) (by2 f (p + 6)) 0 = 0 then .inl (32, p) else .inr 0
theorem caS_any : ∀ {r p s s0 : Nat}, sb s 4 = sb s0 4 → (∀ e, caS f n E mj r p s0 = .inl e → caS f n E mj r p s = .inl e) ∧ (∀ s1, caS f n E mj r p s0 = .inr s1 → ∃ s', caS f n E mj r p s = .inr s' ∧ ∀ j, ¬ j = 4 → sb s' j = sb s j) := by
  intro r
  induction r with
  | zero =>
    intro p s s0 _
    exact ⟨fun e h9 => (by cases h9), fun s1 _ => ⟨s, rfl, fun _ _ => rfl⟩⟩
  | succ r ih =>
    intro p s s0 hs
    have hk : smN4 f n E mj (by2 f p) = 0 ∨ smN4 f n E mj (by2 f p) = 4 := by
      unfold smN4
      split
      · exact Or.inr rfl
      · exact Or.inl rfl
    unfold caS
    by_cases ht : ¬ tg f E (by2 f p) = 1
    · have e1 : ∀ s k, nwS f E s k p = .inl (28, p) := fun s k => by unfold nwS; rw [if_pos ht]
      rw [e1, e1]
      exact ⟨fun e h9 => h9, fun s1 h9 => (by cases h9)⟩
    · rcases hk with hk | hk
      · have e1 : ∀ s, nwS f E s 0 p = .inr s := fun s => by unfold nwS; rw [if_neg ht, if_pos rfl]
        rw [hk, e1, e1]
        exact ih hs
      · by_cases h4 : ¬ sb s 4 = 0
        · have e1 : ∀ s, ¬ sb s 4 = 0 → nwS f E s 4 p = .inl (29, p) := fun s h => by unfold nwS; rw [if_neg ht, if_neg (by decide), if_pos h]
          rw [hk, e1 s h4, e1 s0 (by omega)]
          exact ⟨fun e h9 => h9, fun s1 h9 => (by cases h9)⟩
        · have e1 : ∀ s, ¬ ¬ sb s 4 = 0 → nwS f E s 4 p = .inr (so s 4) := fun s h => by unfold nwS; rw [if_neg ht, if_neg (by decide), if_neg h]
          rw [hk, e1 s h4, e1 s0 (by omega)]
          have h9 := ih (p := p + 6 + by4 f (p + 2)) (s := so s 4) (s0 := so s0 4) (by rw [sb_so, sb_so, if_pos rfl, if_pos rfl])
          refine ⟨h9.1, fun s1 h8 => ?_⟩
          obtain ⟨s', h7, h6⟩ := h9.2 s1 h8
          exact ⟨s', h7, fun j hj => by rw [h6 j hj, sb_so, if_neg hj]⟩
theorem cdS_any (hs : sb s 4 = 0) : (∀ e, cdS f n E mj wa p 0 = .inl e → cdS f n E mj wa p s = .inl e) ∧ (∀ s1, cdS f n E mj wa p 0 = .inr s1 → ∃ s', cdS f n E mj wa p s = .inr s' ∧ ∀ j, ¬ j = 4 → sb s' j = sb s j) := by
  unfold cdS
  split
  · exact ⟨fun e h9 => h9, fun s1 h9 => (by cases h9)⟩
  · split
    · exact ⟨fun e h9 => h9, fun s1 h9 => (by cases h9)⟩
    · split
      · exact ⟨fun e h9 => h9, fun s1 h9 => (by cases h9)⟩
      · exact caS_any (by rw [hs, sb_0])
theorem maS_28 (hi : i < c) (ht : ¬ tg f E (by2 f p) = 1) : maS f n E mj wa (c - i) p s h = .inl (28, p) := by
  rw [maS_st hi, show nwS f E s (mkN f n E (by2 f p)) p = .inl (28, p) by unfold nwS; rw [if_pos ht]]
theorem maS_29 (hi : i < c) (ht : tg f E (by2 f p) = 1) (hk : mkN f n E (by2 f p) = w + 1) (hs : ¬ sb s (w + 1) = 0) : maS f n E mj wa (c - i) p s h = .inl (29, p) := by
  rw [maS_st hi, hk, show nwS f E s (w + 1) p = .inl (29, p) by unfold nwS; rw [if_neg (fun h9 => h9 ht), if_neg (by omega), if_pos hs]]
theorem maS_u (hi : i < c) (ht : tg f E (by2 f p) = 1) (hk : mkN f n E (by2 f p) = 0) : maS f n E mj wa (c - i) p s h = maS f n E mj wa (c - (i + 1)) (p + 6 + by4 f (p + 2)) s h := by
  rw [maS_st hi, hk, show nwS f E s 0 p = .inr s by unfold nwS; rw [if_neg (fun h9 => h9 ht), if_pos rfl]]
  dsimp only
  rw [if_neg (fun h9 => h9.1 rfl), if_neg (by decide), if_neg (fun h9 => absurd h9.1 (by decide))]
theorem nw_k (ht : tg f E (by2 f p) = 1) (hs : sb s (w + 1) = 0) : nwS f E s (w + 1) p = .inr (so s (w + 1)) := by
  unfold nwS
  rw [if_neg (fun h9 => h9 ht), if_neg (by omega), if_neg (fun h9 => h9 hs)]
theorem maS_30 (hi : i < c) (ht : tg f E (by2 f p) = 1) (hk : mkN f n E (by2 f p) = w + 1) (hs : sb s (w + 1) = 0) (hf : ¬ s_fe f (w + 1) (p + 6) (p + 6 + by4 f (p + 2)) = some (p + 6 + by4 f (p + 2))) : maS f n E mj wa (c - i) p s h = .inl (30, p) := by
  rw [maS_st hi, hk, nw_k ht hs]
  dsimp only
  rw [if_pos ⟨by omega, hf⟩]
theorem maS_kb {e : Nat × Nat} (hi : i < c) (ht : tg f E (by2 f p) = 1) (hk : mkN f n E (by2 f p) = w + 1) (hw : w = 1 ∨ w = 2) (hs : sb s (w + 1) = 0) (h4 : sb s 2 = 0 → sb s 4 = 0) (hf : s_fe f (w + 1) (p + 6) (p + 6 + by4 f (p + 2)) = some (p + 6 + by4 f (p + 2))) (hm : mbS f n E mj wa w p = .inl e) : maS f n E mj wa (c - i) p s h = .inl e := by
  rw [maS_st hi, hk, nw_k ht hs]
  dsimp only
  rw [if_neg (fun h9 => h9.2 hf)]
  rcases hw with rfl | rfl
  · unfold mbS at hm
    rw [if_pos rfl] at hm
    rw [if_pos (by decide), (cdS_any (s := so s (1 + 1)) (by rw [sb_so, if_neg (by decide)]; exact h4 hs)).1 e hm]
  · unfold mbS at hm
    rw [if_neg (by decide)] at hm
    split at hm
    · rename_i h9
      cases hm
      rw [if_neg (by decide), if_pos ⟨by decide, h9⟩]
    · cases hm
theorem maS_kg {s1 : Nat} (hi : i < c) (ht : tg f E (by2 f p) = 1) (hk : mkN f n E (by2 f p) = w + 1) (hw : w = 1 ∨ w = 2) (hs : sb s (w + 1) = 0) (h4 : sb s 2 = 0 → sb s 4 = 0) (hf : s_fe f (w + 1) (p + 6) (p + 6 + by4 f (p + 2)) = some (p + 6 + by4 f (p + 2))) (hm : mbS f n E mj wa w p = .inr s1) :
    ∃ s', maS f n E mj wa (c - i) p s h = maS f n E mj wa (c - (i + 1)) (p + 6 + by4 f (p + 2)) s' (if w = 1 then 1 else h) ∧ (∀ j, ¬ j = 4 → sb s' j = sb (so s (w + 1)) j) ∧ (w = 2 → s' = so s 3) := by
  rw [maS_st hi, hk, nw_k ht hs]
  dsimp only
  rw [if_neg (fun h9 => h9.2 hf)]
  rcases hw with rfl | rfl
  · unfold mbS at hm
    rw [if_pos rfl] at hm
    obtain ⟨s', h9, h8⟩ := (cdS_any (s := so s (1 + 1)) (by rw [sb_so, if_neg (by decide)]; exact h4 hs)).2 s1 hm
    refine ⟨s', ?_, h8, fun h7 => absurd h7 (by decide)⟩
    rw [if_pos (by decide), h9, if_pos rfl]
  · unfold mbS at hm
    rw [if_neg (by decide)] at hm
    split at hm
    · cases hm
    · rename_i h9
      refine ⟨so s 3, ?_, fun _ _ => rfl, fun _ => rfl⟩
      rw [if_neg (by decide), if_neg (fun h8 => h9 h8.2), if_neg (by decide)]
theorem mk_b {s3 s4 : Nat} (hw : w = 1 ∨ w = 2) (hb : sb s3 1 = sb s 2 ∧ sb s3 2 = sb s 3 ∧ (sb s 2 = 0 → sb s 4 = 0)) (hf : ∀ j, ¬ j = 4 → sb s4 j = sb (so s (w + 1)) j) (hg : w = 2 → s4 = so s 3) : sb (so s3 w) 1 = sb s4 2 ∧ sb (so s3 w) 2 = sb s4 3 ∧ (sb s4 2 = 0 → sb s4 4 = 0) := by
  rw [hf 2 (by decide), hf 3 (by decide)]
  rcases hw with rfl | rfl
  · rw [sb_so, sb_so, sb_so, sb_so]
    exact ⟨rfl, hb.2.1, fun h9 => absurd h9 (by rw [if_pos rfl]; decide)⟩
  · rw [hg rfl, sb_so, sb_so, sb_so, sb_so, sb_so]
    exact ⟨hb.1, rfl, hb.2.2⟩
end MAS
theorem kb_2 {mj : Nat} {l : List Nat} : kb mj 2 l 10 = if ¬ eqN l (ltx 17) = 0 then some 2 else if ¬ eqN l (ltx 16) = 0 then some 1 else none := by
  simp only [kb, kiN, kfN]
  simp
theorem lt_2 : ltx 1 = ltx 16 ∧ ltx 2 = ltx 17 := by decide +kernel
theorem lt_21 : ¬ ltx 16 = ltx 17 := by decide +kernel
theorem mk_kb {f : Nat → Int32} {n mj x : Nat} {E : List (Nat × Nat)} : (kb mj 2 (tX f n E x) 10 = none ∧ mkN f n E x = 0) ∨ ∃ w, kb mj 2 (tX f n E x) 10 = some w ∧ (w = 1 ∨ w = 2) ∧ mkN f n E x = w + 1 := by
  rw [kb_2]
  unfold mkN
  rw [lt_2.1, lt_2.2]
  generalize tX f n E x = l
  by_cases h1 : l = ltx 16
  · have e1 : eqN l (ltx 16) = 1 := by unfold eqN; rw [if_pos h1]
    have e2 : eqN l (ltx 17) = 0 := by unfold eqN; rw [if_neg (fun h => lt_21 (h1.symm.trans h))]
    rw [e1, e2]
    exact Or.inr ⟨1, rfl, Or.inl rfl, rfl⟩
  · have e1 : eqN l (ltx 16) = 0 := by unfold eqN; rw [if_neg h1]
    rw [e1]
    by_cases h2 : ¬ eqN l (ltx 17) = 0
    · exact Or.inr ⟨2, by rw [if_pos h2], Or.inr rfl, by rw [if_neg (by decide), if_pos h2]⟩
    · exact Or.inl ⟨by rw [if_neg h2, if_neg (by decide)], by rw [if_neg (by decide), if_neg h2]⟩
theorem mk_y {f : Nat → Int32} {n mj x : Nat} {E : List (Nat × Nat)} (h : ¬ (gI (kb mj 2 (tX f n E x) 10) < 0)) : ∃ w, kb mj 2 (tX f n E x) 10 = some w ∧ (w = 1 ∨ w = 2) ∧ mkN f n E x = w + 1 := by
  rcases mk_kb (f := f) (n := n) (E := E) (x := x) (mj := mj) with h9 | h9
  · rw [h9.1] at h
    exact absurd (by decide) h
  · exact h9
theorem mk_n {f : Nat → Int32} {n mj x : Nat} {E : List (Nat × Nat)} (h : gI (kb mj 2 (tX f n E x) 10) < 0) : mkN f n E x = 0 := by
  rcases mk_kb (f := f) (n := n) (E := E) (x := x) (mj := mj) with h9 | ⟨w, h8, h7, h6⟩
  · exact h9.2
  · rw [h8] at h
    exfalso
    have h2 : nI w < nI 0 := h
    have h3 := (lt_nI (p := w) (n := 0) (by omega) (by decide)).mp h2
    omega
end
section
/-! fields and methods in the reference's rows (my own text) -/
/-- a cell of a row -/
def CE (a x : Nat) (v : Int32) (I : rI) (R : rR) : Prop := R a x = some v
theorem CE.mono {a x : Nat} {v : Int32} {I I' : rI} {R R' : rR} (h : CE a x v I R) (hI : ∀ k, k ∈ ([] : List Nat) → I' k = I k) (hR : ∀ k, k ∈ [a] → R' k = R k) : CE a x v I' R' := by
  unfold CE
  rw [hR a List.mem_cons_self]
  exact h
theorem CE.st {a x : Nat} {v : Int32} {I : rI} {R R' : rR} (h : R' = rset R a x v) : CE a x v I R' := by
  unfold CE
  rw [h, rset_at]
/-- members' heads: where they begin, where they end -/
def MBS (f : Nat → Int32) (n : Nat) (B : List Nat) (p : Nat) (E1 : Nat → Nat) : Prop := B.length = by2 f p ∧ p + 2 ≤ n ∧ (0 < B.length → B.getD 0 0 = p + 2) ∧
  ∀ i, i < B.length → B.getD i 0 + 8 ≤ E1 i ∧ E1 i ≤ n ∧ s_atE f (E1 i) (by2 f (B.getD i 0 + 6)) (B.getD i 0 + 8) = some (E1 i) ∧ (i + 1 < B.length → B.getD (i + 1) 0 = E1 i)
/-- names and descriptors of the members that were kept, in the rows a and b from number f0 on -/
def FN (a b : Nat) (f : Nat → Int32) (n : Nat) (E : List (Nat × Nat)) (tx : List (List Nat)) (B : List Nat) (f0 k : Nat) (I : rI) (R : rR) : Prop := ∀ j, j < k → ∃ s d, R a (f0 + j) = some (nI s) ∧ R b (f0 + j) = some (nI d) ∧
  (s < tx.length ∧ tx.getD s [] = tX f n E (by2 f (B.getD j 0 + 2))) ∧ (d < tx.length ∧ tx.getD d [] = tX f n E (by2 f (B.getD j 0 + 4))) ∧ tg f E (by2 f (B.getD j 0 + 2)) = 1 ∧ tg f E (by2 f (B.getD j 0 + 4)) = 1
theorem FN.mono {a b : Nat} {f : Nat → Int32} {n : Nat} {E : List (Nat × Nat)} {tx : List (List Nat)} {B : List Nat} {f0 k : Nat} {I I' : rI} {R R' : rR} (h : FN a b f n E tx B f0 k I R) (hI : ∀ k, k ∈ ([] : List Nat) → I' k = I k) (hR : ∀ k, k ∈ [a, b] → R' k = R k) : FN a b f n E tx B f0 k I' R' := by
  unfold FN
  rw [hR a (by simp), hR b (by simp)]
  exact h
theorem FN.st {a b c x : Nat} {v : Int32} {f : Nat → Int32} {n : Nat} {E : List (Nat × Nat)} {tx : List (List Nat)} {B : List Nat} {f0 k : Nat} {I I' : rI} {R R' : rR} (h : FN a b f n E tx B f0 k I R) (hs : R' = rset R c x v) (hx : x = f0 + k) : FN a b f n E tx B f0 k I' R' := fun j hj => by
  obtain ⟨s, d, h1, h2, h3⟩ := h j hj
  refine ⟨s, d, ?_, ?_, h3⟩
  · rw [hs]
    by_cases e : a = c
    · rw [e] at h1 ⊢
      rw [rset_el (by omega)]
      exact h1
    · rw [rset_ne e]
      exact h1
  · rw [hs]
    by_cases e : b = c
    · rw [e] at h2 ⊢
      rw [rset_el (by omega)]
      exact h2
    · rw [rset_ne e]
      exact h2
theorem FN.more {a b s d p : Nat} {f : Nat → Int32} {n : Nat} {E : List (Nat × Nat)} {tx : List (List Nat)} {B : List Nat} {f0 k : Nat} {I : rI} {R : rR} (h : FN a b f n E tx B f0 k I R) (hp : p = B.getD k 0) (h1 : CE a (f0 + k) (nI s) I R) (h2 : CE b (f0 + k) (nI d) I R) (h3 : s < tx.length ∧ tx.getD s [] = tX f n E (by2 f (p + 2))) (h4 : d < tx.length ∧ tx.getD d [] = tX f n E (by2 f (p + 4))) (t1 : tg f E (by2 f (p + 2)) = 1) (t2 : tg f E (by2 f (p + 4)) = 1) : FN a b f n E tx B f0 (k + 1) I R := fun j hj => by
  by_cases e : j = k
  · rw [e, ← hp]
    exact ⟨s, d, h1, h2, h3, h4, t1, t2⟩
  · exact h j (by omega)
theorem ffl_0 (c x : Nat) : fflN c x = 0 ↔ (oneN x = 0 ∨ ¬ hallN x 80 = 0 ∨ (¬ aN c 512 = 0 ∧ ¬ aN x 16607 = 25)) := by
  have h1 := ffl_25 x
  have h2 := has_0 c 512
  unfold fflN
  split
  · split <;> omega
  · split <;> omega

section FHS
variable {f : Nat → Int32} {n : Nat} {E : List (Nat × Nat)} {c k p : Nat} {B : List Nat}
theorem fh_19 (h : fflN c (by2 f p) = 0) : fhS f n E c B k p = some (19, p) := by
  unfold fhS
  rw [if_pos h]
theorem fh_20 (h : ¬ fflN c (by2 f p) = 0) (h1 : unqN (tX f n E (by2 f (p + 2))) = 0) : fhS f n E c B k p = some (20, p + 2) := by
  unfold fhS
  rw [if_neg h, if_pos h1]
theorem fh_21 (h : ¬ fflN c (by2 f p) = 0) (h1 : ¬ unqN (tX f n E (by2 f (p + 2))) = 0) (h2 : fldN (tX f n E (by2 f (p + 4))) = 0) : fhS f n E c B k p = some (21, p + 4) := by
  unfold fhS
  rw [if_neg h, if_neg h1, if_pos h2]
theorem fh_22 (hp : p = B.getD k 0) (h : ¬ fflN c (by2 f p) = 0) (h1 : ¬ unqN (tX f n E (by2 f (p + 2))) = 0) (h2 : ¬ fldN (tX f n E (by2 f (p + 4))) = 0) (h3 : ¬ smeS f n E B (by2 f (p + 2)) (by2 f (p + 4)) k 0 = none) : fhS f n E c B k p = some (22, p) := by
  unfold fhS
  rw [if_neg h, if_neg h1, if_neg h2, if_neg h3]
theorem fh_n (hp : p = B.getD k 0) (h : ¬ fflN c (by2 f p) = 0) (h1 : ¬ unqN (tX f n E (by2 f (p + 2))) = 0) (h2 : ¬ fldN (tX f n E (by2 f (p + 4))) = 0) (h3 : smeS f n E B (by2 f (p + 2)) (by2 f (p + 4)) k 0 = none) : fhS f n E c B k p = none := by
  unfold fhS
  rw [if_neg h, if_neg h1, if_neg h2, if_pos h3]
end FHS
end
