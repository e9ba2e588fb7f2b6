/-! checks of the pool (laid by wip/p4/d8.py) -/
/-! what the pool's entries must hold (my own text) -/
section CKA
variable (f : Nat → Int32) (n : Nat) (E : List (Nat × Nat))
def pairN (k : Nat) : Nat := if tg f E k = 12 ∧ tg f E (fi f E k) = 1 ∧ tg f E (se f E k) = 1 then 1 else 0
def ismN (k : Nat) : Nat := if tg f E k = 9 ∨ tg f E k = 10 ∨ tg f E k = 11 then 1 else 0
def memN (k : Nat) : Nat := if tg f E (fi f E k) = 7 ∧ tg f E (fi f E (fi f E k)) = 1 ∧ ¬ pairN f E (se f E k) = 0 then 1 else 0
def lnkN (k : Nat) : Nat :=
  if tg f E k = 7 ∨ tg f E k = 8 ∨ tg f E k = 16 ∨ tg f E k = 19 ∨ tg f E k = 20 then (if tg f E (fi f E k) = 1 then 1 else 0) else
  if tg f E k = 12 then pairN f E k else if tg f E k = 9 ∨ tg f E k = 10 ∨ tg f E k = 11 then memN f E k else
  if tg f E k = 15 then (if ismN f E (se f E k) = 0 then (if tg f E (se f E k) = 0 then 0 else 1) else memN f E (se f E k)) else
  if tg f E k = 17 ∨ tg f E k = 18 then pairN f E (se f E k) else 1
def nwtN (k : Nat) : Nat := if ¬ unqN (tX f n E (fi f E k)) = 0 ∧ (¬ fldN (tX f n E (se f E k)) = 0 ∨ ¬ mthN (tX f n E (se f E k)) = 0) then 1 else 0
def mrfN (k : Nat) : Nat := if mthN (tX f n E (se f E (se f E k))) = 0 then 0 else if angN (tX f n E (fi f E (se f E k))) = 0 then 1 else
  if tg f E k = 10 ∧ ¬ eqN (tX f n E (fi f E (se f E k))) (ltx 14) = 0 ∧ ¬ nresN (tX f n E (se f E (se f E k))) = 0 then 1 else 0
def hdlN (mj d e : Nat) : Nat :=
  if d = 1 ∨ d = 2 ∨ d = 3 ∨ d = 4 then (if tg f E e = 9 then 1 else 0) else
  if d = 5 then (if tg f E e = 10 ∧ eqN (tX f n E (fi f E (se f E e))) (ltx 14) = 0 then 1 else 0) else
  if d = 6 ∨ d = 7 then (if (tg f E e = 10 ∨ (tg f E e = 11 ∧ 52 ≤ mj)) ∧ eqN (tX f n E (fi f E (se f E e))) (ltx 14) = 0 then 1 else 0) else
  if d = 8 then (if tg f E e = 10 ∧ ¬ eqN (tX f n E (fi f E (se f E e))) (ltx 14) = 0 then 1 else 0) else
  if d = 9 then (if tg f E e = 11 ∧ eqN (tX f n E (fi f E (se f E e))) (ltx 14) = 0 then 1 else 0) else 0
def brkN (mj k : Nat) : Nat :=
  if tg f E k = 7 then (if clsN (tX f n E (fi f E k)) = 0 then 10 else 0) else
  if tg f E k = 12 then (if nwtN f n E k = 0 then 11 else 0) else
  if tg f E k = 9 then (if fldN (tX f n E (se f E (se f E k))) = 0 then 12 else 0) else
  if tg f E k = 10 ∨ tg f E k = 11 then (if mrfN f n E k = 0 then 12 else 0) else
  if tg f E k = 15 then (if hdlN f n E mj (fi f E k) (se f E k) = 0 then 13 else 0) else
  if tg f E k = 16 then (if mthN (tX f n E (fi f E k)) = 0 then 14 else 0) else
  if tg f E k = 17 then (if fldN (tX f n E (se f E (se f E k))) = 0 ∨ ¬ angN (tX f n E (fi f E (se f E k))) = 0 then 14 else 0) else
  if tg f E k = 18 then (if mthN (tX f n E (se f E (se f E k))) = 0 ∨ ¬ angN (tX f n E (fi f E (se f E k))) = 0 then 14 else 0) else 0
def tp (k : Nat) : Nat := match lk E k with
  | some p => p
  | none => 0
/-- the first entry that is wrong, of r from k on -/
def chkP (mj : Nat) : Nat → Nat → Option (Nat × Nat)
  | 0, _ => none
  | r + 1, k => if lnkN f E k = 0 then some (9, tp E k) else if brkN f n E mj k = 0 then chkP mj r (k + 1) else some (brkN f n E mj k, tp E k)
def chkB (bc : Nat) : Nat → Nat → Option (Nat × Nat)
  | 0, _ => none
  | r + 1, k => if (tg f E k = 17 ∨ tg f E k = 18) ∧ bc ≤ fi f E k then some (40, tp E k) else chkB bc r (k + 1)
end CKA
theorem le1_pair (f : Nat → Int32) (E : List (Nat × Nat)) (k : Nat) : pairN f E k < 2 := by unfold pairN; split <;> decide
theorem le1_ism (f : Nat → Int32) (E : List (Nat × Nat)) (k : Nat) : ismN f E k < 2 := by unfold ismN; split <;> decide
theorem le1_mem (f : Nat → Int32) (E : List (Nat × Nat)) (k : Nat) : memN f E k < 2 := by unfold memN; split <;> decide
theorem le1_lnk (f : Nat → Int32) (E : List (Nat × Nat)) (k : Nat) : lnkN f E k < 2 := by
  have h1 := le1_pair f E k
  have h2 := le1_mem f E k
  have h3 := le1_mem f E (se f E k)
  have h4 := le1_pair f E (se f E k)
  unfold lnkN
  repeat' split
  all_goals omega
theorem le1_nwt (f : Nat → Int32) (n : Nat) (E : List (Nat × Nat)) (k : Nat) : nwtN f n E k < 2 := by unfold nwtN; split <;> decide
theorem le1_mrf (f : Nat → Int32) (n : Nat) (E : List (Nat × Nat)) (k : Nat) : mrfN f n E k < 2 := by
  unfold mrfN
  repeat' split
  all_goals decide
theorem le1_hdl (f : Nat → Int32) (n : Nat) (E : List (Nat × Nat)) (mj d e : Nat) : hdlN f n E mj d e < 2 := by
  unfold hdlN
  repeat' split
  all_goals decide
theorem le_brk (f : Nat → Int32) (n : Nat) (E : List (Nat × Nat)) (mj k : Nat) : brkN f n E mj k < 15 := by
  unfold brkN
  repeat' split
  all_goals decide
theorem tp_of {f : Nat → Int32} {E : List (Nat × Nat)} {k : Nat} (h : ¬ tg f E k = 0) : lk E k = some (tp E k) := by
  unfold tg at h
  unfold tp
  split
  · rename_i p hp
    exact hp
  · rename_i hp
    rw [hp] at h
    exact absurd rfl h
theorem lnk_t {f : Nat → Int32} {E : List (Nat × Nat)} {k : Nat} (h : lnkN f E k = 0) : ¬ tg f E k = 0 := by
  intro h0
  unfold lnkN at h
  rw [if_neg (by omega), if_neg (by omega), if_neg (by omega), if_neg (by omega), if_neg (by omega)] at h
  cases h
theorem brk_t {f : Nat → Int32} {n : Nat} {E : List (Nat × Nat)} {mj k : Nat} (h : ¬ brkN f n E mj k = 0) : ¬ tg f E k = 0 := by
  intro h0
  unfold brkN at h
  rw [if_neg (by omega), if_neg (by omega), if_neg (by omega), if_neg (by omega), if_neg (by omega), if_neg (by omega), if_neg (by omega), if_neg (by omega)] at h
  exact h rfl
theorem chkP_st {f : Nat → Int32} {n : Nat} {E : List (Nat × Nat)} {mj N k : Nat} (h : k < N) : chkP f n E mj (N - k) k = if lnkN f E k = 0 then some (9, tp E k) else if brkN f n E mj k = 0 then chkP f n E mj (N - (k + 1)) (k + 1) else some (brkN f n E mj k, tp E k) := by
  rw [show N - k = (N - (k + 1)) + 1 by omega]
  rfl
theorem chkB_st {f : Nat → Int32} {E : List (Nat × Nat)} {bc N k : Nat} (h : k < N) : chkB f E bc (N - k) k = if (tg f E k = 17 ∨ tg f E k = 18) ∧ bc ≤ fi f E k then some (40, tp E k) else chkB f E bc (N - (k + 1)) (k + 1) := by
  rw [show N - k = (N - (k + 1)) + 1 by omega]
  rfl
set_option maxHeartbeats 1000000 in
theorem dk_pairHolds {g : xe_G} {M : mi_H} {f : Nat → Int32} {n N q : Nat} {E : List (Nat × Nat)} {o vd mj : Nat} {k : Nat} (h_o : M.1 o = some (ob 8 [.ref q, .int (nI mj), .ref vd])) (hV : PV g f n N E q M) (hmj : mj < 65536) (hk : k < 65536) : pt (mT g) 153 [.ref o, .int (nI k)] M (fun v M' => (v = some (.int (nI (pairN f E k))) ∧ M = M')) := by
  refine pt_in (b := mb_153 g) rfl (fun kf => ?_)
  show pl (mT g) kf (mb_153 g).2 (0, [(0, .ref o), (1, .int (nI k))], [], M) _
  refine ps_st (S' := (1, [(0, .ref o), (1, .int (nI k))], [.ref o], M)) rfl rfl rfl ?_
  refine ps_get (S' := (4, [(0, .ref o), (1, .int (nI k))], [.ref q], M)) rfl h_o rfl rfl ?_
  refine ps_st (S' := (5, [(0, .ref o), (1, .int (nI k))], [.int (nI k), .ref q], M)) rfl rfl rfl ?_
  refine pl_call (a := [.ref q, .int (nI k)]) (rest := []) rfl rfl rfl (dy_tagOf (f := f) (n := n) (N := N) (q := q) (E := E) (j := k) (hV) (by omega)) (fun v1 M2 q3 => ?_)
  obtain ⟨rfl, rfl⟩ := q3
  show pl _ _ _ (8, [(0, .ref o), (1, .int (nI k))], [.int (nI (tg f E k))], M) _
  refine ps_st (S' := (10, [(0, .ref o), (1, .int (nI k))], [.int 12, .int (nI (tg f E k))], M)) rfl rfl rfl ?_
  refine ps_if2 (S1 := (55, [], [], M)) (S2 := (13, [(0, .ref o), (1, .int (nI k))], [], M)) rfl rfl rfl (fun c_10 => ?_) (fun c_10 => ?_)
  · have c_10 : ¬ (nI (tg f E k)) = 12 := of_decide_eq_true c_10
    have n_10 : ¬ (tg f E k = 12) := fun h9 => c_10 ((eq_nI (p := tg f E k) (n := 12) (Nat.lt_trans (tg_lt _ _ _) (by decide)) (by decide)).mpr h9)
    refine ps_st (S' := (56, [], [.int 0], M)) rfl rfl rfl ?_
    exact ps_ret rfl rfl (⟨congrArg (fun x => some (Value.int (nI x))) (show 0 = pairN f E k from by
        unfold pairN
        first | ((repeat first | rw [if_pos (by omega)] | rw [if_neg (by omega)]) <;> first | rfl | omega) | ((repeat' split) <;> first | rfl | (exfalso; omega) | omega)), rfl⟩)
  · have c_10 : ¬ (¬ (nI (tg f E k)) = 12) := of_decide_eq_false c_10
    have n_10 : tg f E k = 12 := (eq_nI (p := tg f E k) (n := 12) (Nat.lt_trans (tg_lt _ _ _) (by decide)) (by decide)).mp (Decidable.not_not.mp c_10)
    refine ps_st (S' := (14, [(0, .ref o), (1, .int (nI k))], [.ref o], M)) rfl rfl rfl ?_
    refine ps_get (S' := (17, [(0, .ref o), (1, .int (nI k))], [.ref q], M)) rfl h_o rfl rfl ?_
    refine ps_st (S' := (18, [(0, .ref o), (1, .int (nI k))], [.ref o, .ref q], M)) rfl rfl rfl ?_
    refine ps_get (S' := (21, [(0, .ref o), (1, .int (nI k))], [.ref q, .ref q], M)) rfl h_o rfl rfl ?_
    refine ps_st (S' := (22, [(0, .ref o), (1, .int (nI k))], [.int (nI k), .ref q, .ref q], M)) rfl rfl rfl ?_
    refine pl_call (a := [.ref q, .int (nI k)]) (rest := [.ref q]) rfl rfl rfl (dy_firstIndex (f := f) (n := n) (N := N) (q := q) (E := E) (j := k) (hV) (by omega)) (fun v4 M5 q6 => ?_)
    obtain ⟨rfl, rfl⟩ := q6
    show pl _ _ _ (25, [(0, .ref o), (1, .int (nI k))], [.int (nI (fi f E k)), .ref q], M) _
    refine pl_call (a := [.ref q, .int (nI (fi f E k))]) (rest := []) rfl rfl rfl (dy_tagOf (f := f) (n := n) (N := N) (q := q) (E := E) (j := (fi f E k)) (hV) (fi_lt _ _ _)) (fun v7 M8 q9 => ?_)
    obtain ⟨rfl, rfl⟩ := q9
    show pl _ _ _ (28, [(0, .ref o), (1, .int (nI k))], [.int (nI (tg f E (fi f E k)))], M) _
    refine ps_st (S' := (29, [(0, .ref o), (1, .int (nI k))], [.int 1, .int (nI (tg f E (fi f E k)))], M)) rfl rfl rfl ?_
    refine ps_if2 (S1 := (55, [], [], M)) (S2 := (32, [(0, .ref o), (1, .int (nI k))], [], M)) rfl rfl rfl (fun c_29 => ?_) (fun c_29 => ?_)
    · have c_29 : ¬ (nI (tg f E (fi f E k))) = 1 := of_decide_eq_true c_29
      have n_29 : ¬ (tg f E (fi f E k) = 1) := fun h9 => c_29 ((eq_nI (p := tg f E (fi f E k)) (n := 1) (Nat.lt_trans (tg_lt _ _ _) (by decide)) (by decide)).mpr h9)
      refine ps_st (S' := (56, [], [.int 0], M)) rfl rfl rfl ?_
      exact ps_ret rfl rfl (⟨congrArg (fun x => some (Value.int (nI x))) (show 0 = pairN f E k from by
          unfold pairN
          first | ((repeat first | rw [if_pos (by omega)] | rw [if_neg (by omega)]) <;> first | rfl | omega) | ((repeat' split) <;> first | rfl | (exfalso; omega) | omega)), rfl⟩)
    · have c_29 : ¬ (¬ (nI (tg f E (fi f E k))) = 1) := of_decide_eq_false c_29
      have n_29 : tg f E (fi f E k) = 1 := (eq_nI (p := tg f E (fi f E k)) (n := 1) (Nat.lt_trans (tg_lt _ _ _) (by decide)) (by decide)).mp (Decidable.not_not.mp c_29)
      refine ps_st (S' := (33, [(0, .ref o), (1, .int (nI k))], [.ref o], M)) rfl rfl rfl ?_
      refine ps_get (S' := (36, [(0, .ref o), (1, .int (nI k))], [.ref q], M)) rfl h_o rfl rfl ?_
      refine ps_st (S' := (37, [(0, .ref o), (1, .int (nI k))], [.ref o, .ref q], M)) rfl rfl rfl ?_
      refine ps_get (S' := (40, [(0, .ref o), (1, .int (nI k))], [.ref q, .ref q], M)) rfl h_o rfl rfl ?_
      refine ps_st (S' := (41, [(0, .ref o), (1, .int (nI k))], [.int (nI k), .ref q, .ref q], M)) rfl rfl rfl ?_
      refine pl_call (a := [.ref q, .int (nI k)]) (rest := [.ref q]) rfl rfl rfl (dy_secondIndex (f := f) (n := n) (N := N) (q := q) (E := E) (j := k) (hV) (by omega)) (fun v10 M11 q12 => ?_)
      obtain ⟨rfl, rfl⟩ := q12
      show pl _ _ _ (44, [(0, .ref o), (1, .int (nI k))], [.int (nI (se f E k)), .ref q], M) _
      refine pl_call (a := [.ref q, .int (nI (se f E k))]) (rest := []) rfl rfl rfl (dy_tagOf (f := f) (n := n) (N := N) (q := q) (E := E) (j := (se f E k)) (hV) (se_lt _ _ _)) (fun v13 M14 q15 => ?_)
      obtain ⟨rfl, rfl⟩ := q15
      show pl _ _ _ (47, [(0, .ref o), (1, .int (nI k))], [.int (nI (tg f E (se f E k)))], M) _
      refine ps_st (S' := (48, [(0, .ref o), (1, .int (nI k))], [.int 1, .int (nI (tg f E (se f E k)))], M)) rfl rfl rfl ?_
      refine ps_if2 (S1 := (55, [], [], M)) (S2 := (51, [(0, .ref o), (1, .int (nI k))], [], M)) rfl rfl rfl (fun c_48 => ?_) (fun c_48 => ?_)
      · have c_48 : ¬ (nI (tg f E (se f E k))) = 1 := of_decide_eq_true c_48
        have n_48 : ¬ (tg f E (se f E k) = 1) := fun h9 => c_48 ((eq_nI (p := tg f E (se f E k)) (n := 1) (Nat.lt_trans (tg_lt _ _ _) (by decide)) (by decide)).mpr h9)
        refine ps_st (S' := (56, [], [.int 0], M)) rfl rfl rfl ?_
        exact ps_ret rfl rfl (⟨congrArg (fun x => some (Value.int (nI x))) (show 0 = pairN f E k from by
            unfold pairN
            first | ((repeat first | rw [if_pos (by omega)] | rw [if_neg (by omega)]) <;> first | rfl | omega) | ((repeat' split) <;> first | rfl | (exfalso; omega) | omega)), rfl⟩)
      · have c_48 : ¬ (¬ (nI (tg f E (se f E k))) = 1) := of_decide_eq_false c_48
        have n_48 : tg f E (se f E k) = 1 := (eq_nI (p := tg f E (se f E k)) (n := 1) (Nat.lt_trans (tg_lt _ _ _) (by decide)) (by decide)).mp (Decidable.not_not.mp c_48)
        refine ps_st (S' := (52, [(0, .ref o), (1, .int (nI k))], [.int 1], M)) rfl rfl rfl ?_
        refine ps_st (S' := (56, [], [.int 1], M)) rfl rfl rfl ?_
        exact ps_ret rfl rfl (⟨congrArg (fun x => some (Value.int (nI x))) (show 1 = pairN f E k from by
            unfold pairN
            first | ((repeat first | rw [if_pos (by omega)] | rw [if_neg (by omega)]) <;> first | rfl | omega) | ((repeat' split) <;> first | rfl | (exfalso; omega) | omega)), rfl⟩)
set_option maxHeartbeats 1000000 in
theorem dk_isMember {g : xe_G} {M : mi_H} {f : Nat → Int32} {n N q : Nat} {E : List (Nat × Nat)} {o vd mj : Nat} {k : Nat} (h_o : M.1 o = some (ob 8 [.ref q, .int (nI mj), .ref vd])) (hV : PV g f n N E q M) (hmj : mj < 65536) (hk : k < 65536) : pt (mT g) 148 [.ref o, .int (nI k)] M (fun v M' => (v = some (.int (nI (ismN f E k))) ∧ M = M')) := by
  refine pt_in (b := mb_148 g) rfl (fun kf => ?_)
  show pl (mT g) kf (mb_148 g).2 (0, [(0, .ref o), (1, .int (nI k))], [], M) _
  refine ps_st (S' := (1, [(0, .ref o), (1, .int (nI k))], [.ref o], M)) rfl rfl rfl ?_
  refine ps_get (S' := (4, [(0, .ref o), (1, .int (nI k))], [.ref q], M)) rfl h_o rfl rfl ?_
  refine ps_st (S' := (5, [(0, .ref o), (1, .int (nI k))], [.int (nI k), .ref q], M)) rfl rfl rfl ?_
  refine pl_call (a := [.ref q, .int (nI k)]) (rest := []) rfl rfl rfl (dy_tagOf (f := f) (n := n) (N := N) (q := q) (E := E) (j := k) (hV) (by omega)) (fun v1 M2 q3 => ?_)
  obtain ⟨rfl, rfl⟩ := q3
  show pl _ _ _ (8, [(0, .ref o), (1, .int (nI k))], [.int (nI (tg f E k))], M) _
  refine ps_st (S' := (9, [(2, .int (nI (tg f E k))), (0, .ref o), (1, .int (nI k))], [], M)) rfl rfl rfl ?_
  refine ps_st (S' := (10, [(2, .int (nI (tg f E k))), (0, .ref o), (1, .int (nI k))], [.int (nI (tg f E k))], M)) rfl rfl rfl ?_
  refine ps_st (S' := (12, [(2, .int (nI (tg f E k))), (0, .ref o), (1, .int (nI k))], [.int 9, .int (nI (tg f E k))], M)) rfl rfl rfl ?_
  refine ps_if2 (S1 := (27, [], [], M)) (S2 := (15, [(2, .int (nI (tg f E k))), (0, .ref o), (1, .int (nI k))], [], M)) rfl rfl rfl (fun c_12 => ?_) (fun c_12 => ?_)
  · have c_12 : (nI (tg f E k)) = 9 := of_decide_eq_true c_12
    have n_12 : tg f E k = 9 := (eq_nI (p := tg f E k) (n := 9) (Nat.lt_trans (tg_lt _ _ _) (by decide)) (by decide)).mp c_12
    refine ps_st (S' := (28, [], [.int 1], M)) rfl rfl rfl ?_
    refine ps_st (S' := (32, [], [.int 1], M)) rfl rfl rfl ?_
    exact ps_ret rfl rfl (⟨congrArg (fun x => some (Value.int (nI x))) (show 1 = ismN f E k from by
        unfold ismN
        first | ((repeat first | rw [if_pos (by omega)] | rw [if_neg (by omega)]) <;> first | rfl | omega) | ((repeat' split) <;> first | rfl | (exfalso; omega) | omega)), rfl⟩)
  · have c_12 : ¬ ((nI (tg f E k)) = 9) := of_decide_eq_false c_12
    have n_12 : ¬ (tg f E k = 9) := fun h9 => c_12 ((eq_nI (p := tg f E k) (n := 9) (Nat.lt_trans (tg_lt _ _ _) (by decide)) (by decide)).mpr h9)
    refine ps_st (S' := (16, [(2, .int (nI (tg f E k))), (0, .ref o), (1, .int (nI k))], [.int (nI (tg f E k))], M)) rfl rfl rfl ?_
    refine ps_st (S' := (18, [(2, .int (nI (tg f E k))), (0, .ref o), (1, .int (nI k))], [.int 10, .int (nI (tg f E k))], M)) rfl rfl rfl ?_
    refine ps_if2 (S1 := (27, [], [], M)) (S2 := (21, [(2, .int (nI (tg f E k))), (0, .ref o), (1, .int (nI k))], [], M)) rfl rfl rfl (fun c_18 => ?_) (fun c_18 => ?_)
    · have c_18 : (nI (tg f E k)) = 10 := of_decide_eq_true c_18
      have n_18 : tg f E k = 10 := (eq_nI (p := tg f E k) (n := 10) (Nat.lt_trans (tg_lt _ _ _) (by decide)) (by decide)).mp c_18
      refine ps_st (S' := (28, [], [.int 1], M)) rfl rfl rfl ?_
      refine ps_st (S' := (32, [], [.int 1], M)) rfl rfl rfl ?_
      exact ps_ret rfl rfl (⟨congrArg (fun x => some (Value.int (nI x))) (show 1 = ismN f E k from by
          unfold ismN
          first | ((repeat first | rw [if_pos (by omega)] | rw [if_neg (by omega)]) <;> first | rfl | omega) | ((repeat' split) <;> first | rfl | (exfalso; omega) | omega)), rfl⟩)
    · have c_18 : ¬ ((nI (tg f E k)) = 10) := of_decide_eq_false c_18
      have n_18 : ¬ (tg f E k = 10) := fun h9 => c_18 ((eq_nI (p := tg f E k) (n := 10) (Nat.lt_trans (tg_lt _ _ _) (by decide)) (by decide)).mpr h9)
      refine ps_st (S' := (22, [(2, .int (nI (tg f E k))), (0, .ref o), (1, .int (nI k))], [.int (nI (tg f E k))], M)) rfl rfl rfl ?_
      refine ps_st (S' := (24, [(2, .int (nI (tg f E k))), (0, .ref o), (1, .int (nI k))], [.int 11, .int (nI (tg f E k))], M)) rfl rfl rfl ?_
      refine ps_if2 (S1 := (31, [(2, .int (nI (tg f E k))), (0, .ref o), (1, .int (nI k))], [], M)) (S2 := (27, [], [], M)) rfl rfl rfl (fun c_24 => ?_) (fun c_24 => ?_)
      · have c_24 : ¬ (nI (tg f E k)) = 11 := of_decide_eq_true c_24
        have n_24 : ¬ (tg f E k = 11) := fun h9 => c_24 ((eq_nI (p := tg f E k) (n := 11) (Nat.lt_trans (tg_lt _ _ _) (by decide)) (by decide)).mpr h9)
        refine ps_st (S' := (32, [], [.int 0], M)) rfl rfl rfl ?_
        exact ps_ret rfl rfl (⟨congrArg (fun x => some (Value.int (nI x))) (show 0 = ismN f E k from by
            unfold ismN
            first | ((repeat first | rw [if_pos (by omega)] | rw [if_neg (by omega)]) <;> first | rfl | omega) | ((repeat' split) <;> first | rfl | (exfalso; omega) | omega)), rfl⟩)
      · have c_24 : ¬ (¬ (nI (tg f E k)) = 11) := of_decide_eq_false c_24
        have n_24 : tg f E k = 11 := (eq_nI (p := tg f E k) (n := 11) (Nat.lt_trans (tg_lt _ _ _) (by decide)) (by decide)).mp (Decidable.not_not.mp c_24)
        refine ps_st (S' := (28, [], [.int 1], M)) rfl rfl rfl ?_
        refine ps_st (S' := (32, [], [.int 1], M)) rfl rfl rfl ?_
        exact ps_ret rfl rfl (⟨congrArg (fun x => some (Value.int (nI x))) (show 1 = ismN f E k from by
            unfold ismN
            first | ((repeat first | rw [if_pos (by omega)] | rw [if_neg (by omega)]) <;> first | rfl | omega) | ((repeat' split) <;> first | rfl | (exfalso; omega) | omega)), rfl⟩)
set_option maxHeartbeats 1000000 in
theorem dk_memberHolds {g : xe_G} {M : mi_H} {f : Nat → Int32} {n N q : Nat} {E : List (Nat × Nat)} {o vd mj : Nat} {k : Nat} (h_o : M.1 o = some (ob 8 [.ref q, .int (nI mj), .ref vd])) (hV : PV g f n N E q M) (hmj : mj < 65536) (hk : k < 65536) : pt (mT g) 152 [.ref o, .int (nI k)] M (fun v M' => (v = some (.int (nI (memN f E k))) ∧ M = M')) := by
  refine pt_in (b := mb_152 g) rfl (fun kf => ?_)
  show pl (mT g) kf (mb_152 g).2 (0, [(0, .ref o), (1, .int (nI k))], [], M) _
  refine ps_st (S' := (1, [(0, .ref o), (1, .int (nI k))], [.ref o], M)) rfl rfl rfl ?_
  refine ps_get (S' := (4, [(0, .ref o), (1, .int (nI k))], [.ref q], M)) rfl h_o rfl rfl ?_
  refine ps_st (S' := (5, [(0, .ref o), (1, .int (nI k))], [.int (nI k), .ref q], M)) rfl rfl rfl ?_
  refine pl_call (a := [.ref q, .int (nI k)]) (rest := []) rfl rfl rfl (dy_firstIndex (f := f) (n := n) (N := N) (q := q) (E := E) (j := k) (hV) (by omega)) (fun v1 M2 q3 => ?_)
  obtain ⟨rfl, rfl⟩ := q3
  show pl _ _ _ (8, [(0, .ref o), (1, .int (nI k))], [.int (nI (fi f E k))], M) _
  refine ps_st (S' := (9, [(2, .int (nI (fi f E k))), (0, .ref o), (1, .int (nI k))], [], M)) rfl rfl rfl ?_
  refine ps_st (S' := (10, [(2, .int (nI (fi f E k))), (0, .ref o), (1, .int (nI k))], [.ref o], M)) rfl rfl rfl ?_
  refine ps_get (S' := (13, [(2, .int (nI (fi f E k))), (0, .ref o), (1, .int (nI k))], [.ref q], M)) rfl h_o rfl rfl ?_
  refine ps_st (S' := (14, [(2, .int (nI (fi f E k))), (0, .ref o), (1, .int (nI k))], [.int (nI (fi f E k)), .ref q], M)) rfl rfl rfl ?_
  refine pl_call (a := [.ref q, .int (nI (fi f E k))]) (rest := []) rfl rfl rfl (dy_tagOf (f := f) (n := n) (N := N) (q := q) (E := E) (j := (fi f E k)) (hV) (fi_lt _ _ _)) (fun v4 M5 q6 => ?_)
  obtain ⟨rfl, rfl⟩ := q6
  show pl _ _ _ (17, [(2, .int (nI (fi f E k))), (0, .ref o), (1, .int (nI k))], [.int (nI (tg f E (fi f E k)))], M) _
  refine ps_st (S' := (19, [(2, .int (nI (fi f E k))), (0, .ref o), (1, .int (nI k))], [.int 7, .int (nI (tg f E (fi f E k)))], M)) rfl rfl rfl ?_
  refine ps_if2 (S1 := (60, [], [], M)) (S2 := (22, [(2, .int (nI (fi f E k))), (0, .ref o), (1, .int (nI k))], [], M)) rfl rfl rfl (fun c_19 => ?_) (fun c_19 => ?_)
  · have c_19 : ¬ (nI (tg f E (fi f E k))) = 7 := of_decide_eq_true c_19
    have n_19 : ¬ (tg f E (fi f E k) = 7) := fun h9 => c_19 ((eq_nI (p := tg f E (fi f E k)) (n := 7) (Nat.lt_trans (tg_lt _ _ _) (by decide)) (by decide)).mpr h9)
    refine ps_st (S' := (61, [], [.int 0], M)) rfl rfl rfl ?_
    exact ps_ret rfl rfl (⟨congrArg (fun x => some (Value.int (nI x))) (show 0 = memN f E k from by
        unfold memN
        first | ((repeat first | rw [if_pos (by omega)] | rw [if_neg (by omega)]) <;> first | rfl | omega) | ((repeat' split) <;> first | rfl | (exfalso; omega) | omega)), rfl⟩)
  · have c_19 : ¬ (¬ (nI (tg f E (fi f E k))) = 7) := of_decide_eq_false c_19
    have n_19 : tg f E (fi f E k) = 7 := (eq_nI (p := tg f E (fi f E k)) (n := 7) (Nat.lt_trans (tg_lt _ _ _) (by decide)) (by decide)).mp (Decidable.not_not.mp c_19)
    refine ps_st (S' := (23, [(2, .int (nI (fi f E k))), (0, .ref o), (1, .int (nI k))], [.ref o], M)) rfl rfl rfl ?_
    refine ps_get (S' := (26, [(2, .int (nI (fi f E k))), (0, .ref o), (1, .int (nI k))], [.ref q], M)) rfl h_o rfl rfl ?_
    refine ps_st (S' := (27, [(2, .int (nI (fi f E k))), (0, .ref o), (1, .int (nI k))], [.ref o, .ref q], M)) rfl rfl rfl ?_
    refine ps_get (S' := (30, [(2, .int (nI (fi f E k))), (0, .ref o), (1, .int (nI k))], [.ref q, .ref q], M)) rfl h_o rfl rfl ?_
    refine ps_st (S' := (31, [(2, .int (nI (fi f E k))), (0, .ref o), (1, .int (nI k))], [.int (nI (fi f E k)), .ref q, .ref q], M)) rfl rfl rfl ?_
    refine pl_call (a := [.ref q, .int (nI (fi f E k))]) (rest := [.ref q]) rfl rfl rfl (dy_firstIndex (f := f) (n := n) (N := N) (q := q) (E := E) (j := (fi f E k)) (hV) (fi_lt _ _ _)) (fun v7 M8 q9 => ?_)
    obtain ⟨rfl, rfl⟩ := q9
    show pl _ _ _ (34, [(2, .int (nI (fi f E k))), (0, .ref o), (1, .int (nI k))], [.int (nI (fi f E (fi f E k))), .ref q], M) _
    refine pl_call (a := [.ref q, .int (nI (fi f E (fi f E k)))]) (rest := []) rfl rfl rfl (dy_tagOf (f := f) (n := n) (N := N) (q := q) (E := E) (j := (fi f E (fi f E k))) (hV) (fi_lt _ _ _)) (fun v10 M11 q12 => ?_)
    obtain ⟨rfl, rfl⟩ := q12
    show pl _ _ _ (37, [(2, .int (nI (fi f E k))), (0, .ref o), (1, .int (nI k))], [.int (nI (tg f E (fi f E (fi f E k))))], M) _
    refine ps_st (S' := (38, [(2, .int (nI (fi f E k))), (0, .ref o), (1, .int (nI k))], [.int 1, .int (nI (tg f E (fi f E (fi f E k))))], M)) rfl rfl rfl ?_
    refine ps_if2 (S1 := (60, [], [], M)) (S2 := (41, [(2, .int (nI (fi f E k))), (0, .ref o), (1, .int (nI k))], [], M)) rfl rfl rfl (fun c_38 => ?_) (fun c_38 => ?_)
    · have c_38 : ¬ (nI (tg f E (fi f E (fi f E k)))) = 1 := of_decide_eq_true c_38
      have n_38 : ¬ (tg f E (fi f E (fi f E k)) = 1) := fun h9 => c_38 ((eq_nI (p := tg f E (fi f E (fi f E k))) (n := 1) (Nat.lt_trans (tg_lt _ _ _) (by decide)) (by decide)).mpr h9)
      refine ps_st (S' := (61, [], [.int 0], M)) rfl rfl rfl ?_
      exact ps_ret rfl rfl (⟨congrArg (fun x => some (Value.int (nI x))) (show 0 = memN f E k from by
          unfold memN
          first | ((repeat first | rw [if_pos (by omega)] | rw [if_neg (by omega)]) <;> first | rfl | omega) | ((repeat' split) <;> first | rfl | (exfalso; omega) | omega)), rfl⟩)
    · have c_38 : ¬ (¬ (nI (tg f E (fi f E (fi f E k)))) = 1) := of_decide_eq_false c_38
      have n_38 : tg f E (fi f E (fi f E k)) = 1 := (eq_nI (p := tg f E (fi f E (fi f E k))) (n := 1) (Nat.lt_trans (tg_lt _ _ _) (by decide)) (by decide)).mp (Decidable.not_not.mp c_38)
      refine ps_st (S' := (42, [(2, .int (nI (fi f E k))), (0, .ref o), (1, .int (nI k))], [.ref o], M)) rfl rfl rfl ?_
      refine ps_st (S' := (43, [(2, .int (nI (fi f E k))), (0, .ref o), (1, .int (nI k))], [.ref o, .ref o], M)) rfl rfl rfl ?_
      refine ps_get (S' := (46, [(2, .int (nI (fi f E k))), (0, .ref o), (1, .int (nI k))], [.ref q, .ref o], M)) rfl h_o rfl rfl ?_
      refine ps_st (S' := (47, [(2, .int (nI (fi f E k))), (0, .ref o), (1, .int (nI k))], [.int (nI k), .ref q, .ref o], M)) rfl rfl rfl ?_
      refine pl_call (a := [.ref q, .int (nI k)]) (rest := [.ref o]) rfl rfl rfl (dy_secondIndex (f := f) (n := n) (N := N) (q := q) (E := E) (j := k) (hV) (by omega)) (fun v13 M14 q15 => ?_)
      obtain ⟨rfl, rfl⟩ := q15
      show pl _ _ _ (50, [(2, .int (nI (fi f E k))), (0, .ref o), (1, .int (nI k))], [.int (nI (se f E k)), .ref o], M) _
      refine pl_call (a := [.ref o, .int (nI (se f E k))]) (rest := []) rfl rfl rfl (dk_pairHolds (f := f) (n := n) (N := N) (q := q) (E := E) (o := o) (vd := vd) (mj := mj) (k := (se f E k)) h_o (hV) (hmj) (se_lt _ _ _)) (fun v16 M17 q18 => ?_)
      obtain ⟨rfl, rfl⟩ := q18
      show pl _ _ _ (53, [(2, .int (nI (fi f E k))), (0, .ref o), (1, .int (nI k))], [.int (nI (pairN f E (se f E k)))], M) _
      refine ps_if (S1 := (60, [], [], M)) (S2 := (56, [(2, .int (nI (fi f E k))), (0, .ref o), (1, .int (nI k))], [], M)) rfl rfl rfl (fun c_53 => ?_) (fun c_53 => ?_)
      · have c_53 : (nI (pairN f E (se f E k))) = 0 := of_decide_eq_true c_53
        have n_53 : pairN f E (se f E k) = 0 := (eq_nI (p := pairN f E (se f E k)) (n := 0) (Nat.lt_trans (le1_pair _ _ _) (by decide)) (by decide)).mp c_53
        refine ps_st (S' := (61, [], [.int 0], M)) rfl rfl rfl ?_
        exact ps_ret rfl rfl (⟨congrArg (fun x => some (Value.int (nI x))) (show 0 = memN f E k from by
            unfold memN
            first | ((repeat first | rw [if_pos (by omega)] | rw [if_neg (by omega)]) <;> first | rfl | omega) | ((repeat' split) <;> first | rfl | (exfalso; omega) | omega)), rfl⟩)
      · have c_53 : ¬ ((nI (pairN f E (se f E k))) = 0) := of_decide_eq_false c_53
        have n_53 : ¬ (pairN f E (se f E k) = 0) := fun h9 => c_53 ((eq_nI (p := pairN f E (se f E k)) (n := 0) (Nat.lt_trans (le1_pair _ _ _) (by decide)) (by decide)).mpr h9)
        refine ps_st (S' := (57, [(2, .int (nI (fi f E k))), (0, .ref o), (1, .int (nI k))], [.int 1], M)) rfl rfl rfl ?_
        refine ps_st (S' := (61, [], [.int 1], M)) rfl rfl rfl ?_
        exact ps_ret rfl rfl (⟨congrArg (fun x => some (Value.int (nI x))) (show 1 = memN f E k from by
            unfold memN
            first | ((repeat first | rw [if_pos (by omega)] | rw [if_neg (by omega)]) <;> first | rfl | omega) | ((repeat' split) <;> first | rfl | (exfalso; omega) | omega)), rfl⟩)
set_option maxHeartbeats 1000000 in
theorem dk_linksHold {g : xe_G} {M : mi_H} {f : Nat → Int32} {n N q : Nat} {E : List (Nat × Nat)} {o vd mj : Nat} {k : Nat} (h_o : M.1 o = some (ob 8 [.ref q, .int (nI mj), .ref vd])) (hV : PV g f n N E q M) (hmj : mj < 65536) (hk : k < 65536) : pt (mT g) 151 [.ref o, .int (nI k)] M (fun v M' => (v = some (.int (nI (lnkN f E k))) ∧ M = M')) := by
  refine pt_in (b := mb_151 g) rfl (fun kf => ?_)
  show pl (mT g) kf (mb_151 g).2 (0, [(0, .ref o), (1, .int (nI k))], [], M) _
  refine ps_st (S' := (1, [(0, .ref o), (1, .int (nI k))], [.ref o], M)) rfl rfl rfl ?_
  refine ps_get (S' := (4, [(0, .ref o), (1, .int (nI k))], [.ref q], M)) rfl h_o rfl rfl ?_
  refine ps_st (S' := (5, [(0, .ref o), (1, .int (nI k))], [.int (nI k), .ref q], M)) rfl rfl rfl ?_
  refine pl_call (a := [.ref q, .int (nI k)]) (rest := []) rfl rfl rfl (dy_tagOf (f := f) (n := n) (N := N) (q := q) (E := E) (j := k) (hV) (by omega)) (fun v1 M2 q3 => ?_)
  obtain ⟨rfl, rfl⟩ := q3
  show pl _ _ _ (8, [(0, .ref o), (1, .int (nI k))], [.int (nI (tg f E k))], M) _
  refine pl_sw rfl (fun t_8 et_8 => ?_)
  have ht_8 : t_8 ∈ [80, 105, 111, 117, 159, 172] := mi_sw_sub et_8 (by decide)
  simp only [List.mem_cons, List.not_mem_nil, or_false] at ht_8
  rcases ht_8 with rfl | rfl | rfl | rfl | rfl | rfl
  · show pl _ _ _ (80, [(0, .ref o), (1, .int (nI k))], [], M) _
    have m_8 := sw_nat (t := tg f E k) (Nat.lt_trans (tg_lt _ _ _) (by decide)) et_8
    simp at m_8
    refine ps_st (S' := (81, [(0, .ref o), (1, .int (nI k))], [.ref o], M)) rfl rfl rfl ?_
    refine ps_get (S' := (84, [(0, .ref o), (1, .int (nI k))], [.ref q], M)) rfl h_o rfl rfl ?_
    refine ps_st (S' := (85, [(0, .ref o), (1, .int (nI k))], [.ref o, .ref q], M)) rfl rfl rfl ?_
    refine ps_get (S' := (88, [(0, .ref o), (1, .int (nI k))], [.ref q, .ref q], M)) rfl h_o rfl rfl ?_
    refine ps_st (S' := (89, [(0, .ref o), (1, .int (nI k))], [.int (nI k), .ref q, .ref q], M)) rfl rfl rfl ?_
    refine pl_call (a := [.ref q, .int (nI k)]) (rest := [.ref q]) rfl rfl rfl (dy_firstIndex (f := f) (n := n) (N := N) (q := q) (E := E) (j := k) (hV) (by omega)) (fun v4 M5 q6 => ?_)
    obtain ⟨rfl, rfl⟩ := q6
    show pl _ _ _ (92, [(0, .ref o), (1, .int (nI k))], [.int (nI (fi f E k)), .ref q], M) _
    refine pl_call (a := [.ref q, .int (nI (fi f E k))]) (rest := []) rfl rfl rfl (dy_tagOf (f := f) (n := n) (N := N) (q := q) (E := E) (j := (fi f E k)) (hV) (fi_lt _ _ _)) (fun v7 M8 q9 => ?_)
    obtain ⟨rfl, rfl⟩ := q9
    show pl _ _ _ (95, [(0, .ref o), (1, .int (nI k))], [.int (nI (tg f E (fi f E k)))], M) _
    refine ps_st (S' := (96, [(0, .ref o), (1, .int (nI k))], [.int 1, .int (nI (tg f E (fi f E k)))], M)) rfl rfl rfl ?_
    refine ps_if2 (S1 := (103, [(0, .ref o), (1, .int (nI k))], [], M)) (S2 := (99, [(0, .ref o), (1, .int (nI k))], [], M)) rfl rfl rfl (fun c_96 => ?_) (fun c_96 => ?_)
    · have c_96 : ¬ (nI (tg f E (fi f E k))) = 1 := of_decide_eq_true c_96
      have n_96 : ¬ (tg f E (fi f E k) = 1) := fun h9 => c_96 ((eq_nI (p := tg f E (fi f E k)) (n := 1) (Nat.lt_trans (tg_lt _ _ _) (by decide)) (by decide)).mpr h9)
      refine ps_st (S' := (104, [], [.int 0], M)) rfl rfl rfl ?_
      exact ps_ret rfl rfl (⟨congrArg (fun x => some (Value.int (nI x))) (show 0 = lnkN f E k from by
          unfold lnkN
          first | ((repeat first | rw [if_pos (by omega)] | rw [if_neg (by omega)]) <;> first | rfl | omega) | ((repeat' split) <;> first | rfl | (exfalso; omega) | omega)), rfl⟩)
    · have c_96 : ¬ (¬ (nI (tg f E (fi f E k))) = 1) := of_decide_eq_false c_96
      have n_96 : tg f E (fi f E k) = 1 := (eq_nI (p := tg f E (fi f E k)) (n := 1) (Nat.lt_trans (tg_lt _ _ _) (by decide)) (by decide)).mp (Decidable.not_not.mp c_96)
      refine ps_st (S' := (100, [(0, .ref o), (1, .int (nI k))], [.int 1], M)) rfl rfl rfl ?_
      refine ps_st (S' := (104, [], [.int 1], M)) rfl rfl rfl ?_
      exact ps_ret rfl rfl (⟨congrArg (fun x => some (Value.int (nI x))) (show 1 = lnkN f E k from by
          unfold lnkN
          first | ((repeat first | rw [if_pos (by omega)] | rw [if_neg (by omega)]) <;> first | rfl | omega) | ((repeat' split) <;> first | rfl | (exfalso; omega) | omega)), rfl⟩)
  · show pl _ _ _ (105, [(0, .ref o), (1, .int (nI k))], [], M) _
    have m_8 := sw_nat (t := tg f E k) (Nat.lt_trans (tg_lt _ _ _) (by decide)) et_8
    simp at m_8
    refine ps_st (S' := (106, [(0, .ref o), (1, .int (nI k))], [.ref o], M)) rfl rfl rfl ?_
    refine ps_st (S' := (107, [(0, .ref o), (1, .int (nI k))], [.int (nI k), .ref o], M)) rfl rfl rfl ?_
    refine pl_call (a := [.ref o, .int (nI k)]) (rest := []) rfl rfl rfl (dk_pairHolds (f := f) (n := n) (N := N) (q := q) (E := E) (o := o) (vd := vd) (mj := mj) (k := k) h_o (hV) (hmj) (by omega)) (fun v10 M11 q12 => ?_)
    obtain ⟨rfl, rfl⟩ := q12
    show pl _ _ _ (110, [(0, .ref o), (1, .int (nI k))], [.int (nI (pairN f E k))], M) _
    exact ps_reti rfl (⟨congrArg (fun x => some (Value.int (nI x))) (show pairN f E k = lnkN f E k from by
        unfold lnkN
        first | ((repeat first | rw [if_pos (by omega)] | rw [if_neg (by omega)]) <;> first | rfl | omega) | ((repeat' split) <;> first | rfl | (exfalso; omega) | omega)), rfl⟩)
  · show pl _ _ _ (111, [(0, .ref o), (1, .int (nI k))], [], M) _
    have m_8 := sw_nat (t := tg f E k) (Nat.lt_trans (tg_lt _ _ _) (by decide)) et_8
    simp at m_8
    refine ps_st (S' := (112, [(0, .ref o), (1, .int (nI k))], [.ref o], M)) rfl rfl rfl ?_
    refine ps_st (S' := (113, [(0, .ref o), (1, .int (nI k))], [.int (nI k), .ref o], M)) rfl rfl rfl ?_
    refine pl_call (a := [.ref o, .int (nI k)]) (rest := []) rfl rfl rfl (dk_memberHolds (f := f) (n := n) (N := N) (q := q) (E := E) (o := o) (vd := vd) (mj := mj) (k := k) h_o (hV) (hmj) (by omega)) (fun v13 M14 q15 => ?_)
    obtain ⟨rfl, rfl⟩ := q15
    show pl _ _ _ (116, [(0, .ref o), (1, .int (nI k))], [.int (nI (memN f E k))], M) _
    exact ps_reti rfl (⟨congrArg (fun x => some (Value.int (nI x))) (show memN f E k = lnkN f E k from by
        unfold lnkN
        first | ((repeat first | rw [if_pos (by omega)] | rw [if_neg (by omega)]) <;> first | rfl | omega) | ((repeat' split) <;> first | rfl | (exfalso; omega) | omega)), rfl⟩)
  · show pl _ _ _ (117, [(0, .ref o), (1, .int (nI k))], [], M) _
    have m_8 := sw_nat (t := tg f E k) (Nat.lt_trans (tg_lt _ _ _) (by decide)) et_8
    simp at m_8
    refine ps_st (S' := (118, [(0, .ref o), (1, .int (nI k))], [.ref o], M)) rfl rfl rfl ?_
    refine ps_get (S' := (121, [(0, .ref o), (1, .int (nI k))], [.ref q], M)) rfl h_o rfl rfl ?_
    refine ps_st (S' := (122, [(0, .ref o), (1, .int (nI k))], [.int (nI k), .ref q], M)) rfl rfl rfl ?_
    refine pl_call (a := [.ref q, .int (nI k)]) (rest := []) rfl rfl rfl (dy_secondIndex (f := f) (n := n) (N := N) (q := q) (E := E) (j := k) (hV) (by omega)) (fun v16 M17 q18 => ?_)
    obtain ⟨rfl, rfl⟩ := q18
    show pl _ _ _ (125, [(0, .ref o), (1, .int (nI k))], [.int (nI (se f E k))], M) _
    refine ps_st (S' := (126, [(2, .int (nI (se f E k))), (0, .ref o), (1, .int (nI k))], [], M)) rfl rfl rfl ?_
    refine ps_st (S' := (127, [(2, .int (nI (se f E k))), (0, .ref o), (1, .int (nI k))], [.ref o], M)) rfl rfl rfl ?_
    refine ps_st (S' := (128, [(2, .int (nI (se f E k))), (0, .ref o), (1, .int (nI k))], [.int (nI (se f E k)), .ref o], M)) rfl rfl rfl ?_
    refine pl_call (a := [.ref o, .int (nI (se f E k))]) (rest := []) rfl rfl rfl (dk_isMember (f := f) (n := n) (N := N) (q := q) (E := E) (o := o) (vd := vd) (mj := mj) (k := (se f E k)) h_o (hV) (hmj) (se_lt _ _ _)) (fun v19 M20 q21 => ?_)
    obtain ⟨rfl, rfl⟩ := q21
    show pl _ _ _ (131, [(2, .int (nI (se f E k))), (0, .ref o), (1, .int (nI k))], [.int (nI (ismN f E (se f E k)))], M) _
    refine ps_if (S1 := (142, [(2, .int (nI (se f E k))), (0, .ref o), (1, .int (nI k))], [], M)) (S2 := (134, [(2, .int (nI (se f E k))), (0, .ref o), (1, .int (nI k))], [], M)) rfl rfl rfl (fun c_131 => ?_) (fun c_131 => ?_)
    · have c_131 : (nI (ismN f E (se f E k))) = 0 := of_decide_eq_true c_131
      have n_131 : ismN f E (se f E k) = 0 := (eq_nI (p := ismN f E (se f E k)) (n := 0) (Nat.lt_trans (le1_ism _ _ _) (by decide)) (by decide)).mp c_131
      refine ps_st (S' := (143, [(2, .int (nI (se f E k))), (0, .ref o), (1, .int (nI k))], [.ref o], M)) rfl rfl rfl ?_
      refine ps_get (S' := (146, [(2, .int (nI (se f E k))), (0, .ref o), (1, .int (nI k))], [.ref q], M)) rfl h_o rfl rfl ?_
      refine ps_st (S' := (147, [(2, .int (nI (se f E k))), (0, .ref o), (1, .int (nI k))], [.int (nI (se f E k)), .ref q], M)) rfl rfl rfl ?_
      refine pl_call (a := [.ref q, .int (nI (se f E k))]) (rest := []) rfl rfl rfl (dy_tagOf (f := f) (n := n) (N := N) (q := q) (E := E) (j := (se f E k)) (hV) (se_lt _ _ _)) (fun v22 M23 q24 => ?_)
      obtain ⟨rfl, rfl⟩ := q24
      show pl _ _ _ (150, [(2, .int (nI (se f E k))), (0, .ref o), (1, .int (nI k))], [.int (nI (tg f E (se f E k)))], M) _
      refine ps_if (S1 := (157, [(2, .int (nI (se f E k))), (0, .ref o), (1, .int (nI k))], [], M)) (S2 := (153, [(2, .int (nI (se f E k))), (0, .ref o), (1, .int (nI k))], [], M)) rfl rfl rfl (fun c_150 => ?_) (fun c_150 => ?_)
      · have c_150 : (nI (tg f E (se f E k))) = 0 := of_decide_eq_true c_150
        have n_150 : tg f E (se f E k) = 0 := (eq_nI (p := tg f E (se f E k)) (n := 0) (Nat.lt_trans (tg_lt _ _ _) (by decide)) (by decide)).mp c_150
        refine ps_st (S' := (158, [], [.int 0], M)) rfl rfl rfl ?_
        exact ps_ret rfl rfl (⟨congrArg (fun x => some (Value.int (nI x))) (show 0 = lnkN f E k from by
            unfold lnkN
            first | ((repeat first | rw [if_pos (by omega)] | rw [if_neg (by omega)]) <;> first | rfl | omega) | ((repeat' split) <;> first | rfl | (exfalso; omega) | omega)), rfl⟩)
      · have c_150 : ¬ ((nI (tg f E (se f E k))) = 0) := of_decide_eq_false c_150
        have n_150 : ¬ (tg f E (se f E k) = 0) := fun h9 => c_150 ((eq_nI (p := tg f E (se f E k)) (n := 0) (Nat.lt_trans (tg_lt _ _ _) (by decide)) (by decide)).mpr h9)
        refine ps_st (S' := (154, [(2, .int (nI (se f E k))), (0, .ref o), (1, .int (nI k))], [.int 1], M)) rfl rfl rfl ?_
        refine ps_st (S' := (158, [], [.int 1], M)) rfl rfl rfl ?_
        exact ps_ret rfl rfl (⟨congrArg (fun x => some (Value.int (nI x))) (show 1 = lnkN f E k from by
            unfold lnkN
            first | ((repeat first | rw [if_pos (by omega)] | rw [if_neg (by omega)]) <;> first | rfl | omega) | ((repeat' split) <;> first | rfl | (exfalso; omega) | omega)), rfl⟩)
    · have c_131 : ¬ ((nI (ismN f E (se f E k))) = 0) := of_decide_eq_false c_131
      have n_131 : ¬ (ismN f E (se f E k) = 0) := fun h9 => c_131 ((eq_nI (p := ismN f E (se f E k)) (n := 0) (Nat.lt_trans (le1_ism _ _ _) (by decide)) (by decide)).mpr h9)
      refine ps_st (S' := (135, [(2, .int (nI (se f E k))), (0, .ref o), (1, .int (nI k))], [.ref o], M)) rfl rfl rfl ?_
      refine ps_st (S' := (136, [(2, .int (nI (se f E k))), (0, .ref o), (1, .int (nI k))], [.int (nI (se f E k)), .ref o], M)) rfl rfl rfl ?_
      refine pl_call (a := [.ref o, .int (nI (se f E k))]) (rest := []) rfl rfl rfl (dk_memberHolds (f := f) (n := n) (N := N) (q := q) (E := E) (o := o) (vd := vd) (mj := mj) (k := (se f E k)) h_o (hV) (hmj) (se_lt _ _ _)) (fun v25 M26 q27 => ?_)
      obtain ⟨rfl, rfl⟩ := q27
      show pl _ _ _ (139, [(2, .int (nI (se f E k))), (0, .ref o), (1, .int (nI k))], [.int (nI (memN f E (se f E k)))], M) _
      refine ps_st (S' := (158, [], [.int (nI (memN f E (se f E k)))], M)) rfl rfl rfl ?_
      exact ps_reti rfl (⟨congrArg (fun x => some (Value.int (nI x))) (show memN f E (se f E k) = lnkN f E k from by
          unfold lnkN
          first | ((repeat first | rw [if_pos (by omega)] | rw [if_neg (by omega)]) <;> first | rfl | omega) | ((repeat' split) <;> first | rfl | (exfalso; omega) | omega)), rfl⟩)
  · show pl _ _ _ (159, [(0, .ref o), (1, .int (nI k))], [], M) _
    have m_8 := sw_nat (t := tg f E k) (Nat.lt_trans (tg_lt _ _ _) (by decide)) et_8
    simp at m_8
    refine ps_st (S' := (160, [(0, .ref o), (1, .int (nI k))], [.ref o], M)) rfl rfl rfl ?_
    refine ps_st (S' := (161, [(0, .ref o), (1, .int (nI k))], [.ref o, .ref o], M)) rfl rfl rfl ?_
    refine ps_get (S' := (164, [(0, .ref o), (1, .int (nI k))], [.ref q, .ref o], M)) rfl h_o rfl rfl ?_
    refine ps_st (S' := (165, [(0, .ref o), (1, .int (nI k))], [.int (nI k), .ref q, .ref o], M)) rfl rfl rfl ?_
    refine pl_call (a := [.ref q, .int (nI k)]) (rest := [.ref o]) rfl rfl rfl (dy_secondIndex (f := f) (n := n) (N := N) (q := q) (E := E) (j := k) (hV) (by omega)) (fun v28 M29 q30 => ?_)
    obtain ⟨rfl, rfl⟩ := q30
    show pl _ _ _ (168, [(0, .ref o), (1, .int (nI k))], [.int (nI (se f E k)), .ref o], M) _
    refine pl_call (a := [.ref o, .int (nI (se f E k))]) (rest := []) rfl rfl rfl (dk_pairHolds (f := f) (n := n) (N := N) (q := q) (E := E) (o := o) (vd := vd) (mj := mj) (k := (se f E k)) h_o (hV) (hmj) (se_lt _ _ _)) (fun v31 M32 q33 => ?_)
    obtain ⟨rfl, rfl⟩ := q33
    show pl _ _ _ (171, [(0, .ref o), (1, .int (nI k))], [.int (nI (pairN f E (se f E k)))], M) _
    exact ps_reti rfl (⟨congrArg (fun x => some (Value.int (nI x))) (show pairN f E (se f E k) = lnkN f E k from by
        unfold lnkN
        first | ((repeat first | rw [if_pos (by omega)] | rw [if_neg (by omega)]) <;> first | rfl | omega) | ((repeat' split) <;> first | rfl | (exfalso; omega) | omega)), rfl⟩)
  · show pl _ _ _ (172, [(0, .ref o), (1, .int (nI k))], [], M) _
    have m_8 := sw_nat (t := tg f E k) (Nat.lt_trans (tg_lt _ _ _) (by decide)) et_8
    simp at m_8
    refine ps_st (S' := (173, [(0, .ref o), (1, .int (nI k))], [.int 1], M)) rfl rfl rfl ?_
    exact ps_ret rfl rfl (⟨congrArg (fun x => some (Value.int (nI x))) (show 1 = lnkN f E k from by
        unfold lnkN
        first | ((repeat first | rw [if_pos (by omega)] | rw [if_neg (by omega)]) <;> first | rfl | omega) | ((repeat' split) <;> first | rfl | (exfalso; omega) | omega)), rfl⟩)
set_option maxHeartbeats 1000000 in
theorem dk_isNameWithType {g : xe_G} {M : mi_H} {f : Nat → Int32} {n N q : Nat} {E : List (Nat × Nat)} {o vd mj : Nat} {k : Nat} (h_o : M.1 o = some (ob 8 [.ref q, .int (nI mj), .ref vd])) (hV : PV g f n N E q M) (hmj : mj < 65536) (hk : k < 65536) : pt (mT g) 150 [.ref o, .int (nI k)] M (fun v M' => (v = some (.int (nI (nwtN f n E k))) ∧ M = M')) := by
  refine pt_in (b := mb_150 g) rfl (fun kf => ?_)
  show pl (mT g) kf (mb_150 g).2 (0, [(0, .ref o), (1, .int (nI k))], [], M) _
  refine ps_st (S' := (1, [(0, .ref o), (1, .int (nI k))], [.ref o], M)) rfl rfl rfl ?_
  refine ps_get (S' := (4, [(0, .ref o), (1, .int (nI k))], [.ref q], M)) rfl h_o rfl rfl ?_
  refine ps_st (S' := (5, [(0, .ref o), (1, .int (nI k))], [.int (nI k), .ref q], M)) rfl rfl rfl ?_
  refine pl_call (a := [.ref q, .int (nI k)]) (rest := []) rfl rfl rfl (dy_secondIndex (f := f) (n := n) (N := N) (q := q) (E := E) (j := k) (hV) (by omega)) (fun v1 M2 q3 => ?_)
  obtain ⟨rfl, rfl⟩ := q3
  show pl _ _ _ (8, [(0, .ref o), (1, .int (nI k))], [.int (nI (se f E k))], M) _
  refine ps_st (S' := (9, [(2, .int (nI (se f E k))), (0, .ref o), (1, .int (nI k))], [], M)) rfl rfl rfl ?_
  refine ps_st (S' := (10, [(2, .int (nI (se f E k))), (0, .ref o), (1, .int (nI k))], [.ref o], M)) rfl rfl rfl ?_
  refine ps_get (S' := (13, [(2, .int (nI (se f E k))), (0, .ref o), (1, .int (nI k))], [.ref q], M)) rfl h_o rfl rfl ?_
  refine ps_st (S' := (14, [(2, .int (nI (se f E k))), (0, .ref o), (1, .int (nI k))], [.ref o, .ref q], M)) rfl rfl rfl ?_
  refine ps_get (S' := (17, [(2, .int (nI (se f E k))), (0, .ref o), (1, .int (nI k))], [.ref q, .ref q], M)) rfl h_o rfl rfl ?_
  refine ps_st (S' := (18, [(2, .int (nI (se f E k))), (0, .ref o), (1, .int (nI k))], [.int (nI k), .ref q, .ref q], M)) rfl rfl rfl ?_
  refine pl_call (a := [.ref q, .int (nI k)]) (rest := [.ref q]) rfl rfl rfl (dy_firstIndex (f := f) (n := n) (N := N) (q := q) (E := E) (j := k) (hV) (by omega)) (fun v4 M5 q6 => ?_)
  obtain ⟨rfl, rfl⟩ := q6
  show pl _ _ _ (21, [(2, .int (nI (se f E k))), (0, .ref o), (1, .int (nI k))], [.int (nI (fi f E k)), .ref q], M) _
  refine pl_call (a := [.ref q, .int (nI (fi f E k))]) (rest := []) rfl rfl rfl (dy_isUnqualifiedName (f := f) (n := n) (N := N) (q := q) (E := E) (j := (fi f E k)) (hV) (fi_lt _ _ _)) (fun v7 M8 q9 => ?_)
  obtain ⟨rfl, rfl⟩ := q9
  show pl _ _ _ (24, [(2, .int (nI (se f E k))), (0, .ref o), (1, .int (nI k))], [.int (nI (unqN (tX f n E (fi f E k))))], M) _
  refine ps_if (S1 := (53, [], [], M)) (S2 := (27, [(2, .int (nI (se f E k))), (0, .ref o), (1, .int (nI k))], [], M)) rfl rfl rfl (fun c_24 => ?_) (fun c_24 => ?_)
  · have c_24 : (nI (unqN (tX f n E (fi f E k)))) = 0 := of_decide_eq_true c_24
    have n_24 : unqN (tX f n E (fi f E k)) = 0 := (eq_nI (p := unqN (tX f n E (fi f E k))) (n := 0) (Nat.lt_trans (le1_unq _) (by decide)) (by decide)).mp c_24
    refine ps_st (S' := (54, [], [.int 0], M)) rfl rfl rfl ?_
    exact ps_ret rfl rfl (⟨congrArg (fun x => some (Value.int (nI x))) (show 0 = nwtN f n E k from by
        unfold nwtN
        first | ((repeat first | rw [if_pos (by omega)] | rw [if_neg (by omega)]) <;> first | rfl | omega) | ((repeat' split) <;> first | rfl | (exfalso; omega) | omega)), rfl⟩)
  · have c_24 : ¬ ((nI (unqN (tX f n E (fi f E k)))) = 0) := of_decide_eq_false c_24
    have n_24 : ¬ (unqN (tX f n E (fi f E k)) = 0) := fun h9 => c_24 ((eq_nI (p := unqN (tX f n E (fi f E k))) (n := 0) (Nat.lt_trans (le1_unq _) (by decide)) (by decide)).mpr h9)
    refine ps_st (S' := (28, [(2, .int (nI (se f E k))), (0, .ref o), (1, .int (nI k))], [.ref o], M)) rfl rfl rfl ?_
    refine ps_get (S' := (31, [(2, .int (nI (se f E k))), (0, .ref o), (1, .int (nI k))], [.ref q], M)) rfl h_o rfl rfl ?_
    refine ps_st (S' := (32, [(2, .int (nI (se f E k))), (0, .ref o), (1, .int (nI k))], [.int (nI (se f E k)), .ref q], M)) rfl rfl rfl ?_
    refine pl_call (a := [.ref q, .int (nI (se f E k))]) (rest := []) rfl rfl rfl (dy_isFieldDescriptor (f := f) (n := n) (N := N) (q := q) (E := E) (j := (se f E k)) (hV) (se_lt _ _ _)) (fun v10 M11 q12 => ?_)
    obtain ⟨rfl, rfl⟩ := q12
    show pl _ _ _ (35, [(2, .int (nI (se f E k))), (0, .ref o), (1, .int (nI k))], [.int (nI (fldN (tX f n E (se f E k))))], M) _
    refine ps_if (S1 := (49, [], [], M)) (S2 := (38, [(2, .int (nI (se f E k))), (0, .ref o), (1, .int (nI k))], [], M)) rfl rfl rfl (fun c_35 => ?_) (fun c_35 => ?_)
    · have c_35 : ¬ (nI (fldN (tX f n E (se f E k)))) = 0 := of_decide_eq_true c_35
      have n_35 : ¬ (fldN (tX f n E (se f E k)) = 0) := fun h9 => c_35 ((eq_nI (p := fldN (tX f n E (se f E k))) (n := 0) (Nat.lt_trans (le1_fld _) (by decide)) (by decide)).mpr h9)
      refine ps_st (S' := (50, [], [.int 1], M)) rfl rfl rfl ?_
      refine ps_st (S' := (54, [], [.int 1], M)) rfl rfl rfl ?_
      exact ps_ret rfl rfl (⟨congrArg (fun x => some (Value.int (nI x))) (show 1 = nwtN f n E k from by
          unfold nwtN
          first | ((repeat first | rw [if_pos (by omega)] | rw [if_neg (by omega)]) <;> first | rfl | omega) | ((repeat' split) <;> first | rfl | (exfalso; omega) | omega)), rfl⟩)
    · have c_35 : ¬ (¬ (nI (fldN (tX f n E (se f E k)))) = 0) := of_decide_eq_false c_35
      have n_35 : fldN (tX f n E (se f E k)) = 0 := (eq_nI (p := fldN (tX f n E (se f E k))) (n := 0) (Nat.lt_trans (le1_fld _) (by decide)) (by decide)).mp (Decidable.not_not.mp c_35)
      refine ps_st (S' := (39, [(2, .int (nI (se f E k))), (0, .ref o), (1, .int (nI k))], [.ref o], M)) rfl rfl rfl ?_
      refine ps_get (S' := (42, [(2, .int (nI (se f E k))), (0, .ref o), (1, .int (nI k))], [.ref q], M)) rfl h_o rfl rfl ?_
      refine ps_st (S' := (43, [(2, .int (nI (se f E k))), (0, .ref o), (1, .int (nI k))], [.int (nI (se f E k)), .ref q], M)) rfl rfl rfl ?_
      refine pl_call (a := [.ref q, .int (nI (se f E k))]) (rest := []) rfl rfl rfl (dy_isMethodDescriptor (f := f) (n := n) (N := N) (q := q) (E := E) (j := (se f E k)) (hV) (se_lt _ _ _)) (fun v13 M14 q15 => ?_)
      obtain ⟨rfl, rfl⟩ := q15
      show pl _ _ _ (46, [(2, .int (nI (se f E k))), (0, .ref o), (1, .int (nI k))], [.int (nI (mthN (tX f n E (se f E k))))], M) _
      refine ps_if (S1 := (53, [], [], M)) (S2 := (49, [], [], M)) rfl rfl rfl (fun c_46 => ?_) (fun c_46 => ?_)
      · have c_46 : (nI (mthN (tX f n E (se f E k)))) = 0 := of_decide_eq_true c_46
        have n_46 : mthN (tX f n E (se f E k)) = 0 := (eq_nI (p := mthN (tX f n E (se f E k))) (n := 0) (Nat.lt_trans (le1_mth _) (by decide)) (by decide)).mp c_46
        refine ps_st (S' := (54, [], [.int 0], M)) rfl rfl rfl ?_
        exact ps_ret rfl rfl (⟨congrArg (fun x => some (Value.int (nI x))) (show 0 = nwtN f n E k from by
            unfold nwtN
            first | ((repeat first | rw [if_pos (by omega)] | rw [if_neg (by omega)]) <;> first | rfl | omega) | ((repeat' split) <;> first | rfl | (exfalso; omega) | omega)), rfl⟩)
      · have c_46 : ¬ ((nI (mthN (tX f n E (se f E k)))) = 0) := of_decide_eq_false c_46
        have n_46 : ¬ (mthN (tX f n E (se f E k)) = 0) := fun h9 => c_46 ((eq_nI (p := mthN (tX f n E (se f E k))) (n := 0) (Nat.lt_trans (le1_mth _) (by decide)) (by decide)).mpr h9)
        refine ps_st (S' := (50, [], [.int 1], M)) rfl rfl rfl ?_
        refine ps_st (S' := (54, [], [.int 1], M)) rfl rfl rfl ?_
        exact ps_ret rfl rfl (⟨congrArg (fun x => some (Value.int (nI x))) (show 1 = nwtN f n E k from by
            unfold nwtN
            first | ((repeat first | rw [if_pos (by omega)] | rw [if_neg (by omega)]) <;> first | rfl | omega) | ((repeat' split) <;> first | rfl | (exfalso; omega) | omega)), rfl⟩)
set_option maxHeartbeats 1000000 in
theorem dk_isMethodRef {g : xe_G} {M : mi_H} {f : Nat → Int32} {n N q : Nat} {E : List (Nat × Nat)} {o vd mj : Nat} {k : Nat} (h_o : M.1 o = some (ob 8 [.ref q, .int (nI mj), .ref vd])) (hV : PV g f n N E q M) (hmj : mj < 65536) (hk : k < 65536) : pt (mT g) 149 [.ref o, .int (nI k)] M (fun v M' => (v = some (.int (nI (mrfN f n E k))) ∧ M = M')) := by
  refine pt_in (b := mb_149 g) rfl (fun kf => ?_)
  show pl (mT g) kf (mb_149 g).2 (0, [(0, .ref o), (1, .int (nI k))], [], M) _
  refine ps_st (S' := (1, [(0, .ref o), (1, .int (nI k))], [.ref o], M)) rfl rfl rfl ?_
  refine ps_get (S' := (4, [(0, .ref o), (1, .int (nI k))], [.ref q], M)) rfl h_o rfl rfl ?_
  refine ps_st (S' := (5, [(0, .ref o), (1, .int (nI k))], [.int (nI k), .ref q], M)) rfl rfl rfl ?_
  refine pl_call (a := [.ref q, .int (nI k)]) (rest := []) rfl rfl rfl (dy_descriptorOf (f := f) (n := n) (N := N) (q := q) (E := E) (j := k) (hV) (by omega)) (fun v1 M2 q3 => ?_)
  obtain ⟨rfl, rfl⟩ := q3
  show pl _ _ _ (8, [(0, .ref o), (1, .int (nI k))], [.int (nI (se f E (se f E k)))], M) _
  refine ps_st (S' := (9, [(2, .int (nI (se f E (se f E k)))), (0, .ref o), (1, .int (nI k))], [], M)) rfl rfl rfl ?_
  refine ps_st (S' := (10, [(2, .int (nI (se f E (se f E k)))), (0, .ref o), (1, .int (nI k))], [.ref o], M)) rfl rfl rfl ?_
  refine ps_get (S' := (13, [(2, .int (nI (se f E (se f E k)))), (0, .ref o), (1, .int (nI k))], [.ref q], M)) rfl h_o rfl rfl ?_
  refine ps_st (S' := (14, [(2, .int (nI (se f E (se f E k)))), (0, .ref o), (1, .int (nI k))], [.int (nI (se f E (se f E k))), .ref q], M)) rfl rfl rfl ?_
  refine pl_call (a := [.ref q, .int (nI (se f E (se f E k)))]) (rest := []) rfl rfl rfl (dy_isMethodDescriptor (f := f) (n := n) (N := N) (q := q) (E := E) (j := (se f E (se f E k))) (hV) (se_lt _ _ _)) (fun v4 M5 q6 => ?_)
  obtain ⟨rfl, rfl⟩ := q6
  show pl _ _ _ (17, [(2, .int (nI (se f E (se f E k)))), (0, .ref o), (1, .int (nI k))], [.int (nI (mthN (tX f n E (se f E (se f E k)))))], M) _
  refine ps_if (S1 := (22, [(2, .int (nI (se f E (se f E k)))), (0, .ref o), (1, .int (nI k))], [], M)) (S2 := (20, [(2, .int (nI (se f E (se f E k)))), (0, .ref o), (1, .int (nI k))], [], M)) rfl rfl rfl (fun c_17 => ?_) (fun c_17 => ?_)
  · have c_17 : ¬ (nI (mthN (tX f n E (se f E (se f E k))))) = 0 := of_decide_eq_true c_17
    have n_17 : ¬ (mthN (tX f n E (se f E (se f E k))) = 0) := fun h9 => c_17 ((eq_nI (p := mthN (tX f n E (se f E (se f E k)))) (n := 0) (Nat.lt_trans (le1_mth _) (by decide)) (by decide)).mpr h9)
    refine ps_st (S' := (23, [(2, .int (nI (se f E (se f E k)))), (0, .ref o), (1, .int (nI k))], [.ref o], M)) rfl rfl rfl ?_
    refine ps_get (S' := (26, [(2, .int (nI (se f E (se f E k)))), (0, .ref o), (1, .int (nI k))], [.ref q], M)) rfl h_o rfl rfl ?_
    refine ps_st (S' := (27, [(2, .int (nI (se f E (se f E k)))), (0, .ref o), (1, .int (nI k))], [.ref o, .ref q], M)) rfl rfl rfl ?_
    refine ps_get (S' := (30, [(2, .int (nI (se f E (se f E k)))), (0, .ref o), (1, .int (nI k))], [.ref q, .ref q], M)) rfl h_o rfl rfl ?_
    refine ps_st (S' := (31, [(2, .int (nI (se f E (se f E k)))), (0, .ref o), (1, .int (nI k))], [.int (nI k), .ref q, .ref q], M)) rfl rfl rfl ?_
    refine pl_call (a := [.ref q, .int (nI k)]) (rest := [.ref q]) rfl rfl rfl (dy_nameOf (f := f) (n := n) (N := N) (q := q) (E := E) (j := k) (hV) (by omega)) (fun v7 M8 q9 => ?_)
    obtain ⟨rfl, rfl⟩ := q9
    show pl _ _ _ (34, [(2, .int (nI (se f E (se f E k)))), (0, .ref o), (1, .int (nI k))], [.int (nI (fi f E (se f E k))), .ref q], M) _
    refine pl_call (a := [.ref q, .int (nI (fi f E (se f E k)))]) (rest := []) rfl rfl rfl (dy_hasAngle (f := f) (n := n) (N := N) (q := q) (E := E) (j := (fi f E (se f E k))) (hV) (fi_lt _ _ _)) (fun v10 M11 q12 => ?_)
    obtain ⟨rfl, rfl⟩ := q12
    show pl _ _ _ (37, [(2, .int (nI (se f E (se f E k)))), (0, .ref o), (1, .int (nI k))], [.int (nI (angN (tX f n E (fi f E (se f E k)))))], M) _
    refine ps_if (S1 := (42, [(2, .int (nI (se f E (se f E k)))), (0, .ref o), (1, .int (nI k))], [], M)) (S2 := (40, [(2, .int (nI (se f E (se f E k)))), (0, .ref o), (1, .int (nI k))], [], M)) rfl rfl rfl (fun c_37 => ?_) (fun c_37 => ?_)
    · have c_37 : ¬ (nI (angN (tX f n E (fi f E (se f E k))))) = 0 := of_decide_eq_true c_37
      have n_37 : ¬ (angN (tX f n E (fi f E (se f E k))) = 0) := fun h9 => c_37 ((eq_nI (p := angN (tX f n E (fi f E (se f E k)))) (n := 0) (Nat.lt_trans (le1_ang _) (by decide)) (by decide)).mpr h9)
      refine ps_st (S' := (43, [(2, .int (nI (se f E (se f E k)))), (0, .ref o), (1, .int (nI k))], [.ref o], M)) rfl rfl rfl ?_
      refine ps_get (S' := (46, [(2, .int (nI (se f E (se f E k)))), (0, .ref o), (1, .int (nI k))], [.ref q], M)) rfl h_o rfl rfl ?_
      refine ps_st (S' := (47, [(2, .int (nI (se f E (se f E k)))), (0, .ref o), (1, .int (nI k))], [.int (nI k), .ref q], M)) rfl rfl rfl ?_
      refine pl_call (a := [.ref q, .int (nI k)]) (rest := []) rfl rfl rfl (dy_tagOf (f := f) (n := n) (N := N) (q := q) (E := E) (j := k) (hV) (by omega)) (fun v13 M14 q15 => ?_)
      obtain ⟨rfl, rfl⟩ := q15
      show pl _ _ _ (50, [(2, .int (nI (se f E (se f E k)))), (0, .ref o), (1, .int (nI k))], [.int (nI (tg f E k))], M) _
      refine ps_st (S' := (52, [(2, .int (nI (se f E (se f E k)))), (0, .ref o), (1, .int (nI k))], [.int 10, .int (nI (tg f E k))], M)) rfl rfl rfl ?_
      refine ps_if2 (S1 := (81, [], [], M)) (S2 := (55, [(2, .int (nI (se f E (se f E k)))), (0, .ref o), (1, .int (nI k))], [], M)) rfl rfl rfl (fun c_52 => ?_) (fun c_52 => ?_)
      · have c_52 : ¬ (nI (tg f E k)) = 10 := of_decide_eq_true c_52
        have n_52 : ¬ (tg f E k = 10) := fun h9 => c_52 ((eq_nI (p := tg f E k) (n := 10) (Nat.lt_trans (tg_lt _ _ _) (by decide)) (by decide)).mpr h9)
        refine ps_st (S' := (82, [], [.int 0], M)) rfl rfl rfl ?_
        exact ps_ret rfl rfl (⟨congrArg (fun x => some (Value.int (nI x))) (show 0 = mrfN f n E k from by
            unfold mrfN
            first | ((repeat first | rw [if_pos (by omega)] | rw [if_neg (by omega)]) <;> first | rfl | omega) | ((repeat' split) <;> first | rfl | (exfalso; omega) | omega)), rfl⟩)
      · have c_52 : ¬ (¬ (nI (tg f E k)) = 10) := of_decide_eq_false c_52
        have n_52 : tg f E k = 10 := (eq_nI (p := tg f E k) (n := 10) (Nat.lt_trans (tg_lt _ _ _) (by decide)) (by decide)).mp (Decidable.not_not.mp c_52)
        refine ps_st (S' := (56, [(2, .int (nI (se f E (se f E k)))), (0, .ref o), (1, .int (nI k))], [.ref o], M)) rfl rfl rfl ?_
        refine ps_get (S' := (59, [(2, .int (nI (se f E (se f E k)))), (0, .ref o), (1, .int (nI k))], [.ref q], M)) rfl h_o rfl rfl ?_
        refine ps_st (S' := (60, [(2, .int (nI (se f E (se f E k)))), (0, .ref o), (1, .int (nI k))], [.int (nI k), .ref q], M)) rfl rfl rfl ?_
        refine pl_call (a := [.ref q, .int (nI k)]) (rest := []) rfl rfl rfl (dy_namesInit (f := f) (n := n) (N := N) (q := q) (E := E) (j := k) (hV) (by omega)) (fun v16 M17 q18 => ?_)
        obtain ⟨rfl, rfl⟩ := q18
        show pl _ _ _ (63, [(2, .int (nI (se f E (se f E k)))), (0, .ref o), (1, .int (nI k))], [.int (nI (eqN (tX f n E (fi f E (se f E k))) (ltx 14)))], M) _
        refine ps_if (S1 := (81, [], [], M)) (S2 := (66, [(2, .int (nI (se f E (se f E k)))), (0, .ref o), (1, .int (nI k))], [], M)) rfl rfl rfl (fun c_63 => ?_) (fun c_63 => ?_)
        · have c_63 : (nI (eqN (tX f n E (fi f E (se f E k))) (ltx 14))) = 0 := of_decide_eq_true c_63
          have n_63 : eqN (tX f n E (fi f E (se f E k))) (ltx 14) = 0 := (eq_nI (p := eqN (tX f n E (fi f E (se f E k))) (ltx 14)) (n := 0) (Nat.lt_trans (le1_eq _ _) (by decide)) (by decide)).mp c_63
          refine ps_st (S' := (82, [], [.int 0], M)) rfl rfl rfl ?_
          exact ps_ret rfl rfl (⟨congrArg (fun x => some (Value.int (nI x))) (show 0 = mrfN f n E k from by
              unfold mrfN
              first | ((repeat first | rw [if_pos (by omega)] | rw [if_neg (by omega)]) <;> first | rfl | omega) | ((repeat' split) <;> first | rfl | (exfalso; omega) | omega)), rfl⟩)
        · have c_63 : ¬ ((nI (eqN (tX f n E (fi f E (se f E k))) (ltx 14))) = 0) := of_decide_eq_false c_63
          have n_63 : ¬ (eqN (tX f n E (fi f E (se f E k))) (ltx 14) = 0) := fun h9 => c_63 ((eq_nI (p := eqN (tX f n E (fi f E (se f E k))) (ltx 14)) (n := 0) (Nat.lt_trans (le1_eq _ _) (by decide)) (by decide)).mpr h9)
          refine ps_st (S' := (67, [(2, .int (nI (se f E (se f E k)))), (0, .ref o), (1, .int (nI k))], [.ref o], M)) rfl rfl rfl ?_
          refine ps_get (S' := (70, [(2, .int (nI (se f E (se f E k)))), (0, .ref o), (1, .int (nI k))], [.ref q], M)) rfl h_o rfl rfl ?_
          refine ps_st (S' := (71, [(2, .int (nI (se f E (se f E k)))), (0, .ref o), (1, .int (nI k))], [.int (nI (se f E (se f E k))), .ref q], M)) rfl rfl rfl ?_
          refine pl_call (a := [.ref q, .int (nI (se f E (se f E k)))]) (rest := []) rfl rfl rfl (dy_hasNoResult (f := f) (n := n) (N := N) (q := q) (E := E) (j := (se f E (se f E k))) (hV) (se_lt _ _ _)) (fun v19 M20 q21 => ?_)
          obtain ⟨rfl, rfl⟩ := q21
          show pl _ _ _ (74, [(2, .int (nI (se f E (se f E k)))), (0, .ref o), (1, .int (nI k))], [.int (nI (nresN (tX f n E (se f E (se f E k)))))], M) _
          refine ps_if (S1 := (81, [], [], M)) (S2 := (77, [(2, .int (nI (se f E (se f E k)))), (0, .ref o), (1, .int (nI k))], [], M)) rfl rfl rfl (fun c_74 => ?_) (fun c_74 => ?_)
          · have c_74 : (nI (nresN (tX f n E (se f E (se f E k))))) = 0 := of_decide_eq_true c_74
            have n_74 : nresN (tX f n E (se f E (se f E k))) = 0 := (eq_nI (p := nresN (tX f n E (se f E (se f E k)))) (n := 0) (Nat.lt_trans (le1_nres _) (by decide)) (by decide)).mp c_74
            refine ps_st (S' := (82, [], [.int 0], M)) rfl rfl rfl ?_
            exact ps_ret rfl rfl (⟨congrArg (fun x => some (Value.int (nI x))) (show 0 = mrfN f n E k from by
                unfold mrfN
                first | ((repeat first | rw [if_pos (by omega)] | rw [if_neg (by omega)]) <;> first | rfl | omega) | ((repeat' split) <;> first | rfl | (exfalso; omega) | omega)), rfl⟩)
          · have c_74 : ¬ ((nI (nresN (tX f n E (se f E (se f E k))))) = 0) := of_decide_eq_false c_74
            have n_74 : ¬ (nresN (tX f n E (se f E (se f E k))) = 0) := fun h9 => c_74 ((eq_nI (p := nresN (tX f n E (se f E (se f E k)))) (n := 0) (Nat.lt_trans (le1_nres _) (by decide)) (by decide)).mpr h9)
            refine ps_st (S' := (78, [(2, .int (nI (se f E (se f E k)))), (0, .ref o), (1, .int (nI k))], [.int 1], M)) rfl rfl rfl ?_
            refine ps_st (S' := (82, [], [.int 1], M)) rfl rfl rfl ?_
            exact ps_ret rfl rfl (⟨congrArg (fun x => some (Value.int (nI x))) (show 1 = mrfN f n E k from by
                unfold mrfN
                first | ((repeat first | rw [if_pos (by omega)] | rw [if_neg (by omega)]) <;> first | rfl | omega) | ((repeat' split) <;> first | rfl | (exfalso; omega) | omega)), rfl⟩)
    · have c_37 : ¬ (¬ (nI (angN (tX f n E (fi f E (se f E k))))) = 0) := of_decide_eq_false c_37
      have n_37 : angN (tX f n E (fi f E (se f E k))) = 0 := (eq_nI (p := angN (tX f n E (fi f E (se f E k)))) (n := 0) (Nat.lt_trans (le1_ang _) (by decide)) (by decide)).mp (Decidable.not_not.mp c_37)
      refine ps_st (S' := (41, [(2, .int (nI (se f E (se f E k)))), (0, .ref o), (1, .int (nI k))], [.int 1], M)) rfl rfl rfl ?_
      exact ps_ret rfl rfl (⟨congrArg (fun x => some (Value.int (nI x))) (show 1 = mrfN f n E k from by
          unfold mrfN
          first | ((repeat first | rw [if_pos (by omega)] | rw [if_neg (by omega)]) <;> first | rfl | omega) | ((repeat' split) <;> first | rfl | (exfalso; omega) | omega)), rfl⟩)
  · have c_17 : ¬ (¬ (nI (mthN (tX f n E (se f E (se f E k))))) = 0) := of_decide_eq_false c_17
    have n_17 : mthN (tX f n E (se f E (se f E k))) = 0 := (eq_nI (p := mthN (tX f n E (se f E (se f E k)))) (n := 0) (Nat.lt_trans (le1_mth _) (by decide)) (by decide)).mp (Decidable.not_not.mp c_17)
    refine ps_st (S' := (21, [(2, .int (nI (se f E (se f E k)))), (0, .ref o), (1, .int (nI k))], [.int 0], M)) rfl rfl rfl ?_
    exact ps_ret rfl rfl (⟨congrArg (fun x => some (Value.int (nI x))) (show 0 = mrfN f n E k from by
        unfold mrfN
        first | ((repeat first | rw [if_pos (by omega)] | rw [if_neg (by omega)]) <;> first | rfl | omega) | ((repeat' split) <;> first | rfl | (exfalso; omega) | omega)), rfl⟩)
set_option maxHeartbeats 1000000 in
theorem dk_isHandle {g : xe_G} {M : mi_H} {f : Nat → Int32} {n N q : Nat} {E : List (Nat × Nat)} {o vd mj : Nat} {d e : Nat} (h_o : M.1 o = some (ob 8 [.ref q, .int (nI mj), .ref vd])) (hV : PV g f n N E q M) (hmj : mj < 65536) (hd : d < 65536) (he : e < 65536) : pt (mT g) 147 [.ref o, .int (nI d), .int (nI e)] M (fun v M' => (v = some (.int (nI (hdlN f n E mj d e))) ∧ M = M')) := by
  refine pt_in (b := mb_147 g) rfl (fun kf => ?_)
  show pl (mT g) kf (mb_147 g).2 (0, [(0, .ref o), (1, .int (nI d)), (2, .int (nI e))], [], M) _
  refine ps_st (S' := (1, [(0, .ref o), (1, .int (nI d)), (2, .int (nI e))], [.ref o], M)) rfl rfl rfl ?_
  refine ps_get (S' := (4, [(0, .ref o), (1, .int (nI d)), (2, .int (nI e))], [.ref q], M)) rfl h_o rfl rfl ?_
  refine ps_st (S' := (5, [(0, .ref o), (1, .int (nI d)), (2, .int (nI e))], [.int (nI e), .ref q], M)) rfl rfl rfl ?_
  refine pl_call (a := [.ref q, .int (nI e)]) (rest := []) rfl rfl rfl (dy_tagOf (f := f) (n := n) (N := N) (q := q) (E := E) (j := e) (hV) (by omega)) (fun v1 M2 q3 => ?_)
  obtain ⟨rfl, rfl⟩ := q3
  show pl _ _ _ (8, [(0, .ref o), (1, .int (nI d)), (2, .int (nI e))], [.int (nI (tg f E e))], M) _
  refine ps_st (S' := (9, [(3, .int (nI (tg f E e))), (0, .ref o), (1, .int (nI d)), (2, .int (nI e))], [], M)) rfl rfl rfl ?_
  refine ps_st (S' := (10, [(3, .int (nI (tg f E e))), (0, .ref o), (1, .int (nI d)), (2, .int (nI e))], [.int (nI d)], M)) rfl rfl rfl ?_
  refine pl_sw rfl (fun t_10 et_10 => ?_)
  have ht_10 : t_10 ∈ [60, 72, 95, 133, 156, 179] := mi_sw_sub et_10 (by decide)
  simp only [List.mem_cons, List.not_mem_nil, or_false] at ht_10
  rcases ht_10 with rfl | rfl | rfl | rfl | rfl | rfl
  · show pl _ _ _ (60, [(3, .int (nI (tg f E e))), (0, .ref o), (1, .int (nI d)), (2, .int (nI e))], [], M) _
    have m_10 := sw_nat (t := d) (by omega) et_10
    simp at m_10
    refine ps_st (S' := (61, [(3, .int (nI (tg f E e))), (0, .ref o), (1, .int (nI d)), (2, .int (nI e))], [.int (nI (tg f E e))], M)) rfl rfl rfl ?_
    refine ps_st (S' := (63, [(3, .int (nI (tg f E e))), (0, .ref o), (1, .int (nI d)), (2, .int (nI e))], [.int 9, .int (nI (tg f E e))], M)) rfl rfl rfl ?_
    refine ps_if2 (S1 := (70, [(3, .int (nI (tg f E e))), (0, .ref o), (1, .int (nI d)), (2, .int (nI e))], [], M)) (S2 := (66, [(3, .int (nI (tg f E e))), (0, .ref o), (1, .int (nI d)), (2, .int (nI e))], [], M)) rfl rfl rfl (fun c_63 => ?_) (fun c_63 => ?_)
    · have c_63 : ¬ (nI (tg f E e)) = 9 := of_decide_eq_true c_63
      have n_63 : ¬ (tg f E e = 9) := fun h9 => c_63 ((eq_nI (p := tg f E e) (n := 9) (Nat.lt_trans (tg_lt _ _ _) (by decide)) (by decide)).mpr h9)
      refine ps_st (S' := (71, [], [.int 0], M)) rfl rfl rfl ?_
      exact ps_ret rfl rfl (⟨congrArg (fun x => some (Value.int (nI x))) (show 0 = hdlN f n E mj d e from by
          unfold hdlN
          first | ((repeat first | rw [if_pos (by omega)] | rw [if_neg (by omega)]) <;> first | rfl | omega) | ((repeat' split) <;> first | rfl | (exfalso; omega) | omega)), rfl⟩)
    · have c_63 : ¬ (¬ (nI (tg f E e)) = 9) := of_decide_eq_false c_63
      have n_63 : tg f E e = 9 := (eq_nI (p := tg f E e) (n := 9) (Nat.lt_trans (tg_lt _ _ _) (by decide)) (by decide)).mp (Decidable.not_not.mp c_63)
      refine ps_st (S' := (67, [(3, .int (nI (tg f E e))), (0, .ref o), (1, .int (nI d)), (2, .int (nI e))], [.int 1], M)) rfl rfl rfl ?_
      refine ps_st (S' := (71, [], [.int 1], M)) rfl rfl rfl ?_
      exact ps_ret rfl rfl (⟨congrArg (fun x => some (Value.int (nI x))) (show 1 = hdlN f n E mj d e from by
          unfold hdlN
          first | ((repeat first | rw [if_pos (by omega)] | rw [if_neg (by omega)]) <;> first | rfl | omega) | ((repeat' split) <;> first | rfl | (exfalso; omega) | omega)), rfl⟩)
  · show pl _ _ _ (72, [(3, .int (nI (tg f E e))), (0, .ref o), (1, .int (nI d)), (2, .int (nI e))], [], M) _
    have m_10 := sw_nat (t := d) (by omega) et_10
    simp at m_10
    refine ps_st (S' := (73, [(3, .int (nI (tg f E e))), (0, .ref o), (1, .int (nI d)), (2, .int (nI e))], [.int (nI (tg f E e))], M)) rfl rfl rfl ?_
    refine ps_st (S' := (75, [(3, .int (nI (tg f E e))), (0, .ref o), (1, .int (nI d)), (2, .int (nI e))], [.int 10, .int (nI (tg f E e))], M)) rfl rfl rfl ?_
    refine ps_if2 (S1 := (93, [], [], M)) (S2 := (78, [(3, .int (nI (tg f E e))), (0, .ref o), (1, .int (nI d)), (2, .int (nI e))], [], M)) rfl rfl rfl (fun c_75 => ?_) (fun c_75 => ?_)
    · have c_75 : ¬ (nI (tg f E e)) = 10 := of_decide_eq_true c_75
      have n_75 : ¬ (tg f E e = 10) := fun h9 => c_75 ((eq_nI (p := tg f E e) (n := 10) (Nat.lt_trans (tg_lt _ _ _) (by decide)) (by decide)).mpr h9)
      refine ps_st (S' := (94, [], [.int 0], M)) rfl rfl rfl ?_
      exact ps_ret rfl rfl (⟨congrArg (fun x => some (Value.int (nI x))) (show 0 = hdlN f n E mj d e from by
          unfold hdlN
          first | ((repeat first | rw [if_pos (by omega)] | rw [if_neg (by omega)]) <;> first | rfl | omega) | ((repeat' split) <;> first | rfl | (exfalso; omega) | omega)), rfl⟩)
    · have c_75 : ¬ (¬ (nI (tg f E e)) = 10) := of_decide_eq_false c_75
      have n_75 : tg f E e = 10 := (eq_nI (p := tg f E e) (n := 10) (Nat.lt_trans (tg_lt _ _ _) (by decide)) (by decide)).mp (Decidable.not_not.mp c_75)
      refine ps_st (S' := (79, [(3, .int (nI (tg f E e))), (0, .ref o), (1, .int (nI d)), (2, .int (nI e))], [.ref o], M)) rfl rfl rfl ?_
      refine ps_get (S' := (82, [(3, .int (nI (tg f E e))), (0, .ref o), (1, .int (nI d)), (2, .int (nI e))], [.ref q], M)) rfl h_o rfl rfl ?_
      refine ps_st (S' := (83, [(3, .int (nI (tg f E e))), (0, .ref o), (1, .int (nI d)), (2, .int (nI e))], [.int (nI e), .ref q], M)) rfl rfl rfl ?_
      refine pl_call (a := [.ref q, .int (nI e)]) (rest := []) rfl rfl rfl (dy_namesInit (f := f) (n := n) (N := N) (q := q) (E := E) (j := e) (hV) (by omega)) (fun v4 M5 q6 => ?_)
      obtain ⟨rfl, rfl⟩ := q6
      show pl _ _ _ (86, [(3, .int (nI (tg f E e))), (0, .ref o), (1, .int (nI d)), (2, .int (nI e))], [.int (nI (eqN (tX f n E (fi f E (se f E e))) (ltx 14)))], M) _
      refine ps_if (S1 := (93, [], [], M)) (S2 := (89, [(3, .int (nI (tg f E e))), (0, .ref o), (1, .int (nI d)), (2, .int (nI e))], [], M)) rfl rfl rfl (fun c_86 => ?_) (fun c_86 => ?_)
      · have c_86 : ¬ (nI (eqN (tX f n E (fi f E (se f E e))) (ltx 14))) = 0 := of_decide_eq_true c_86
        have n_86 : ¬ (eqN (tX f n E (fi f E (se f E e))) (ltx 14) = 0) := fun h9 => c_86 ((eq_nI (p := eqN (tX f n E (fi f E (se f E e))) (ltx 14)) (n := 0) (Nat.lt_trans (le1_eq _ _) (by decide)) (by decide)).mpr h9)
        refine ps_st (S' := (94, [], [.int 0], M)) rfl rfl rfl ?_
        exact ps_ret rfl rfl (⟨congrArg (fun x => some (Value.int (nI x))) (show 0 = hdlN f n E mj d e from by
            unfold hdlN
            first | ((repeat first | rw [if_pos (by omega)] | rw [if_neg (by omega)]) <;> first | rfl | omega) | ((repeat' split) <;> first | rfl | (exfalso; omega) | omega)), rfl⟩)
      · have c_86 : ¬ (¬ (nI (eqN (tX f n E (fi f E (se f E e))) (ltx 14))) = 0) := of_decide_eq_false c_86
        have n_86 : eqN (tX f n E (fi f E (se f E e))) (ltx 14) = 0 := (eq_nI (p := eqN (tX f n E (fi f E (se f E e))) (ltx 14)) (n := 0) (Nat.lt_trans (le1_eq _ _) (by decide)) (by decide)).mp (Decidable.not_not.mp c_86)
        refine ps_st (S' := (90, [(3, .int (nI (tg f E e))), (0, .ref o), (1, .int (nI d)), (2, .int (nI e))], [.int 1], M)) rfl rfl rfl ?_
        refine ps_st (S' := (94, [], [.int 1], M)) rfl rfl rfl ?_
        exact ps_ret rfl rfl (⟨congrArg (fun x => some (Value.int (nI x))) (show 1 = hdlN f n E mj d e from by
            unfold hdlN
            first | ((repeat first | rw [if_pos (by omega)] | rw [if_neg (by omega)]) <;> first | rfl | omega) | ((repeat' split) <;> first | rfl | (exfalso; omega) | omega)), rfl⟩)
  · show pl _ _ _ (95, [(3, .int (nI (tg f E e))), (0, .ref o), (1, .int (nI d)), (2, .int (nI e))], [], M) _
    have m_10 := sw_nat (t := d) (by omega) et_10
    simp at m_10
    refine ps_st (S' := (96, [(3, .int (nI (tg f E e))), (0, .ref o), (1, .int (nI d)), (2, .int (nI e))], [.int (nI (tg f E e))], M)) rfl rfl rfl ?_
    refine ps_st (S' := (98, [(3, .int (nI (tg f E e))), (0, .ref o), (1, .int (nI d)), (2, .int (nI e))], [.int 10, .int (nI (tg f E e))], M)) rfl rfl rfl ?_
    refine ps_if2 (S1 := (116, [(0, .ref o), (2, .int (nI e))], [], M)) (S2 := (101, [(3, .int (nI (tg f E e))), (0, .ref o), (1, .int (nI d)), (2, .int (nI e))], [], M)) rfl rfl rfl (fun c_98 => ?_) (fun c_98 => ?_)
    · have c_98 : (nI (tg f E e)) = 10 := of_decide_eq_true c_98
      have n_98 : tg f E e = 10 := (eq_nI (p := tg f E e) (n := 10) (Nat.lt_trans (tg_lt _ _ _) (by decide)) (by decide)).mp c_98
      refine ps_st (S' := (117, [(0, .ref o), (2, .int (nI e))], [.ref o], M)) rfl rfl rfl ?_
      refine ps_get (S' := (120, [(0, .ref o), (2, .int (nI e))], [.ref q], M)) rfl h_o rfl rfl ?_
      refine ps_st (S' := (121, [(0, .ref o), (2, .int (nI e))], [.int (nI e), .ref q], M)) rfl rfl rfl ?_
      refine pl_call (a := [.ref q, .int (nI e)]) (rest := []) rfl rfl rfl (dy_namesInit (f := f) (n := n) (N := N) (q := q) (E := E) (j := e) (hV) (by omega)) (fun v7 M8 q9 => ?_)
      obtain ⟨rfl, rfl⟩ := q9
      show pl _ _ _ (124, [(0, .ref o), (2, .int (nI e))], [.int (nI (eqN (tX f n E (fi f E (se f E e))) (ltx 14)))], M) _
      refine ps_if (S1 := (131, [], [], M)) (S2 := (127, [(0, .ref o), (2, .int (nI e))], [], M)) rfl rfl rfl (fun c_124 => ?_) (fun c_124 => ?_)
      · have c_124 : ¬ (nI (eqN (tX f n E (fi f E (se f E e))) (ltx 14))) = 0 := of_decide_eq_true c_124
        have n_124 : ¬ (eqN (tX f n E (fi f E (se f E e))) (ltx 14) = 0) := fun h9 => c_124 ((eq_nI (p := eqN (tX f n E (fi f E (se f E e))) (ltx 14)) (n := 0) (Nat.lt_trans (le1_eq _ _) (by decide)) (by decide)).mpr h9)
        refine ps_st (S' := (132, [], [.int 0], M)) rfl rfl rfl ?_
        exact ps_ret rfl rfl (⟨congrArg (fun x => some (Value.int (nI x))) (show 0 = hdlN f n E mj d e from by
            unfold hdlN
            first | ((repeat first | rw [if_pos (by omega)] | rw [if_neg (by omega)]) <;> first | rfl | omega) | ((repeat' split) <;> first | rfl | (exfalso; omega) | omega)), rfl⟩)
      · have c_124 : ¬ (¬ (nI (eqN (tX f n E (fi f E (se f E e))) (ltx 14))) = 0) := of_decide_eq_false c_124
        have n_124 : eqN (tX f n E (fi f E (se f E e))) (ltx 14) = 0 := (eq_nI (p := eqN (tX f n E (fi f E (se f E e))) (ltx 14)) (n := 0) (Nat.lt_trans (le1_eq _ _) (by decide)) (by decide)).mp (Decidable.not_not.mp c_124)
        refine ps_st (S' := (128, [(0, .ref o), (2, .int (nI e))], [.int 1], M)) rfl rfl rfl ?_
        refine ps_st (S' := (132, [], [.int 1], M)) rfl rfl rfl ?_
        exact ps_ret rfl rfl (⟨congrArg (fun x => some (Value.int (nI x))) (show 1 = hdlN f n E mj d e from by
            unfold hdlN
            first | ((repeat first | rw [if_pos (by omega)] | rw [if_neg (by omega)]) <;> first | rfl | omega) | ((repeat' split) <;> first | rfl | (exfalso; omega) | omega)), rfl⟩)
    · have c_98 : ¬ ((nI (tg f E e)) = 10) := of_decide_eq_false c_98
      have n_98 : ¬ (tg f E e = 10) := fun h9 => c_98 ((eq_nI (p := tg f E e) (n := 10) (Nat.lt_trans (tg_lt _ _ _) (by decide)) (by decide)).mpr h9)
      refine ps_st (S' := (102, [(3, .int (nI (tg f E e))), (0, .ref o), (1, .int (nI d)), (2, .int (nI e))], [.int (nI (tg f E e))], M)) rfl rfl rfl ?_
      refine ps_st (S' := (104, [(3, .int (nI (tg f E e))), (0, .ref o), (1, .int (nI d)), (2, .int (nI e))], [.int 11, .int (nI (tg f E e))], M)) rfl rfl rfl ?_
      refine ps_if2 (S1 := (131, [], [], M)) (S2 := (107, [(3, .int (nI (tg f E e))), (0, .ref o), (1, .int (nI d)), (2, .int (nI e))], [], M)) rfl rfl rfl (fun c_104 => ?_) (fun c_104 => ?_)
      · have c_104 : ¬ (nI (tg f E e)) = 11 := of_decide_eq_true c_104
        have n_104 : ¬ (tg f E e = 11) := fun h9 => c_104 ((eq_nI (p := tg f E e) (n := 11) (Nat.lt_trans (tg_lt _ _ _) (by decide)) (by decide)).mpr h9)
        refine ps_st (S' := (132, [], [.int 0], M)) rfl rfl rfl ?_
        exact ps_ret rfl rfl (⟨congrArg (fun x => some (Value.int (nI x))) (show 0 = hdlN f n E mj d e from by
            unfold hdlN
            first | ((repeat first | rw [if_pos (by omega)] | rw [if_neg (by omega)]) <;> first | rfl | omega) | ((repeat' split) <;> first | rfl | (exfalso; omega) | omega)), rfl⟩)
      · have c_104 : ¬ (¬ (nI (tg f E e)) = 11) := of_decide_eq_false c_104
        have n_104 : tg f E e = 11 := (eq_nI (p := tg f E e) (n := 11) (Nat.lt_trans (tg_lt _ _ _) (by decide)) (by decide)).mp (Decidable.not_not.mp c_104)
        refine ps_st (S' := (108, [(3, .int (nI (tg f E e))), (0, .ref o), (1, .int (nI d)), (2, .int (nI e))], [.ref o], M)) rfl rfl rfl ?_
        refine ps_get (S' := (111, [(3, .int (nI (tg f E e))), (0, .ref o), (1, .int (nI d)), (2, .int (nI e))], [.int (nI mj)], M)) rfl h_o rfl rfl ?_
        refine ps_st (S' := (113, [(3, .int (nI (tg f E e))), (0, .ref o), (1, .int (nI d)), (2, .int (nI e))], [.int 52, .int (nI mj)], M)) rfl rfl rfl ?_
        refine ps_if2 (S1 := (131, [], [], M)) (S2 := (116, [(0, .ref o), (2, .int (nI e))], [], M)) rfl rfl rfl (fun c_113 => ?_) (fun c_113 => ?_)
        · have c_113 : (nI mj) < 52 := of_decide_eq_true c_113
          have n_113 : mj < 52 := (lt_nI (p := mj) (n := 52) (by omega) (by decide)).mp c_113
          refine ps_st (S' := (132, [], [.int 0], M)) rfl rfl rfl ?_
          exact ps_ret rfl rfl (⟨congrArg (fun x => some (Value.int (nI x))) (show 0 = hdlN f n E mj d e from by
              unfold hdlN
              first | ((repeat first | rw [if_pos (by omega)] | rw [if_neg (by omega)]) <;> first | rfl | omega) | ((repeat' split) <;> first | rfl | (exfalso; omega) | omega)), rfl⟩)
        · have c_113 : ¬ ((nI mj) < 52) := of_decide_eq_false c_113
          have n_113 : ¬ (mj < 52) := fun h9 => c_113 ((lt_nI (p := mj) (n := 52) (by omega) (by decide)).mpr h9)
          refine ps_st (S' := (117, [(0, .ref o), (2, .int (nI e))], [.ref o], M)) rfl rfl rfl ?_
          refine ps_get (S' := (120, [(0, .ref o), (2, .int (nI e))], [.ref q], M)) rfl h_o rfl rfl ?_
          refine ps_st (S' := (121, [(0, .ref o), (2, .int (nI e))], [.int (nI e), .ref q], M)) rfl rfl rfl ?_
          refine pl_call (a := [.ref q, .int (nI e)]) (rest := []) rfl rfl rfl (dy_namesInit (f := f) (n := n) (N := N) (q := q) (E := E) (j := e) (hV) (by omega)) (fun v10 M11 q12 => ?_)
          obtain ⟨rfl, rfl⟩ := q12
          show pl _ _ _ (124, [(0, .ref o), (2, .int (nI e))], [.int (nI (eqN (tX f n E (fi f E (se f E e))) (ltx 14)))], M) _
          refine ps_if (S1 := (131, [], [], M)) (S2 := (127, [(0, .ref o), (2, .int (nI e))], [], M)) rfl rfl rfl (fun c_124 => ?_) (fun c_124 => ?_)
          · have c_124 : ¬ (nI (eqN (tX f n E (fi f E (se f E e))) (ltx 14))) = 0 := of_decide_eq_true c_124
            have n_124 : ¬ (eqN (tX f n E (fi f E (se f E e))) (ltx 14) = 0) := fun h9 => c_124 ((eq_nI (p := eqN (tX f n E (fi f E (se f E e))) (ltx 14)) (n := 0) (Nat.lt_trans (le1_eq _ _) (by decide)) (by decide)).mpr h9)
            refine ps_st (S' := (132, [], [.int 0], M)) rfl rfl rfl ?_
            exact ps_ret rfl rfl (⟨congrArg (fun x => some (Value.int (nI x))) (show 0 = hdlN f n E mj d e from by
                unfold hdlN
                first | ((repeat first | rw [if_pos (by omega)] | rw [if_neg (by omega)]) <;> first | rfl | omega) | ((repeat' split) <;> first | rfl | (exfalso; omega) | omega)), rfl⟩)
          · have c_124 : ¬ (¬ (nI (eqN (tX f n E (fi f E (se f E e))) (ltx 14))) = 0) := of_decide_eq_false c_124
            have n_124 : eqN (tX f n E (fi f E (se f E e))) (ltx 14) = 0 := (eq_nI (p := eqN (tX f n E (fi f E (se f E e))) (ltx 14)) (n := 0) (Nat.lt_trans (le1_eq _ _) (by decide)) (by decide)).mp (Decidable.not_not.mp c_124)
            refine ps_st (S' := (128, [(0, .ref o), (2, .int (nI e))], [.int 1], M)) rfl rfl rfl ?_
            refine ps_st (S' := (132, [], [.int 1], M)) rfl rfl rfl ?_
            exact ps_ret rfl rfl (⟨congrArg (fun x => some (Value.int (nI x))) (show 1 = hdlN f n E mj d e from by
                unfold hdlN
                first | ((repeat first | rw [if_pos (by omega)] | rw [if_neg (by omega)]) <;> first | rfl | omega) | ((repeat' split) <;> first | rfl | (exfalso; omega) | omega)), rfl⟩)
  · show pl _ _ _ (133, [(3, .int (nI (tg f E e))), (0, .ref o), (1, .int (nI d)), (2, .int (nI e))], [], M) _
    have m_10 := sw_nat (t := d) (by omega) et_10
    simp at m_10
    refine ps_st (S' := (134, [(3, .int (nI (tg f E e))), (0, .ref o), (1, .int (nI d)), (2, .int (nI e))], [.int (nI (tg f E e))], M)) rfl rfl rfl ?_
    refine ps_st (S' := (136, [(3, .int (nI (tg f E e))), (0, .ref o), (1, .int (nI d)), (2, .int (nI e))], [.int 10, .int (nI (tg f E e))], M)) rfl rfl rfl ?_
    refine ps_if2 (S1 := (154, [], [], M)) (S2 := (139, [(3, .int (nI (tg f E e))), (0, .ref o), (1, .int (nI d)), (2, .int (nI e))], [], M)) rfl rfl rfl (fun c_136 => ?_) (fun c_136 => ?_)
    · have c_136 : ¬ (nI (tg f E e)) = 10 := of_decide_eq_true c_136
      have n_136 : ¬ (tg f E e = 10) := fun h9 => c_136 ((eq_nI (p := tg f E e) (n := 10) (Nat.lt_trans (tg_lt _ _ _) (by decide)) (by decide)).mpr h9)
      refine ps_st (S' := (155, [], [.int 0], M)) rfl rfl rfl ?_
      exact ps_ret rfl rfl (⟨congrArg (fun x => some (Value.int (nI x))) (show 0 = hdlN f n E mj d e from by
          unfold hdlN
          first | ((repeat first | rw [if_pos (by omega)] | rw [if_neg (by omega)]) <;> first | rfl | omega) | ((repeat' split) <;> first | rfl | (exfalso; omega) | omega)), rfl⟩)
    · have c_136 : ¬ (¬ (nI (tg f E e)) = 10) := of_decide_eq_false c_136
      have n_136 : tg f E e = 10 := (eq_nI (p := tg f E e) (n := 10) (Nat.lt_trans (tg_lt _ _ _) (by decide)) (by decide)).mp (Decidable.not_not.mp c_136)
      refine ps_st (S' := (140, [(3, .int (nI (tg f E e))), (0, .ref o), (1, .int (nI d)), (2, .int (nI e))], [.ref o], M)) rfl rfl rfl ?_
      refine ps_get (S' := (143, [(3, .int (nI (tg f E e))), (0, .ref o), (1, .int (nI d)), (2, .int (nI e))], [.ref q], M)) rfl h_o rfl rfl ?_
      refine ps_st (S' := (144, [(3, .int (nI (tg f E e))), (0, .ref o), (1, .int (nI d)), (2, .int (nI e))], [.int (nI e), .ref q], M)) rfl rfl rfl ?_
      refine pl_call (a := [.ref q, .int (nI e)]) (rest := []) rfl rfl rfl (dy_namesInit (f := f) (n := n) (N := N) (q := q) (E := E) (j := e) (hV) (by omega)) (fun v13 M14 q15 => ?_)
      obtain ⟨rfl, rfl⟩ := q15
      show pl _ _ _ (147, [(3, .int (nI (tg f E e))), (0, .ref o), (1, .int (nI d)), (2, .int (nI e))], [.int (nI (eqN (tX f n E (fi f E (se f E e))) (ltx 14)))], M) _
      refine ps_if (S1 := (154, [], [], M)) (S2 := (150, [(3, .int (nI (tg f E e))), (0, .ref o), (1, .int (nI d)), (2, .int (nI e))], [], M)) rfl rfl rfl (fun c_147 => ?_) (fun c_147 => ?_)
      · have c_147 : (nI (eqN (tX f n E (fi f E (se f E e))) (ltx 14))) = 0 := of_decide_eq_true c_147
        have n_147 : eqN (tX f n E (fi f E (se f E e))) (ltx 14) = 0 := (eq_nI (p := eqN (tX f n E (fi f E (se f E e))) (ltx 14)) (n := 0) (Nat.lt_trans (le1_eq _ _) (by decide)) (by decide)).mp c_147
        refine ps_st (S' := (155, [], [.int 0], M)) rfl rfl rfl ?_
        exact ps_ret rfl rfl (⟨congrArg (fun x => some (Value.int (nI x))) (show 0 = hdlN f n E mj d e from by
            unfold hdlN
            first | ((repeat first | rw [if_pos (by omega)] | rw [if_neg (by omega)]) <;> first | rfl | omega) | ((repeat' split) <;> first | rfl | (exfalso; omega) | omega)), rfl⟩)
      · have c_147 : ¬ ((nI (eqN (tX f n E (fi f E (se f E e))) (ltx 14))) = 0) := of_decide_eq_false c_147
        have n_147 : ¬ (eqN (tX f n E (fi f E (se f E e))) (ltx 14) = 0) := fun h9 => c_147 ((eq_nI (p := eqN (tX f n E (fi f E (se f E e))) (ltx 14)) (n := 0) (Nat.lt_trans (le1_eq _ _) (by decide)) (by decide)).mpr h9)
        refine ps_st (S' := (151, [(3, .int (nI (tg f E e))), (0, .ref o), (1, .int (nI d)), (2, .int (nI e))], [.int 1], M)) rfl rfl rfl ?_
        refine ps_st (S' := (155, [], [.int 1], M)) rfl rfl rfl ?_
        exact ps_ret rfl rfl (⟨congrArg (fun x => some (Value.int (nI x))) (show 1 = hdlN f n E mj d e from by
            unfold hdlN
            first | ((repeat first | rw [if_pos (by omega)] | rw [if_neg (by omega)]) <;> first | rfl | omega) | ((repeat' split) <;> first | rfl | (exfalso; omega) | omega)), rfl⟩)
  · show pl _ _ _ (156, [(3, .int (nI (tg f E e))), (0, .ref o), (1, .int (nI d)), (2, .int (nI e))], [], M) _
    have m_10 := sw_nat (t := d) (by omega) et_10
    simp at m_10
    refine ps_st (S' := (157, [(3, .int (nI (tg f E e))), (0, .ref o), (1, .int (nI d)), (2, .int (nI e))], [.int (nI (tg f E e))], M)) rfl rfl rfl ?_
    refine ps_st (S' := (159, [(3, .int (nI (tg f E e))), (0, .ref o), (1, .int (nI d)), (2, .int (nI e))], [.int 11, .int (nI (tg f E e))], M)) rfl rfl rfl ?_
    refine ps_if2 (S1 := (177, [], [], M)) (S2 := (162, [(3, .int (nI (tg f E e))), (0, .ref o), (1, .int (nI d)), (2, .int (nI e))], [], M)) rfl rfl rfl (fun c_159 => ?_) (fun c_159 => ?_)
    · have c_159 : ¬ (nI (tg f E e)) = 11 := of_decide_eq_true c_159
      have n_159 : ¬ (tg f E e = 11) := fun h9 => c_159 ((eq_nI (p := tg f E e) (n := 11) (Nat.lt_trans (tg_lt _ _ _) (by decide)) (by decide)).mpr h9)
      refine ps_st (S' := (178, [], [.int 0], M)) rfl rfl rfl ?_
      exact ps_ret rfl rfl (⟨congrArg (fun x => some (Value.int (nI x))) (show 0 = hdlN f n E mj d e from by
          unfold hdlN
          first | ((repeat first | rw [if_pos (by omega)] | rw [if_neg (by omega)]) <;> first | rfl | omega) | ((repeat' split) <;> first | rfl | (exfalso; omega) | omega)), rfl⟩)
    · have c_159 : ¬ (¬ (nI (tg f E e)) = 11) := of_decide_eq_false c_159
      have n_159 : tg f E e = 11 := (eq_nI (p := tg f E e) (n := 11) (Nat.lt_trans (tg_lt _ _ _) (by decide)) (by decide)).mp (Decidable.not_not.mp c_159)
      refine ps_st (S' := (163, [(3, .int (nI (tg f E e))), (0, .ref o), (1, .int (nI d)), (2, .int (nI e))], [.ref o], M)) rfl rfl rfl ?_
      refine ps_get (S' := (166, [(3, .int (nI (tg f E e))), (0, .ref o), (1, .int (nI d)), (2, .int (nI e))], [.ref q], M)) rfl h_o rfl rfl ?_
      refine ps_st (S' := (167, [(3, .int (nI (tg f E e))), (0, .ref o), (1, .int (nI d)), (2, .int (nI e))], [.int (nI e), .ref q], M)) rfl rfl rfl ?_
      refine pl_call (a := [.ref q, .int (nI e)]) (rest := []) rfl rfl rfl (dy_namesInit (f := f) (n := n) (N := N) (q := q) (E := E) (j := e) (hV) (by omega)) (fun v16 M17 q18 => ?_)
      obtain ⟨rfl, rfl⟩ := q18
      show pl _ _ _ (170, [(3, .int (nI (tg f E e))), (0, .ref o), (1, .int (nI d)), (2, .int (nI e))], [.int (nI (eqN (tX f n E (fi f E (se f E e))) (ltx 14)))], M) _
      refine ps_if (S1 := (177, [], [], M)) (S2 := (173, [(3, .int (nI (tg f E e))), (0, .ref o), (1, .int (nI d)), (2, .int (nI e))], [], M)) rfl rfl rfl (fun c_170 => ?_) (fun c_170 => ?_)
      · have c_170 : ¬ (nI (eqN (tX f n E (fi f E (se f E e))) (ltx 14))) = 0 := of_decide_eq_true c_170
        have n_170 : ¬ (eqN (tX f n E (fi f E (se f E e))) (ltx 14) = 0) := fun h9 => c_170 ((eq_nI (p := eqN (tX f n E (fi f E (se f E e))) (ltx 14)) (n := 0) (Nat.lt_trans (le1_eq _ _) (by decide)) (by decide)).mpr h9)
        refine ps_st (S' := (178, [], [.int 0], M)) rfl rfl rfl ?_
        exact ps_ret rfl rfl (⟨congrArg (fun x => some (Value.int (nI x))) (show 0 = hdlN f n E mj d e from by
            unfold hdlN
            first | ((repeat first | rw [if_pos (by omega)] | rw [if_neg (by omega)]) <;> first | rfl | omega) | ((repeat' split) <;> first | rfl | (exfalso; omega) | omega)), rfl⟩)
      · have c_170 : ¬ (¬ (nI (eqN (tX f n E (fi f E (se f E e))) (ltx 14))) = 0) := of_decide_eq_false c_170
        have n_170 : eqN (tX f n E (fi f E (se f E e))) (ltx 14) = 0 := (eq_nI (p := eqN (tX f n E (fi f E (se f E e))) (ltx 14)) (n := 0) (Nat.lt_trans (le1_eq _ _) (by decide)) (by decide)).mp (Decidable.not_not.mp c_170)
        refine ps_st (S' := (174, [(3, .int (nI (tg f E e))), (0, .ref o), (1, .int (nI d)), (2, .int (nI e))], [.int 1], M)) rfl rfl rfl ?_
        refine ps_st (S' := (178, [], [.int 1], M)) rfl rfl rfl ?_
        exact ps_ret rfl rfl (⟨congrArg (fun x => some (Value.int (nI x))) (show 1 = hdlN f n E mj d e from by
            unfold hdlN
            first | ((repeat first | rw [if_pos (by omega)] | rw [if_neg (by omega)]) <;> first | rfl | omega) | ((repeat' split) <;> first | rfl | (exfalso; omega) | omega)), rfl⟩)
  · show pl _ _ _ (179, [(3, .int (nI (tg f E e))), (0, .ref o), (1, .int (nI d)), (2, .int (nI e))], [], M) _
    have m_10 := sw_nat (t := d) (by omega) et_10
    simp at m_10
    refine ps_st (S' := (180, [(3, .int (nI (tg f E e))), (0, .ref o), (1, .int (nI d)), (2, .int (nI e))], [.int 0], M)) rfl rfl rfl ?_
    exact ps_ret rfl rfl (⟨congrArg (fun x => some (Value.int (nI x))) (show 0 = hdlN f n E mj d e from by
        unfold hdlN
        first | ((repeat first | rw [if_pos (by omega)] | rw [if_neg (by omega)]) <;> first | rfl | omega) | ((repeat' split) <;> first | rfl | (exfalso; omega) | omega)), rfl⟩)
set_option maxHeartbeats 1000000 in
theorem dk_brokenRule {g : xe_G} {M : mi_H} {f : Nat → Int32} {n N q : Nat} {E : List (Nat × Nat)} {o vd mj : Nat} {k : Nat} (h_o : M.1 o = some (ob 8 [.ref q, .int (nI mj), .ref vd])) (hV : PV g f n N E q M) (hmj : mj < 65536) (hk : k < 65536) : pt (mT g) 145 [.ref o, .int (nI k)] M (fun v M' => (v = some (.int (nI (brkN f n E mj k))) ∧ M = M')) := by
  refine pt_in (b := mb_145 g) rfl (fun kf => ?_)
  show pl (mT g) kf (mb_145 g).2 (0, [(0, .ref o), (1, .int (nI k))], [], M) _
  refine ps_st (S' := (1, [(0, .ref o), (1, .int (nI k))], [.ref o], M)) rfl rfl rfl ?_
  refine ps_get (S' := (4, [(0, .ref o), (1, .int (nI k))], [.ref q], M)) rfl h_o rfl rfl ?_
  refine ps_st (S' := (5, [(0, .ref o), (1, .int (nI k))], [.int (nI k), .ref q], M)) rfl rfl rfl ?_
  refine pl_call (a := [.ref q, .int (nI k)]) (rest := []) rfl rfl rfl (dy_tagOf (f := f) (n := n) (N := N) (q := q) (E := E) (j := k) (hV) (by omega)) (fun v1 M2 q3 => ?_)
  obtain ⟨rfl, rfl⟩ := q3
  show pl _ _ _ (8, [(0, .ref o), (1, .int (nI k))], [.int (nI (tg f E k))], M) _
  refine pl_sw rfl (fun t_8 et_8 => ?_)
  have ht_8 : t_8 ∈ [72, 97, 112, 137, 152, 182, 207, 250, 293] := mi_sw_sub et_8 (by decide)
  simp only [List.mem_cons, List.not_mem_nil, or_false] at ht_8
  rcases ht_8 with rfl | rfl | rfl | rfl | rfl | rfl | rfl | rfl | rfl
  · show pl _ _ _ (72, [(0, .ref o), (1, .int (nI k))], [], M) _
    have m_8 := sw_nat (t := tg f E k) (Nat.lt_trans (tg_lt _ _ _) (by decide)) et_8
    simp at m_8
    refine ps_st (S' := (73, [(0, .ref o), (1, .int (nI k))], [.ref o], M)) rfl rfl rfl ?_
    refine ps_get (S' := (76, [(0, .ref o), (1, .int (nI k))], [.ref q], M)) rfl h_o rfl rfl ?_
    refine ps_st (S' := (77, [(0, .ref o), (1, .int (nI k))], [.ref o, .ref q], M)) rfl rfl rfl ?_
    refine ps_get (S' := (80, [(0, .ref o), (1, .int (nI k))], [.ref q, .ref q], M)) rfl h_o rfl rfl ?_
    refine ps_st (S' := (81, [(0, .ref o), (1, .int (nI k))], [.int (nI k), .ref q, .ref q], M)) rfl rfl rfl ?_
    refine pl_call (a := [.ref q, .int (nI k)]) (rest := [.ref q]) rfl rfl rfl (dy_firstIndex (f := f) (n := n) (N := N) (q := q) (E := E) (j := k) (hV) (by omega)) (fun v4 M5 q6 => ?_)
    obtain ⟨rfl, rfl⟩ := q6
    show pl _ _ _ (84, [(0, .ref o), (1, .int (nI k))], [.int (nI (fi f E k)), .ref q], M) _
    refine pl_call (a := [.ref q, .int (nI (fi f E k))]) (rest := []) rfl rfl rfl (dy_isClassText (f := f) (n := n) (N := N) (q := q) (E := E) (j := (fi f E k)) (hV) (fi_lt _ _ _)) (fun v7 M8 q9 => ?_)
    obtain ⟨rfl, rfl⟩ := q9
    show pl _ _ _ (87, [(0, .ref o), (1, .int (nI k))], [.int (nI (clsN (tX f n E (fi f E k))))], M) _
    refine ps_if (S1 := (94, [(0, .ref o), (1, .int (nI k))], [], M)) (S2 := (90, [(0, .ref o), (1, .int (nI k))], [], M)) rfl rfl rfl (fun c_87 => ?_) (fun c_87 => ?_)
    · have c_87 : (nI (clsN (tX f n E (fi f E k)))) = 0 := of_decide_eq_true c_87
      have n_87 : clsN (tX f n E (fi f E k)) = 0 := (eq_nI (p := clsN (tX f n E (fi f E k))) (n := 0) (Nat.lt_trans (le1_cls _) (by decide)) (by decide)).mp c_87
      refine ps_st (S' := (96, [], [.int 10], M)) rfl rfl rfl ?_
      exact ps_ret rfl rfl (⟨congrArg (fun x => some (Value.int (nI x))) (show 10 = brkN f n E mj k from by
          unfold brkN
          first | ((repeat first | rw [if_pos (by omega)] | rw [if_neg (by omega)]) <;> first | rfl | omega) | ((repeat' split) <;> first | rfl | (exfalso; omega) | omega)), rfl⟩)
    · have c_87 : ¬ ((nI (clsN (tX f n E (fi f E k)))) = 0) := of_decide_eq_false c_87
      have n_87 : ¬ (clsN (tX f n E (fi f E k)) = 0) := fun h9 => c_87 ((eq_nI (p := clsN (tX f n E (fi f E k))) (n := 0) (Nat.lt_trans (le1_cls _) (by decide)) (by decide)).mpr h9)
      refine ps_st (S' := (91, [(0, .ref o), (1, .int (nI k))], [.int 0], M)) rfl rfl rfl ?_
      refine ps_st (S' := (96, [], [.int 0], M)) rfl rfl rfl ?_
      exact ps_ret rfl rfl (⟨congrArg (fun x => some (Value.int (nI x))) (show 0 = brkN f n E mj k from by
          unfold brkN
          first | ((repeat first | rw [if_pos (by omega)] | rw [if_neg (by omega)]) <;> first | rfl | omega) | ((repeat' split) <;> first | rfl | (exfalso; omega) | omega)), rfl⟩)
  · show pl _ _ _ (97, [(0, .ref o), (1, .int (nI k))], [], M) _
    have m_8 := sw_nat (t := tg f E k) (Nat.lt_trans (tg_lt _ _ _) (by decide)) et_8
    simp at m_8
    refine ps_st (S' := (98, [(0, .ref o), (1, .int (nI k))], [.ref o], M)) rfl rfl rfl ?_
    refine ps_st (S' := (99, [(0, .ref o), (1, .int (nI k))], [.int (nI k), .ref o], M)) rfl rfl rfl ?_
    refine pl_call (a := [.ref o, .int (nI k)]) (rest := []) rfl rfl rfl (dk_isNameWithType (f := f) (n := n) (N := N) (q := q) (E := E) (o := o) (vd := vd) (mj := mj) (k := k) h_o (hV) (hmj) (by omega)) (fun v10 M11 q12 => ?_)
    obtain ⟨rfl, rfl⟩ := q12
    show pl _ _ _ (102, [(0, .ref o), (1, .int (nI k))], [.int (nI (nwtN f n E k))], M) _
    refine ps_if (S1 := (109, [(0, .ref o), (1, .int (nI k))], [], M)) (S2 := (105, [(0, .ref o), (1, .int (nI k))], [], M)) rfl rfl rfl (fun c_102 => ?_) (fun c_102 => ?_)
    · have c_102 : (nI (nwtN f n E k)) = 0 := of_decide_eq_true c_102
      have n_102 : nwtN f n E k = 0 := (eq_nI (p := nwtN f n E k) (n := 0) (Nat.lt_trans (le1_nwt _ _ _ _) (by decide)) (by decide)).mp c_102
      refine ps_st (S' := (111, [], [.int 11], M)) rfl rfl rfl ?_
      exact ps_ret rfl rfl (⟨congrArg (fun x => some (Value.int (nI x))) (show 11 = brkN f n E mj k from by
          unfold brkN
          first | ((repeat first | rw [if_pos (by omega)] | rw [if_neg (by omega)]) <;> first | rfl | omega) | ((repeat' split) <;> first | rfl | (exfalso; omega) | omega)), rfl⟩)
    · have c_102 : ¬ ((nI (nwtN f n E k)) = 0) := of_decide_eq_false c_102
      have n_102 : ¬ (nwtN f n E k = 0) := fun h9 => c_102 ((eq_nI (p := nwtN f n E k) (n := 0) (Nat.lt_trans (le1_nwt _ _ _ _) (by decide)) (by decide)).mpr h9)
      refine ps_st (S' := (106, [(0, .ref o), (1, .int (nI k))], [.int 0], M)) rfl rfl rfl ?_
      refine ps_st (S' := (111, [], [.int 0], M)) rfl rfl rfl ?_
      exact ps_ret rfl rfl (⟨congrArg (fun x => some (Value.int (nI x))) (show 0 = brkN f n E mj k from by
          unfold brkN
          first | ((repeat first | rw [if_pos (by omega)] | rw [if_neg (by omega)]) <;> first | rfl | omega) | ((repeat' split) <;> first | rfl | (exfalso; omega) | omega)), rfl⟩)
  · show pl _ _ _ (112, [(0, .ref o), (1, .int (nI k))], [], M) _
    have m_8 := sw_nat (t := tg f E k) (Nat.lt_trans (tg_lt _ _ _) (by decide)) et_8
    simp at m_8
    refine ps_st (S' := (113, [(0, .ref o), (1, .int (nI k))], [.ref o], M)) rfl rfl rfl ?_
    refine ps_get (S' := (116, [(0, .ref o), (1, .int (nI k))], [.ref q], M)) rfl h_o rfl rfl ?_
    refine ps_st (S' := (117, [(0, .ref o), (1, .int (nI k))], [.ref o, .ref q], M)) rfl rfl rfl ?_
    refine ps_get (S' := (120, [(0, .ref o), (1, .int (nI k))], [.ref q, .ref q], M)) rfl h_o rfl rfl ?_
    refine ps_st (S' := (121, [(0, .ref o), (1, .int (nI k))], [.int (nI k), .ref q, .ref q], M)) rfl rfl rfl ?_
    refine pl_call (a := [.ref q, .int (nI k)]) (rest := [.ref q]) rfl rfl rfl (dy_descriptorOf (f := f) (n := n) (N := N) (q := q) (E := E) (j := k) (hV) (by omega)) (fun v13 M14 q15 => ?_)
    obtain ⟨rfl, rfl⟩ := q15
    show pl _ _ _ (124, [(0, .ref o), (1, .int (nI k))], [.int (nI (se f E (se f E k))), .ref q], M) _
    refine pl_call (a := [.ref q, .int (nI (se f E (se f E k)))]) (rest := []) rfl rfl rfl (dy_isFieldDescriptor (f := f) (n := n) (N := N) (q := q) (E := E) (j := (se f E (se f E k))) (hV) (se_lt _ _ _)) (fun v16 M17 q18 => ?_)
    obtain ⟨rfl, rfl⟩ := q18
    show pl _ _ _ (127, [(0, .ref o), (1, .int (nI k))], [.int (nI (fldN (tX f n E (se f E (se f E k)))))], M) _
    refine ps_if (S1 := (134, [(0, .ref o), (1, .int (nI k))], [], M)) (S2 := (130, [(0, .ref o), (1, .int (nI k))], [], M)) rfl rfl rfl (fun c_127 => ?_) (fun c_127 => ?_)
    · have c_127 : (nI (fldN (tX f n E (se f E (se f E k))))) = 0 := of_decide_eq_true c_127
      have n_127 : fldN (tX f n E (se f E (se f E k))) = 0 := (eq_nI (p := fldN (tX f n E (se f E (se f E k)))) (n := 0) (Nat.lt_trans (le1_fld _) (by decide)) (by decide)).mp c_127
      refine ps_st (S' := (136, [], [.int 12], M)) rfl rfl rfl ?_
      exact ps_ret rfl rfl (⟨congrArg (fun x => some (Value.int (nI x))) (show 12 = brkN f n E mj k from by
          unfold brkN
          first | ((repeat first | rw [if_pos (by omega)] | rw [if_neg (by omega)]) <;> first | rfl | omega) | ((repeat' split) <;> first | rfl | (exfalso; omega) | omega)), rfl⟩)
    · have c_127 : ¬ ((nI (fldN (tX f n E (se f E (se f E k))))) = 0) := of_decide_eq_false c_127
      have n_127 : ¬ (fldN (tX f n E (se f E (se f E k))) = 0) := fun h9 => c_127 ((eq_nI (p := fldN (tX f n E (se f E (se f E k)))) (n := 0) (Nat.lt_trans (le1_fld _) (by decide)) (by decide)).mpr h9)
      refine ps_st (S' := (131, [(0, .ref o), (1, .int (nI k))], [.int 0], M)) rfl rfl rfl ?_
      refine ps_st (S' := (136, [], [.int 0], M)) rfl rfl rfl ?_
      exact ps_ret rfl rfl (⟨congrArg (fun x => some (Value.int (nI x))) (show 0 = brkN f n E mj k from by
          unfold brkN
          first | ((repeat first | rw [if_pos (by omega)] | rw [if_neg (by omega)]) <;> first | rfl | omega) | ((repeat' split) <;> first | rfl | (exfalso; omega) | omega)), rfl⟩)
  · show pl _ _ _ (137, [(0, .ref o), (1, .int (nI k))], [], M) _
    have m_8 := sw_nat (t := tg f E k) (Nat.lt_trans (tg_lt _ _ _) (by decide)) et_8
    simp at m_8
    refine ps_st (S' := (138, [(0, .ref o), (1, .int (nI k))], [.ref o], M)) rfl rfl rfl ?_
    refine ps_st (S' := (139, [(0, .ref o), (1, .int (nI k))], [.int (nI k), .ref o], M)) rfl rfl rfl ?_
    refine pl_call (a := [.ref o, .int (nI k)]) (rest := []) rfl rfl rfl (dk_isMethodRef (f := f) (n := n) (N := N) (q := q) (E := E) (o := o) (vd := vd) (mj := mj) (k := k) h_o (hV) (hmj) (by omega)) (fun v19 M20 q21 => ?_)
    obtain ⟨rfl, rfl⟩ := q21
    show pl _ _ _ (142, [(0, .ref o), (1, .int (nI k))], [.int (nI (mrfN f n E k))], M) _
    refine ps_if (S1 := (149, [(0, .ref o), (1, .int (nI k))], [], M)) (S2 := (145, [(0, .ref o), (1, .int (nI k))], [], M)) rfl rfl rfl (fun c_142 => ?_) (fun c_142 => ?_)
    · have c_142 : (nI (mrfN f n E k)) = 0 := of_decide_eq_true c_142
      have n_142 : mrfN f n E k = 0 := (eq_nI (p := mrfN f n E k) (n := 0) (Nat.lt_trans (le1_mrf _ _ _ _) (by decide)) (by decide)).mp c_142
      refine ps_st (S' := (151, [], [.int 12], M)) rfl rfl rfl ?_
      exact ps_ret rfl rfl (⟨congrArg (fun x => some (Value.int (nI x))) (show 12 = brkN f n E mj k from by
          unfold brkN
          first | ((repeat first | rw [if_pos (by omega)] | rw [if_neg (by omega)]) <;> first | rfl | omega) | ((repeat' split) <;> first | rfl | (exfalso; omega) | omega)), rfl⟩)
    · have c_142 : ¬ ((nI (mrfN f n E k)) = 0) := of_decide_eq_false c_142
      have n_142 : ¬ (mrfN f n E k = 0) := fun h9 => c_142 ((eq_nI (p := mrfN f n E k) (n := 0) (Nat.lt_trans (le1_mrf _ _ _ _) (by decide)) (by decide)).mpr h9)
      refine ps_st (S' := (146, [(0, .ref o), (1, .int (nI k))], [.int 0], M)) rfl rfl rfl ?_
      refine ps_st (S' := (151, [], [.int 0], M)) rfl rfl rfl ?_
      exact ps_ret rfl rfl (⟨congrArg (fun x => some (Value.int (nI x))) (show 0 = brkN f n E mj k from by
          unfold brkN
          first | ((repeat first | rw [if_pos (by omega)] | rw [if_neg (by omega)]) <;> first | rfl | omega) | ((repeat' split) <;> first | rfl | (exfalso; omega) | omega)), rfl⟩)
  · show pl _ _ _ (152, [(0, .ref o), (1, .int (nI k))], [], M) _
    have m_8 := sw_nat (t := tg f E k) (Nat.lt_trans (tg_lt _ _ _) (by decide)) et_8
    simp at m_8
    refine ps_st (S' := (153, [(0, .ref o), (1, .int (nI k))], [.ref o], M)) rfl rfl rfl ?_
    refine ps_st (S' := (154, [(0, .ref o), (1, .int (nI k))], [.ref o, .ref o], M)) rfl rfl rfl ?_
    refine ps_get (S' := (157, [(0, .ref o), (1, .int (nI k))], [.ref q, .ref o], M)) rfl h_o rfl rfl ?_
    refine ps_st (S' := (158, [(0, .ref o), (1, .int (nI k))], [.int (nI k), .ref q, .ref o], M)) rfl rfl rfl ?_
    refine pl_call (a := [.ref q, .int (nI k)]) (rest := [.ref o]) rfl rfl rfl (dy_firstIndex (f := f) (n := n) (N := N) (q := q) (E := E) (j := k) (hV) (by omega)) (fun v22 M23 q24 => ?_)
    obtain ⟨rfl, rfl⟩ := q24
    show pl _ _ _ (161, [(0, .ref o), (1, .int (nI k))], [.int (nI (fi f E k)), .ref o], M) _
    refine ps_st (S' := (162, [(0, .ref o), (1, .int (nI k))], [.ref o, .int (nI (fi f E k)), .ref o], M)) rfl rfl rfl ?_
    refine ps_get (S' := (165, [(0, .ref o), (1, .int (nI k))], [.ref q, .int (nI (fi f E k)), .ref o], M)) rfl h_o rfl rfl ?_
    refine ps_st (S' := (166, [(0, .ref o), (1, .int (nI k))], [.int (nI k), .ref q, .int (nI (fi f E k)), .ref o], M)) rfl rfl rfl ?_
    refine pl_call (a := [.ref q, .int (nI k)]) (rest := [.int (nI (fi f E k)), .ref o]) rfl rfl rfl (dy_secondIndex (f := f) (n := n) (N := N) (q := q) (E := E) (j := k) (hV) (by omega)) (fun v25 M26 q27 => ?_)
    obtain ⟨rfl, rfl⟩ := q27
    show pl _ _ _ (169, [(0, .ref o), (1, .int (nI k))], [.int (nI (se f E k)), .int (nI (fi f E k)), .ref o], M) _
    refine pl_call (a := [.ref o, .int (nI (fi f E k)), .int (nI (se f E k))]) (rest := []) rfl rfl rfl (dk_isHandle (f := f) (n := n) (N := N) (q := q) (E := E) (o := o) (vd := vd) (mj := mj) (d := (fi f E k)) (e := (se f E k)) h_o (hV) (hmj) (fi_lt _ _ _) (se_lt _ _ _)) (fun v28 M29 q30 => ?_)
    obtain ⟨rfl, rfl⟩ := q30
    show pl _ _ _ (172, [(0, .ref o), (1, .int (nI k))], [.int (nI (hdlN f n E mj (fi f E k) (se f E k)))], M) _
    refine ps_if (S1 := (179, [(0, .ref o), (1, .int (nI k))], [], M)) (S2 := (175, [(0, .ref o), (1, .int (nI k))], [], M)) rfl rfl rfl (fun c_172 => ?_) (fun c_172 => ?_)
    · have c_172 : (nI (hdlN f n E mj (fi f E k) (se f E k))) = 0 := of_decide_eq_true c_172
      have n_172 : hdlN f n E mj (fi f E k) (se f E k) = 0 := (eq_nI (p := hdlN f n E mj (fi f E k) (se f E k)) (n := 0) (Nat.lt_trans (le1_hdl _ _ _ _ _ _) (by decide)) (by decide)).mp c_172
      refine ps_st (S' := (181, [], [.int 13], M)) rfl rfl rfl ?_
      exact ps_ret rfl rfl (⟨congrArg (fun x => some (Value.int (nI x))) (show 13 = brkN f n E mj k from by
          unfold brkN
          first | ((repeat first | rw [if_pos (by omega)] | rw [if_neg (by omega)]) <;> first | rfl | omega) | ((repeat' split) <;> first | rfl | (exfalso; omega) | omega)), rfl⟩)
    · have c_172 : ¬ ((nI (hdlN f n E mj (fi f E k) (se f E k))) = 0) := of_decide_eq_false c_172
      have n_172 : ¬ (hdlN f n E mj (fi f E k) (se f E k) = 0) := fun h9 => c_172 ((eq_nI (p := hdlN f n E mj (fi f E k) (se f E k)) (n := 0) (Nat.lt_trans (le1_hdl _ _ _ _ _ _) (by decide)) (by decide)).mpr h9)
      refine ps_st (S' := (176, [(0, .ref o), (1, .int (nI k))], [.int 0], M)) rfl rfl rfl ?_
      refine ps_st (S' := (181, [], [.int 0], M)) rfl rfl rfl ?_
      exact ps_ret rfl rfl (⟨congrArg (fun x => some (Value.int (nI x))) (show 0 = brkN f n E mj k from by
          unfold brkN
          first | ((repeat first | rw [if_pos (by omega)] | rw [if_neg (by omega)]) <;> first | rfl | omega) | ((repeat' split) <;> first | rfl | (exfalso; omega) | omega)), rfl⟩)
  · show pl _ _ _ (182, [(0, .ref o), (1, .int (nI k))], [], M) _
    have m_8 := sw_nat (t := tg f E k) (Nat.lt_trans (tg_lt _ _ _) (by decide)) et_8
    simp at m_8
    refine ps_st (S' := (183, [(0, .ref o), (1, .int (nI k))], [.ref o], M)) rfl rfl rfl ?_
    refine ps_get (S' := (186, [(0, .ref o), (1, .int (nI k))], [.ref q], M)) rfl h_o rfl rfl ?_
    refine ps_st (S' := (187, [(0, .ref o), (1, .int (nI k))], [.ref o, .ref q], M)) rfl rfl rfl ?_
    refine ps_get (S' := (190, [(0, .ref o), (1, .int (nI k))], [.ref q, .ref q], M)) rfl h_o rfl rfl ?_
    refine ps_st (S' := (191, [(0, .ref o), (1, .int (nI k))], [.int (nI k), .ref q, .ref q], M)) rfl rfl rfl ?_
    refine pl_call (a := [.ref q, .int (nI k)]) (rest := [.ref q]) rfl rfl rfl (dy_firstIndex (f := f) (n := n) (N := N) (q := q) (E := E) (j := k) (hV) (by omega)) (fun v31 M32 q33 => ?_)
    obtain ⟨rfl, rfl⟩ := q33
    show pl _ _ _ (194, [(0, .ref o), (1, .int (nI k))], [.int (nI (fi f E k)), .ref q], M) _
    refine pl_call (a := [.ref q, .int (nI (fi f E k))]) (rest := []) rfl rfl rfl (dy_isMethodDescriptor (f := f) (n := n) (N := N) (q := q) (E := E) (j := (fi f E k)) (hV) (fi_lt _ _ _)) (fun v34 M35 q36 => ?_)
    obtain ⟨rfl, rfl⟩ := q36
    show pl _ _ _ (197, [(0, .ref o), (1, .int (nI k))], [.int (nI (mthN (tX f n E (fi f E k))))], M) _
    refine ps_if (S1 := (204, [(0, .ref o), (1, .int (nI k))], [], M)) (S2 := (200, [(0, .ref o), (1, .int (nI k))], [], M)) rfl rfl rfl (fun c_197 => ?_) (fun c_197 => ?_)
    · have c_197 : (nI (mthN (tX f n E (fi f E k)))) = 0 := of_decide_eq_true c_197
      have n_197 : mthN (tX f n E (fi f E k)) = 0 := (eq_nI (p := mthN (tX f n E (fi f E k))) (n := 0) (Nat.lt_trans (le1_mth _) (by decide)) (by decide)).mp c_197
      refine ps_st (S' := (206, [], [.int 14], M)) rfl rfl rfl ?_
      exact ps_ret rfl rfl (⟨congrArg (fun x => some (Value.int (nI x))) (show 14 = brkN f n E mj k from by
          unfold brkN
          first | ((repeat first | rw [if_pos (by omega)] | rw [if_neg (by omega)]) <;> first | rfl | omega) | ((repeat' split) <;> first | rfl | (exfalso; omega) | omega)), rfl⟩)
    · have c_197 : ¬ ((nI (mthN (tX f n E (fi f E k)))) = 0) := of_decide_eq_false c_197
      have n_197 : ¬ (mthN (tX f n E (fi f E k)) = 0) := fun h9 => c_197 ((eq_nI (p := mthN (tX f n E (fi f E k))) (n := 0) (Nat.lt_trans (le1_mth _) (by decide)) (by decide)).mpr h9)
      refine ps_st (S' := (201, [(0, .ref o), (1, .int (nI k))], [.int 0], M)) rfl rfl rfl ?_
      refine ps_st (S' := (206, [], [.int 0], M)) rfl rfl rfl ?_
      exact ps_ret rfl rfl (⟨congrArg (fun x => some (Value.int (nI x))) (show 0 = brkN f n E mj k from by
          unfold brkN
          first | ((repeat first | rw [if_pos (by omega)] | rw [if_neg (by omega)]) <;> first | rfl | omega) | ((repeat' split) <;> first | rfl | (exfalso; omega) | omega)), rfl⟩)
  · show pl _ _ _ (207, [(0, .ref o), (1, .int (nI k))], [], M) _
    have m_8 := sw_nat (t := tg f E k) (Nat.lt_trans (tg_lt _ _ _) (by decide)) et_8
    simp at m_8
    refine ps_st (S' := (208, [(0, .ref o), (1, .int (nI k))], [.ref o], M)) rfl rfl rfl ?_
    refine ps_get (S' := (211, [(0, .ref o), (1, .int (nI k))], [.ref q], M)) rfl h_o rfl rfl ?_
    refine ps_st (S' := (212, [(0, .ref o), (1, .int (nI k))], [.ref o, .ref q], M)) rfl rfl rfl ?_
    refine ps_get (S' := (215, [(0, .ref o), (1, .int (nI k))], [.ref q, .ref q], M)) rfl h_o rfl rfl ?_
    refine ps_st (S' := (216, [(0, .ref o), (1, .int (nI k))], [.int (nI k), .ref q, .ref q], M)) rfl rfl rfl ?_
    refine pl_call (a := [.ref q, .int (nI k)]) (rest := [.ref q]) rfl rfl rfl (dy_descriptorOf (f := f) (n := n) (N := N) (q := q) (E := E) (j := k) (hV) (by omega)) (fun v37 M38 q39 => ?_)
    obtain ⟨rfl, rfl⟩ := q39
    show pl _ _ _ (219, [(0, .ref o), (1, .int (nI k))], [.int (nI (se f E (se f E k))), .ref q], M) _
    refine pl_call (a := [.ref q, .int (nI (se f E (se f E k)))]) (rest := []) rfl rfl rfl (dy_isFieldDescriptor (f := f) (n := n) (N := N) (q := q) (E := E) (j := (se f E (se f E k))) (hV) (se_lt _ _ _)) (fun v40 M41 q42 => ?_)
    obtain ⟨rfl, rfl⟩ := q42
    show pl _ _ _ (222, [(0, .ref o), (1, .int (nI k))], [.int (nI (fldN (tX f n E (se f E (se f E k)))))], M) _
    refine ps_if (S1 := (247, [], [], M)) (S2 := (225, [(0, .ref o), (1, .int (nI k))], [], M)) rfl rfl rfl (fun c_222 => ?_) (fun c_222 => ?_)
    · have c_222 : (nI (fldN (tX f n E (se f E (se f E k))))) = 0 := of_decide_eq_true c_222
      have n_222 : fldN (tX f n E (se f E (se f E k))) = 0 := (eq_nI (p := fldN (tX f n E (se f E (se f E k)))) (n := 0) (Nat.lt_trans (le1_fld _) (by decide)) (by decide)).mp c_222
      refine ps_st (S' := (249, [], [.int 14], M)) rfl rfl rfl ?_
      exact ps_ret rfl rfl (⟨congrArg (fun x => some (Value.int (nI x))) (show 14 = brkN f n E mj k from by
          unfold brkN
          first | ((repeat first | rw [if_pos (by omega)] | rw [if_neg (by omega)]) <;> first | rfl | omega) | ((repeat' split) <;> first | rfl | (exfalso; omega) | omega)), rfl⟩)
    · have c_222 : ¬ ((nI (fldN (tX f n E (se f E (se f E k))))) = 0) := of_decide_eq_false c_222
      have n_222 : ¬ (fldN (tX f n E (se f E (se f E k))) = 0) := fun h9 => c_222 ((eq_nI (p := fldN (tX f n E (se f E (se f E k)))) (n := 0) (Nat.lt_trans (le1_fld _) (by decide)) (by decide)).mpr h9)
      refine ps_st (S' := (226, [(0, .ref o), (1, .int (nI k))], [.ref o], M)) rfl rfl rfl ?_
      refine ps_get (S' := (229, [(0, .ref o), (1, .int (nI k))], [.ref q], M)) rfl h_o rfl rfl ?_
      refine ps_st (S' := (230, [(0, .ref o), (1, .int (nI k))], [.ref o, .ref q], M)) rfl rfl rfl ?_
      refine ps_get (S' := (233, [(0, .ref o), (1, .int (nI k))], [.ref q, .ref q], M)) rfl h_o rfl rfl ?_
      refine ps_st (S' := (234, [(0, .ref o), (1, .int (nI k))], [.int (nI k), .ref q, .ref q], M)) rfl rfl rfl ?_
      refine pl_call (a := [.ref q, .int (nI k)]) (rest := [.ref q]) rfl rfl rfl (dy_nameOf (f := f) (n := n) (N := N) (q := q) (E := E) (j := k) (hV) (by omega)) (fun v43 M44 q45 => ?_)
      obtain ⟨rfl, rfl⟩ := q45
      show pl _ _ _ (237, [(0, .ref o), (1, .int (nI k))], [.int (nI (fi f E (se f E k))), .ref q], M) _
      refine pl_call (a := [.ref q, .int (nI (fi f E (se f E k)))]) (rest := []) rfl rfl rfl (dy_hasAngle (f := f) (n := n) (N := N) (q := q) (E := E) (j := (fi f E (se f E k))) (hV) (fi_lt _ _ _)) (fun v46 M47 q48 => ?_)
      obtain ⟨rfl, rfl⟩ := q48
      show pl _ _ _ (240, [(0, .ref o), (1, .int (nI k))], [.int (nI (angN (tX f n E (fi f E (se f E k)))))], M) _
      refine ps_if (S1 := (247, [], [], M)) (S2 := (243, [(0, .ref o), (1, .int (nI k))], [], M)) rfl rfl rfl (fun c_240 => ?_) (fun c_240 => ?_)
      · have c_240 : ¬ (nI (angN (tX f n E (fi f E (se f E k))))) = 0 := of_decide_eq_true c_240
        have n_240 : ¬ (angN (tX f n E (fi f E (se f E k))) = 0) := fun h9 => c_240 ((eq_nI (p := angN (tX f n E (fi f E (se f E k)))) (n := 0) (Nat.lt_trans (le1_ang _) (by decide)) (by decide)).mpr h9)
        refine ps_st (S' := (249, [], [.int 14], M)) rfl rfl rfl ?_
        exact ps_ret rfl rfl (⟨congrArg (fun x => some (Value.int (nI x))) (show 14 = brkN f n E mj k from by
            unfold brkN
            first | ((repeat first | rw [if_pos (by omega)] | rw [if_neg (by omega)]) <;> first | rfl | omega) | ((repeat' split) <;> first | rfl | (exfalso; omega) | omega)), rfl⟩)
      · have c_240 : ¬ (¬ (nI (angN (tX f n E (fi f E (se f E k))))) = 0) := of_decide_eq_false c_240
        have n_240 : angN (tX f n E (fi f E (se f E k))) = 0 := (eq_nI (p := angN (tX f n E (fi f E (se f E k)))) (n := 0) (Nat.lt_trans (le1_ang _) (by decide)) (by decide)).mp (Decidable.not_not.mp c_240)
        refine ps_st (S' := (244, [(0, .ref o), (1, .int (nI k))], [.int 0], M)) rfl rfl rfl ?_
        refine ps_st (S' := (249, [], [.int 0], M)) rfl rfl rfl ?_
        exact ps_ret rfl rfl (⟨congrArg (fun x => some (Value.int (nI x))) (show 0 = brkN f n E mj k from by
            unfold brkN
            first | ((repeat first | rw [if_pos (by omega)] | rw [if_neg (by omega)]) <;> first | rfl | omega) | ((repeat' split) <;> first | rfl | (exfalso; omega) | omega)), rfl⟩)
  · show pl _ _ _ (250, [(0, .ref o), (1, .int (nI k))], [], M) _
    have m_8 := sw_nat (t := tg f E k) (Nat.lt_trans (tg_lt _ _ _) (by decide)) et_8
    simp at m_8
    refine ps_st (S' := (251, [(0, .ref o), (1, .int (nI k))], [.ref o], M)) rfl rfl rfl ?_
    refine ps_get (S' := (254, [(0, .ref o), (1, .int (nI k))], [.ref q], M)) rfl h_o rfl rfl ?_
    refine ps_st (S' := (255, [(0, .ref o), (1, .int (nI k))], [.ref o, .ref q], M)) rfl rfl rfl ?_
    refine ps_get (S' := (258, [(0, .ref o), (1, .int (nI k))], [.ref q, .ref q], M)) rfl h_o rfl rfl ?_
    refine ps_st (S' := (259, [(0, .ref o), (1, .int (nI k))], [.int (nI k), .ref q, .ref q], M)) rfl rfl rfl ?_
    refine pl_call (a := [.ref q, .int (nI k)]) (rest := [.ref q]) rfl rfl rfl (dy_descriptorOf (f := f) (n := n) (N := N) (q := q) (E := E) (j := k) (hV) (by omega)) (fun v49 M50 q51 => ?_)
    obtain ⟨rfl, rfl⟩ := q51
    show pl _ _ _ (262, [(0, .ref o), (1, .int (nI k))], [.int (nI (se f E (se f E k))), .ref q], M) _
    refine pl_call (a := [.ref q, .int (nI (se f E (se f E k)))]) (rest := []) rfl rfl rfl (dy_isMethodDescriptor (f := f) (n := n) (N := N) (q := q) (E := E) (j := (se f E (se f E k))) (hV) (se_lt _ _ _)) (fun v52 M53 q54 => ?_)
    obtain ⟨rfl, rfl⟩ := q54
    show pl _ _ _ (265, [(0, .ref o), (1, .int (nI k))], [.int (nI (mthN (tX f n E (se f E (se f E k)))))], M) _
    refine ps_if (S1 := (290, [], [], M)) (S2 := (268, [(0, .ref o), (1, .int (nI k))], [], M)) rfl rfl rfl (fun c_265 => ?_) (fun c_265 => ?_)
    · have c_265 : (nI (mthN (tX f n E (se f E (se f E k))))) = 0 := of_decide_eq_true c_265
      have n_265 : mthN (tX f n E (se f E (se f E k))) = 0 := (eq_nI (p := mthN (tX f n E (se f E (se f E k)))) (n := 0) (Nat.lt_trans (le1_mth _) (by decide)) (by decide)).mp c_265
      refine ps_st (S' := (292, [], [.int 14], M)) rfl rfl rfl ?_
      exact ps_ret rfl rfl (⟨congrArg (fun x => some (Value.int (nI x))) (show 14 = brkN f n E mj k from by
          unfold brkN
          first | ((repeat first | rw [if_pos (by omega)] | rw [if_neg (by omega)]) <;> first | rfl | omega) | ((repeat' split) <;> first | rfl | (exfalso; omega) | omega)), rfl⟩)
    · have c_265 : ¬ ((nI (mthN (tX f n E (se f E (se f E k))))) = 0) := of_decide_eq_false c_265
      have n_265 : ¬ (mthN (tX f n E (se f E (se f E k))) = 0) := fun h9 => c_265 ((eq_nI (p := mthN (tX f n E (se f E (se f E k)))) (n := 0) (Nat.lt_trans (le1_mth _) (by decide)) (by decide)).mpr h9)
      refine ps_st (S' := (269, [(0, .ref o), (1, .int (nI k))], [.ref o], M)) rfl rfl rfl ?_
      refine ps_get (S' := (272, [(0, .ref o), (1, .int (nI k))], [.ref q], M)) rfl h_o rfl rfl ?_
      refine ps_st (S' := (273, [(0, .ref o), (1, .int (nI k))], [.ref o, .ref q], M)) rfl rfl rfl ?_
      refine ps_get (S' := (276, [(0, .ref o), (1, .int (nI k))], [.ref q, .ref q], M)) rfl h_o rfl rfl ?_
      refine ps_st (S' := (277, [(0, .ref o), (1, .int (nI k))], [.int (nI k), .ref q, .ref q], M)) rfl rfl rfl ?_
      refine pl_call (a := [.ref q, .int (nI k)]) (rest := [.ref q]) rfl rfl rfl (dy_nameOf (f := f) (n := n) (N := N) (q := q) (E := E) (j := k) (hV) (by omega)) (fun v55 M56 q57 => ?_)
      obtain ⟨rfl, rfl⟩ := q57
      show pl _ _ _ (280, [(0, .ref o), (1, .int (nI k))], [.int (nI (fi f E (se f E k))), .ref q], M) _
      refine pl_call (a := [.ref q, .int (nI (fi f E (se f E k)))]) (rest := []) rfl rfl rfl (dy_hasAngle (f := f) (n := n) (N := N) (q := q) (E := E) (j := (fi f E (se f E k))) (hV) (fi_lt _ _ _)) (fun v58 M59 q60 => ?_)
      obtain ⟨rfl, rfl⟩ := q60
      show pl _ _ _ (283, [(0, .ref o), (1, .int (nI k))], [.int (nI (angN (tX f n E (fi f E (se f E k)))))], M) _
      refine ps_if (S1 := (290, [], [], M)) (S2 := (286, [(0, .ref o), (1, .int (nI k))], [], M)) rfl rfl rfl (fun c_283 => ?_) (fun c_283 => ?_)
      · have c_283 : ¬ (nI (angN (tX f n E (fi f E (se f E k))))) = 0 := of_decide_eq_true c_283
        have n_283 : ¬ (angN (tX f n E (fi f E (se f E k))) = 0) := fun h9 => c_283 ((eq_nI (p := angN (tX f n E (fi f E (se f E k)))) (n := 0) (Nat.lt_trans (le1_ang _) (by decide)) (by decide)).mpr h9)
        refine ps_st (S' := (292, [], [.int 14], M)) rfl rfl rfl ?_
        exact ps_ret rfl rfl (⟨congrArg (fun x => some (Value.int (nI x))) (show 14 = brkN f n E mj k from by
            unfold brkN
            first | ((repeat first | rw [if_pos (by omega)] | rw [if_neg (by omega)]) <;> first | rfl | omega) | ((repeat' split) <;> first | rfl | (exfalso; omega) | omega)), rfl⟩)
      · have c_283 : ¬ (¬ (nI (angN (tX f n E (fi f E (se f E k))))) = 0) := of_decide_eq_false c_283
        have n_283 : angN (tX f n E (fi f E (se f E k))) = 0 := (eq_nI (p := angN (tX f n E (fi f E (se f E k)))) (n := 0) (Nat.lt_trans (le1_ang _) (by decide)) (by decide)).mp (Decidable.not_not.mp c_283)
        refine ps_st (S' := (287, [(0, .ref o), (1, .int (nI k))], [.int 0], M)) rfl rfl rfl ?_
        refine ps_st (S' := (292, [], [.int 0], M)) rfl rfl rfl ?_
        exact ps_ret rfl rfl (⟨congrArg (fun x => some (Value.int (nI x))) (show 0 = brkN f n E mj k from by
            unfold brkN
            first | ((repeat first | rw [if_pos (by omega)] | rw [if_neg (by omega)]) <;> first | rfl | omega) | ((repeat' split) <;> first | rfl | (exfalso; omega) | omega)), rfl⟩)
  · show pl _ _ _ (293, [(0, .ref o), (1, .int (nI k))], [], M) _
    have m_8 := sw_nat (t := tg f E k) (Nat.lt_trans (tg_lt _ _ _) (by decide)) et_8
    simp at m_8
    refine ps_st (S' := (294, [(0, .ref o), (1, .int (nI k))], [.int 0], M)) rfl rfl rfl ?_
    exact ps_ret rfl rfl (⟨congrArg (fun x => some (Value.int (nI x))) (show 0 = brkN f n E mj k from by
        unfold brkN
        first | ((repeat first | rw [if_pos (by omega)] | rw [if_neg (by omega)]) <;> first | rfl | omega) | ((repeat' split) <;> first | rfl | (exfalso; omega) | omega)), rfl⟩)
theorem dk_wrong {g : xe_G} {M : mi_H} {vd : Nat} {ru wa x1 x2 : Int32} (h_vd : M.1 vd = some (ob 10 [.int ru, .int wa]))  : pt (mT g) 172 [.ref vd, .int x1, .int x2] M (fun v M' => (v = some (.int 0) ∧ M'.1 vd = some (ob 10 [.int x1, .int x2]) ∧ fm [vd] M M')) := dx_wrong h_vd
set_option maxHeartbeats 1000000 in
theorem dk_entriesHold {g : xe_G} {M : mi_H} {f : Nat → Int32} {n N q : Nat} {E : List (Nat × Nat)} {o vd mj : Nat} {ru wa : Int32} (h_o : M.1 o = some (ob 8 [.ref q, .int (nI mj), .ref vd])) (h_vd : M.1 vd = some (ob 10 [.int ru, .int wa])) (hmj : mj < 65536) (hV : PV g f n N E q M) : pt (mT g) 146 [.ref o] M (fun v M' => ((chkP f n E mj (N - 1) 1 = none) ∧ v = some (.int 1) ∧ M'.1 vd = some (ob 10 [.int ru, .int wa]) ∧ fm [vd] M M') ∨ (∃ (e : Nat × Nat), (chkP f n E mj (N - 1) 1 = some e) ∧ v = some (.int 0) ∧ M'.1 vd = some (ob 10 [.int (nI e.1), .int (nI e.2)]) ∧ fm [vd] M M')) := by
  refine pt_in (b := mb_146 g) rfl (fun kf => ?_)
  show pl (mT g) kf (mb_146 g).2 (0, [(0, .ref o)], [], M) _
  have hF : fm [vd] M M := fm.rf
  have hV0 := hV
  obtain ⟨hL, H, m, qq, F, cc, hP, hT, hB, hb, hVF, hS⟩ := hV0
  have h_q := hP.1
  have LL : ∀ (kf : Nat), (∀ (k : Nat) (M1 : mi_H), (M1.1 o = some (ob 8 [.ref q, .int (nI mj), .ref vd])) → (M1.1 vd = some (ob 10 [.int ru, .int wa])) → (M1.1 q = some (ob 7 [.int (nI N), .ref (qq 1), .ref (qq 2), .ref (qq 3), .ref (qq 4), .ref (qq 5), .ref (qq 6), .int cc])) → (PV g f n N E q M1) → (fm [vd] M M1) → (1 ≤ k ∧ (k ≤ N ∨ k = 1)) → (chkP f n E mj (N - k) k = chkP f n E mj (N - 1) 1) →  pl (mT g) kf (mb_146 g).2 (2, [(0, .ref o), (1, .int (nI k))], [], M1) (fun v M' => ((chkP f n E mj (N - 1) 1 = none) ∧ v = some (.int 1) ∧ M'.1 vd = some (ob 10 [.int ru, .int wa]) ∧ fm [vd] M M') ∨ (∃ (e : Nat × Nat), (chkP f n E mj (N - 1) 1 = some e) ∧ v = some (.int 0) ∧ M'.1 vd = some (ob 10 [.int (nI e.1), .int (nI e.2)]) ∧ fm [vd] M M'))) := by
    intro kf
    induction kf with
    | zero => exact (by intros; exact pl_0)
    | succ kf ih =>
      intro k M1 hl_o hl_vd hl_q hV1 hF1 hk hs
      refine ps_st1 (S' := (3, [(0, .ref o), (1, .int (nI k))], [.int (nI k)], M1)) rfl rfl rfl ?_
      refine ps_st (S' := (4, [(0, .ref o), (1, .int (nI k))], [.ref o, .int (nI k)], M1)) rfl rfl rfl ?_
      refine ps_get (S' := (7, [(0, .ref o), (1, .int (nI k))], [.ref q, .int (nI k)], M1)) rfl hl_o rfl rfl ?_
      refine ps_get (S' := (10, [(0, .ref o), (1, .int (nI k))], [.int (nI N), .int (nI k)], M1)) rfl hl_q rfl rfl ?_
      refine ps_if2 (S1 := (59, [(0, .ref o), (1, .int (nI k))], [], M1)) (S2 := (13, [(0, .ref o), (1, .int (nI k))], [], M1)) rfl rfl rfl (fun c_10 => ?_) (fun c_10 => ?_)
      · have c_10 : (nI N) ≤ (nI k) := of_decide_eq_true c_10
        have n_10 : N ≤ k := (le_nI (p := N) (n := k) (by omega) (by omega)).mp c_10
        refine ps_st (S' := (60, [(0, .ref o), (1, .int (nI k))], [.int 1], M1)) rfl rfl rfl ?_
        exact ps_ret rfl rfl (Or.inl ⟨by rw [← hs, show N - k = 0 by omega]; rfl, rfl, hl_vd, hF1⟩)
      · have c_10 : ¬ ((nI N) ≤ (nI k)) := of_decide_eq_false c_10
        have n_10 : ¬ (N ≤ k) := fun h9 => c_10 ((le_nI (p := N) (n := k) (by omega) (by omega)).mpr h9)
        refine ps_st (S' := (14, [(0, .ref o), (1, .int (nI k))], [.ref o], M1)) rfl rfl rfl ?_
        refine ps_st (S' := (15, [(0, .ref o), (1, .int (nI k))], [.int (nI k), .ref o], M1)) rfl rfl rfl ?_
        refine pl_call (a := [.ref o, .int (nI k)]) (rest := []) rfl rfl rfl (dk_linksHold (f := f) (n := n) (N := N) (q := q) (E := E) (o := o) (vd := vd) (mj := mj) (k := k) hl_o (hV1) (hmj) (by omega)) (fun v1 M2 q3 => ?_)
        obtain ⟨rfl, rfl⟩ := q3
        show pl _ _ _ (18, [(0, .ref o), (1, .int (nI k))], [.int (nI (lnkN f E k))], M1) _
        refine ps_if (S1 := (29, [(0, .ref o), (1, .int (nI k))], [], M1)) (S2 := (21, [(0, .ref o), (1, .int (nI k))], [], M1)) rfl rfl rfl (fun c_18 => ?_) (fun c_18 => ?_)
        · have c_18 : (nI (lnkN f E k)) = 0 := of_decide_eq_true c_18
          have n_18 : lnkN f E k = 0 := (eq_nI (p := lnkN f E k) (n := 0) (Nat.lt_trans (le1_lnk _ _ _) (by decide)) (by decide)).mp c_18
          refine ps_st (S' := (31, [(0, .ref o), (1, .int (nI k))], [.int 9], M1)) rfl rfl rfl ?_
          refine ps_st (S' := (32, [(2, .int 9), (0, .ref o), (1, .int (nI k))], [], M1)) rfl rfl rfl ?_
          refine ps_st (S' := (33, [(2, .int 9), (0, .ref o), (1, .int (nI k))], [.int 9], M1)) rfl rfl rfl ?_
          refine ps_if (S1 := (53, [(2, .int 9), (0, .ref o), (1, .int (nI k))], [], M1)) (S2 := (36, [(2, .int 9), (0, .ref o), (1, .int (nI k))], [], M1)) rfl rfl rfl (fun c_33 => ?_) (fun c_33 => ?_)
          · exact absurd (of_decide_eq_true c_33) (by decide)
          refine ps_st (S' := (37, [(2, .int 9), (0, .ref o), (1, .int (nI k))], [.ref o], M1)) rfl rfl rfl ?_
          refine ps_get (S' := (40, [(2, .int 9), (0, .ref o), (1, .int (nI k))], [.ref vd], M1)) rfl hl_o rfl rfl ?_
          refine ps_st (S' := (41, [(2, .int 9), (0, .ref o), (1, .int (nI k))], [.int 9, .ref vd], M1)) rfl rfl rfl ?_
          refine ps_st (S' := (42, [(2, .int 9), (0, .ref o), (1, .int (nI k))], [.ref o, .int 9, .ref vd], M1)) rfl rfl rfl ?_
          refine ps_get (S' := (45, [(2, .int 9), (0, .ref o), (1, .int (nI k))], [.ref q, .int 9, .ref vd], M1)) rfl hl_o rfl rfl ?_
          refine ps_st (S' := (46, [(2, .int 9), (0, .ref o), (1, .int (nI k))], [.int (nI k), .ref q, .int 9, .ref vd], M1)) rfl rfl rfl ?_
          have ht9 := lnk_t (f := f) (E := E) (k := k) (by omega)
          refine pl_call (a := [.ref q, .int (nI k)]) (rest := [.int 9, .ref vd]) rfl rfl rfl (dy_tagPlace (f := f) (n := n) (N := N) (q := q) (E := E) (j := k) (p := (tp E k)) (hV1) (by omega) (tp_of ht9) (ht9)) (fun v4 M5 q6 => ?_)
          obtain ⟨rfl, rfl⟩ := q6
          show pl _ _ _ (49, [(2, .int 9), (0, .ref o), (1, .int (nI k))], [.int (nI ((tp E k))), .int 9, .ref vd], M1) _
          refine pl_call (a := [.ref vd, .int 9, .int (nI ((tp E k)))]) (rest := []) rfl rfl rfl (dk_wrong (vd := vd) (ru := ru) (wa := wa) (x1 := 9) (x2 := (nI ((tp E k)))) hl_vd) (fun v7 M8 q9 => ?_)
          obtain ⟨rfl, h10, f11⟩ := q9
          have h13 := (f11.1 o (nin1 (ob_ne hl_o hl_vd (by decide)))).trans hl_o
          have h14 := (f11.1 q (nin1 (ob_ne hl_q hl_vd (by decide)))).trans hl_q
          have hF15 := hF1.tr f11 (by simp)
          have hV16 := hV1.keep f11.gm (n7c hl_vd (by decide) (n7nil))
          show pl _ _ _ (52, [(2, .int 9), (0, .ref o), (1, .int (nI k))], [.int 0], M8) _
          exact ps_ret rfl rfl (Or.inr ⟨(9, tp E k), by
              rw [← hs, chkP_st (k := k) (by omega)]
              repeat' split
              all_goals first | rfl | (exfalso; omega), rfl, h10, hF15⟩)
        · have c_18 : ¬ ((nI (lnkN f E k)) = 0) := of_decide_eq_false c_18
          have n_18 : ¬ (lnkN f E k = 0) := fun h9 => c_18 ((eq_nI (p := lnkN f E k) (n := 0) (Nat.lt_trans (le1_lnk _ _ _) (by decide)) (by decide)).mpr h9)
          refine ps_st (S' := (22, [(0, .ref o), (1, .int (nI k))], [.ref o], M1)) rfl rfl rfl ?_
          refine ps_st (S' := (23, [(0, .ref o), (1, .int (nI k))], [.int (nI k), .ref o], M1)) rfl rfl rfl ?_
          refine pl_call (a := [.ref o, .int (nI k)]) (rest := []) rfl rfl rfl (dk_brokenRule (f := f) (n := n) (N := N) (q := q) (E := E) (o := o) (vd := vd) (mj := mj) (k := k) hl_o (hV1) (hmj) (by omega)) (fun v17 M18 q19 => ?_)
          obtain ⟨rfl, rfl⟩ := q19
          show pl _ _ _ (26, [(0, .ref o), (1, .int (nI k))], [.int (nI (brkN f n E mj k))], M1) _
          refine ps_st (S' := (31, [(0, .ref o), (1, .int (nI k))], [.int (nI (brkN f n E mj k))], M1)) rfl rfl rfl ?_
          refine ps_st (S' := (32, [(2, .int (nI (brkN f n E mj k))), (0, .ref o), (1, .int (nI k))], [], M1)) rfl rfl rfl ?_
          refine ps_st (S' := (33, [(2, .int (nI (brkN f n E mj k))), (0, .ref o), (1, .int (nI k))], [.int (nI (brkN f n E mj k))], M1)) rfl rfl rfl ?_
          refine ps_if (S1 := (53, [(2, .int (nI (brkN f n E mj k))), (0, .ref o), (1, .int (nI k))], [], M1)) (S2 := (36, [(2, .int (nI (brkN f n E mj k))), (0, .ref o), (1, .int (nI k))], [], M1)) rfl rfl rfl (fun c_33 => ?_) (fun c_33 => ?_)
          · have c_33 : (nI (brkN f n E mj k)) = 0 := of_decide_eq_true c_33
            have n_33 : brkN f n E mj k = 0 := (eq_nI (p := brkN f n E mj k) (n := 0) (Nat.lt_trans (le_brk _ _ _ _ _) (by decide)) (by decide)).mp c_33
            refine ps_st (S' := (56, [(1, .int ((nI k) + 1)), (2, .int (nI (brkN f n E mj k))), (0, .ref o)], [], M1)) rfl rfl rfl ?_
            rw [nI_add1 (p := k) (k := 1) (x := 1) rfl (by omega)]
            show pl _ _ _ (_, [(1, .int (nI (k + 1))), (2, .int (nI (brkN f n E mj k))), (0, .ref o)], [], M1) _
            refine ps_st (S' := (2, [(0, .ref o), (1, .int (nI (k + 1)))], [], M1)) rfl rfl rfl ?_
            exact ih (k + 1) M1 hl_o hl_vd hl_q hV1 hF1 (by omega) (by
                rw [← hs, chkP_st (k := k) (by omega), if_neg (by omega), if_pos (by omega)])
          · have c_33 : ¬ ((nI (brkN f n E mj k)) = 0) := of_decide_eq_false c_33
            have n_33 : ¬ (brkN f n E mj k = 0) := fun h9 => c_33 ((eq_nI (p := brkN f n E mj k) (n := 0) (Nat.lt_trans (le_brk _ _ _ _ _) (by decide)) (by decide)).mpr h9)
            refine ps_st (S' := (37, [(2, .int (nI (brkN f n E mj k))), (0, .ref o), (1, .int (nI k))], [.ref o], M1)) rfl rfl rfl ?_
            refine ps_get (S' := (40, [(2, .int (nI (brkN f n E mj k))), (0, .ref o), (1, .int (nI k))], [.ref vd], M1)) rfl hl_o rfl rfl ?_
            refine ps_st (S' := (41, [(2, .int (nI (brkN f n E mj k))), (0, .ref o), (1, .int (nI k))], [.int (nI (brkN f n E mj k)), .ref vd], M1)) rfl rfl rfl ?_
            refine ps_st (S' := (42, [(2, .int (nI (brkN f n E mj k))), (0, .ref o), (1, .int (nI k))], [.ref o, .int (nI (brkN f n E mj k)), .ref vd], M1)) rfl rfl rfl ?_
            refine ps_get (S' := (45, [(2, .int (nI (brkN f n E mj k))), (0, .ref o), (1, .int (nI k))], [.ref q, .int (nI (brkN f n E mj k)), .ref vd], M1)) rfl hl_o rfl rfl ?_
            refine ps_st (S' := (46, [(2, .int (nI (brkN f n E mj k))), (0, .ref o), (1, .int (nI k))], [.int (nI k), .ref q, .int (nI (brkN f n E mj k)), .ref vd], M1)) rfl rfl rfl ?_
            have ht9 := brk_t (f := f) (n := n) (E := E) (mj := mj) (k := k) (by omega)
            refine pl_call (a := [.ref q, .int (nI k)]) (rest := [.int (nI (brkN f n E mj k)), .ref vd]) rfl rfl rfl (dy_tagPlace (f := f) (n := n) (N := N) (q := q) (E := E) (j := k) (p := (tp E k)) (hV1) (by omega) (tp_of ht9) (ht9)) (fun v20 M21 q22 => ?_)
            obtain ⟨rfl, rfl⟩ := q22
            show pl _ _ _ (49, [(2, .int (nI (brkN f n E mj k))), (0, .ref o), (1, .int (nI k))], [.int (nI ((tp E k))), .int (nI (brkN f n E mj k)), .ref vd], M1) _
            refine pl_call (a := [.ref vd, .int (nI (brkN f n E mj k)), .int (nI ((tp E k)))]) (rest := []) rfl rfl rfl (dk_wrong (vd := vd) (ru := ru) (wa := wa) (x1 := (nI (brkN f n E mj k))) (x2 := (nI ((tp E k)))) hl_vd) (fun v23 M24 q25 => ?_)
            obtain ⟨rfl, h26, f27⟩ := q25
            have h29 := (f27.1 o (nin1 (ob_ne hl_o hl_vd (by decide)))).trans hl_o
            have h30 := (f27.1 q (nin1 (ob_ne hl_q hl_vd (by decide)))).trans hl_q
            have hF31 := hF1.tr f27 (by simp)
            have hV32 := hV1.keep f27.gm (n7c hl_vd (by decide) (n7nil))
            show pl _ _ _ (52, [(2, .int (nI (brkN f n E mj k))), (0, .ref o), (1, .int (nI k))], [.int 0], M24) _
            exact ps_ret rfl rfl (Or.inr ⟨(brkN f n E mj k, tp E k), by
                rw [← hs, chkP_st (k := k) (by omega)]
                repeat' split
                all_goals first | rfl | (exfalso; omega), rfl, h26, hF31⟩)
  refine ps_st (S' := (1, [(0, .ref o)], [.int 1], M)) rfl rfl rfl ?_
  refine ps_st (S' := (2, [(0, .ref o), (1, .int 1)], [], M)) rfl rfl rfl ?_
  exact (LL kf) (1) M h_o h_vd h_q hV hF (by omega) (rfl)
set_option maxHeartbeats 1000000 in
theorem dk_bootstrapsHold {g : xe_G} {M : mi_H} {f : Nat → Int32} {n N q : Nat} {E : List (Nat × Nat)} {o vd mj : Nat} {bc : Nat} {ru wa : Int32} (h_o : M.1 o = some (ob 8 [.ref q, .int (nI mj), .ref vd])) (h_vd : M.1 vd = some (ob 10 [.int ru, .int wa])) (hmj : mj < 65536) (hbc : bc < 65536) (hV : PV g f n N E q M) : pt (mT g) 144 [.ref o, .int (nI bc)] M (fun v M' => ((chkB f E bc (N - 1) 1 = none) ∧ v = some (.int 1) ∧ M'.1 vd = some (ob 10 [.int ru, .int wa]) ∧ fm [vd] M M') ∨ (∃ (e : Nat × Nat), (chkB f E bc (N - 1) 1 = some e) ∧ v = some (.int 0) ∧ M'.1 vd = some (ob 10 [.int (nI e.1), .int (nI e.2)]) ∧ fm [vd] M M')) := by
  refine pt_in (b := mb_144 g) rfl (fun kf => ?_)
  show pl (mT g) kf (mb_144 g).2 (0, [(0, .ref o), (1, .int (nI bc))], [], M) _
  have hF : fm [vd] M M := fm.rf
  have hV0 := hV
  obtain ⟨hL, H, m, qq, F, cc, hP, hT, hB, hb, hVF, hS⟩ := hV0
  have h_q := hP.1
  have LL : ∀ (kf : Nat), (∀ (k : Nat) (M1 : mi_H), (M1.1 o = some (ob 8 [.ref q, .int (nI mj), .ref vd])) → (M1.1 vd = some (ob 10 [.int ru, .int wa])) → (M1.1 q = some (ob 7 [.int (nI N), .ref (qq 1), .ref (qq 2), .ref (qq 3), .ref (qq 4), .ref (qq 5), .ref (qq 6), .int cc])) → (PV g f n N E q M1) → (fm [vd] M M1) → (1 ≤ k ∧ (k ≤ N ∨ k = 1)) → (chkB f E bc (N - k) k = chkB f E bc (N - 1) 1) →  pl (mT g) kf (mb_144 g).2 (2, [(0, .ref o), (1, .int (nI bc)), (2, .int (nI k))], [], M1) (fun v M' => ((chkB f E bc (N - 1) 1 = none) ∧ v = some (.int 1) ∧ M'.1 vd = some (ob 10 [.int ru, .int wa]) ∧ fm [vd] M M') ∨ (∃ (e : Nat × Nat), (chkB f E bc (N - 1) 1 = some e) ∧ v = some (.int 0) ∧ M'.1 vd = some (ob 10 [.int (nI e.1), .int (nI e.2)]) ∧ fm [vd] M M'))) := by
    intro kf
    induction kf with
    | zero => exact (by intros; exact pl_0)
    | succ kf ih =>
      intro k M1 hl_o hl_vd hl_q hV1 hF1 hk hs
      refine ps_st1 (S' := (3, [(0, .ref o), (1, .int (nI bc)), (2, .int (nI k))], [.int (nI k)], M1)) rfl rfl rfl ?_
      refine ps_st (S' := (4, [(0, .ref o), (1, .int (nI bc)), (2, .int (nI k))], [.ref o, .int (nI k)], M1)) rfl rfl rfl ?_
      refine ps_get (S' := (7, [(0, .ref o), (1, .int (nI bc)), (2, .int (nI k))], [.ref q, .int (nI k)], M1)) rfl hl_o rfl rfl ?_
      refine ps_get (S' := (10, [(0, .ref o), (1, .int (nI bc)), (2, .int (nI k))], [.int (nI N), .int (nI k)], M1)) rfl hl_q rfl rfl ?_
      refine ps_if2 (S1 := (70, [(0, .ref o), (1, .int (nI bc)), (2, .int (nI k))], [], M1)) (S2 := (13, [(0, .ref o), (1, .int (nI bc)), (2, .int (nI k))], [], M1)) rfl rfl rfl (fun c_10 => ?_) (fun c_10 => ?_)
      · have c_10 : (nI N) ≤ (nI k) := of_decide_eq_true c_10
        have n_10 : N ≤ k := (le_nI (p := N) (n := k) (by omega) (by omega)).mp c_10
        refine ps_st (S' := (71, [(0, .ref o), (1, .int (nI bc)), (2, .int (nI k))], [.int 1], M1)) rfl rfl rfl ?_
        exact ps_ret rfl rfl (Or.inl ⟨by rw [← hs, show N - k = 0 by omega]; rfl, rfl, hl_vd, hF1⟩)
      · have c_10 : ¬ ((nI N) ≤ (nI k)) := of_decide_eq_false c_10
        have n_10 : ¬ (N ≤ k) := fun h9 => c_10 ((le_nI (p := N) (n := k) (by omega) (by omega)).mpr h9)
        refine ps_st (S' := (14, [(0, .ref o), (1, .int (nI bc)), (2, .int (nI k))], [.ref o], M1)) rfl rfl rfl ?_
        refine ps_get (S' := (17, [(0, .ref o), (1, .int (nI bc)), (2, .int (nI k))], [.ref q], M1)) rfl hl_o rfl rfl ?_
        refine ps_st (S' := (18, [(0, .ref o), (1, .int (nI bc)), (2, .int (nI k))], [.int (nI k), .ref q], M1)) rfl rfl rfl ?_
        refine pl_call (a := [.ref q, .int (nI k)]) (rest := []) rfl rfl rfl (dy_tagOf (f := f) (n := n) (N := N) (q := q) (E := E) (j := k) (hV1) (by omega)) (fun v1 M2 q3 => ?_)
        obtain ⟨rfl, rfl⟩ := q3
        show pl _ _ _ (21, [(0, .ref o), (1, .int (nI bc)), (2, .int (nI k))], [.int (nI (tg f E k))], M1) _
        refine ps_st (S' := (22, [(3, .int (nI (tg f E k))), (0, .ref o), (1, .int (nI bc)), (2, .int (nI k))], [], M1)) rfl rfl rfl ?_
        refine ps_st (S' := (23, [(3, .int (nI (tg f E k))), (0, .ref o), (1, .int (nI bc)), (2, .int (nI k))], [.int (nI (tg f E k))], M1)) rfl rfl rfl ?_
        refine ps_st (S' := (25, [(3, .int (nI (tg f E k))), (0, .ref o), (1, .int (nI bc)), (2, .int (nI k))], [.int 17, .int (nI (tg f E k))], M1)) rfl rfl rfl ?_
        refine ps_if2 (S1 := (34, [(0, .ref o), (1, .int (nI bc)), (2, .int (nI k))], [], M1)) (S2 := (28, [(3, .int (nI (tg f E k))), (0, .ref o), (1, .int (nI bc)), (2, .int (nI k))], [], M1)) rfl rfl rfl (fun c_25 => ?_) (fun c_25 => ?_)
        · have c_25 : (nI (tg f E k)) = 17 := of_decide_eq_true c_25
          have n_25 : tg f E k = 17 := (eq_nI (p := tg f E k) (n := 17) (Nat.lt_trans (tg_lt _ _ _) (by decide)) (by decide)).mp c_25
          refine ps_st (S' := (35, [(0, .ref o), (1, .int (nI bc)), (2, .int (nI k))], [.ref o], M1)) rfl rfl rfl ?_
          refine ps_get (S' := (38, [(0, .ref o), (1, .int (nI bc)), (2, .int (nI k))], [.ref q], M1)) rfl hl_o rfl rfl ?_
          refine ps_st (S' := (39, [(0, .ref o), (1, .int (nI bc)), (2, .int (nI k))], [.int (nI k), .ref q], M1)) rfl rfl rfl ?_
          refine pl_call (a := [.ref q, .int (nI k)]) (rest := []) rfl rfl rfl (dy_firstIndex (f := f) (n := n) (N := N) (q := q) (E := E) (j := k) (hV1) (by omega)) (fun v4 M5 q6 => ?_)
          obtain ⟨rfl, rfl⟩ := q6
          show pl _ _ _ (42, [(0, .ref o), (1, .int (nI bc)), (2, .int (nI k))], [.int (nI (fi f E k))], M1) _
          refine ps_st (S' := (43, [(0, .ref o), (1, .int (nI bc)), (2, .int (nI k))], [.int (nI bc), .int (nI (fi f E k))], M1)) rfl rfl rfl ?_
          refine ps_if2 (S1 := (64, [(0, .ref o), (1, .int (nI bc)), (2, .int (nI k))], [], M1)) (S2 := (46, [(0, .ref o), (1, .int (nI bc)), (2, .int (nI k))], [], M1)) rfl rfl rfl (fun c_43 => ?_) (fun c_43 => ?_)
          · have c_43 : (nI (fi f E k)) < (nI bc) := of_decide_eq_true c_43
            have n_43 : fi f E k < bc := (lt_nI (p := fi f E k) (n := bc) (Nat.lt_trans (fi_lt _ _ _) (by decide)) (by omega)).mp c_43
            refine ps_st (S' := (67, [(2, .int ((nI k) + 1)), (0, .ref o), (1, .int (nI bc))], [], M1)) rfl rfl rfl ?_
            rw [nI_add1 (p := k) (k := 1) (x := 1) rfl (by omega)]
            show pl _ _ _ (_, [(2, .int (nI (k + 1))), (0, .ref o), (1, .int (nI bc))], [], M1) _
            refine ps_st (S' := (2, [(0, .ref o), (1, .int (nI bc)), (2, .int (nI (k + 1)))], [], M1)) rfl rfl rfl ?_
            exact ih (k + 1) M1 hl_o hl_vd hl_q hV1 hF1 (by omega) (by
                rw [← hs, chkB_st (k := k) (by omega), if_neg (by omega)])
          · have c_43 : ¬ ((nI (fi f E k)) < (nI bc)) := of_decide_eq_false c_43
            have n_43 : ¬ (fi f E k < bc) := fun h9 => c_43 ((lt_nI (p := fi f E k) (n := bc) (Nat.lt_trans (fi_lt _ _ _) (by decide)) (by omega)).mpr h9)
            refine ps_st (S' := (47, [(0, .ref o), (1, .int (nI bc)), (2, .int (nI k))], [.ref o], M1)) rfl rfl rfl ?_
            refine ps_get (S' := (50, [(0, .ref o), (1, .int (nI bc)), (2, .int (nI k))], [.ref vd], M1)) rfl hl_o rfl rfl ?_
            refine ps_st (S' := (52, [(0, .ref o), (1, .int (nI bc)), (2, .int (nI k))], [.int 40, .ref vd], M1)) rfl rfl rfl ?_
            refine ps_st (S' := (53, [(0, .ref o), (1, .int (nI bc)), (2, .int (nI k))], [.ref o, .int 40, .ref vd], M1)) rfl rfl rfl ?_
            refine ps_get (S' := (56, [(0, .ref o), (1, .int (nI bc)), (2, .int (nI k))], [.ref q, .int 40, .ref vd], M1)) rfl hl_o rfl rfl ?_
            refine ps_st (S' := (57, [(0, .ref o), (1, .int (nI bc)), (2, .int (nI k))], [.int (nI k), .ref q, .int 40, .ref vd], M1)) rfl rfl rfl ?_
            have ht9 : ¬ tg f E k = 0 := by omega
            refine pl_call (a := [.ref q, .int (nI k)]) (rest := [.int 40, .ref vd]) rfl rfl rfl (dy_tagPlace (f := f) (n := n) (N := N) (q := q) (E := E) (j := k) (p := (tp E k)) (hV1) (by omega) (tp_of ht9) (ht9)) (fun v7 M8 q9 => ?_)
            obtain ⟨rfl, rfl⟩ := q9
            show pl _ _ _ (60, [(0, .ref o), (1, .int (nI bc)), (2, .int (nI k))], [.int (nI ((tp E k))), .int 40, .ref vd], M1) _
            refine pl_call (a := [.ref vd, .int 40, .int (nI ((tp E k)))]) (rest := []) rfl rfl rfl (dk_wrong (vd := vd) (ru := ru) (wa := wa) (x1 := 40) (x2 := (nI ((tp E k)))) hl_vd) (fun v10 M11 q12 => ?_)
            obtain ⟨rfl, h13, f14⟩ := q12
            have h16 := (f14.1 o (nin1 (ob_ne hl_o hl_vd (by decide)))).trans hl_o
            have h17 := (f14.1 q (nin1 (ob_ne hl_q hl_vd (by decide)))).trans hl_q
            have hF18 := hF1.tr f14 (by simp)
            have hV19 := hV1.keep f14.gm (n7c hl_vd (by decide) (n7nil))
            show pl _ _ _ (63, [(0, .ref o), (1, .int (nI bc)), (2, .int (nI k))], [.int 0], M11) _
            exact ps_ret rfl rfl (Or.inr ⟨(40, tp E k), by
                rw [← hs, chkB_st (k := k) (by omega), if_pos (by omega)], rfl, h13, hF18⟩)
        · have c_25 : ¬ ((nI (tg f E k)) = 17) := of_decide_eq_false c_25
          have n_25 : ¬ (tg f E k = 17) := fun h9 => c_25 ((eq_nI (p := tg f E k) (n := 17) (Nat.lt_trans (tg_lt _ _ _) (by decide)) (by decide)).mpr h9)
          refine ps_st (S' := (29, [(3, .int (nI (tg f E k))), (0, .ref o), (1, .int (nI bc)), (2, .int (nI k))], [.int (nI (tg f E k))], M1)) rfl rfl rfl ?_
          refine ps_st (S' := (31, [(3, .int (nI (tg f E k))), (0, .ref o), (1, .int (nI bc)), (2, .int (nI k))], [.int 18, .int (nI (tg f E k))], M1)) rfl rfl rfl ?_
          refine ps_if2 (S1 := (64, [(0, .ref o), (1, .int (nI bc)), (2, .int (nI k))], [], M1)) (S2 := (34, [(0, .ref o), (1, .int (nI bc)), (2, .int (nI k))], [], M1)) rfl rfl rfl (fun c_31 => ?_) (fun c_31 => ?_)
          · have c_31 : ¬ (nI (tg f E k)) = 18 := of_decide_eq_true c_31
            have n_31 : ¬ (tg f E k = 18) := fun h9 => c_31 ((eq_nI (p := tg f E k) (n := 18) (Nat.lt_trans (tg_lt _ _ _) (by decide)) (by decide)).mpr h9)
            refine ps_st (S' := (67, [(2, .int ((nI k) + 1)), (0, .ref o), (1, .int (nI bc))], [], M1)) rfl rfl rfl ?_
            rw [nI_add1 (p := k) (k := 1) (x := 1) rfl (by omega)]
            show pl _ _ _ (_, [(2, .int (nI (k + 1))), (0, .ref o), (1, .int (nI bc))], [], M1) _
            refine ps_st (S' := (2, [(0, .ref o), (1, .int (nI bc)), (2, .int (nI (k + 1)))], [], M1)) rfl rfl rfl ?_
            exact ih (k + 1) M1 hl_o hl_vd hl_q hV1 hF1 (by omega) (by
                rw [← hs, chkB_st (k := k) (by omega), if_neg (by omega)])
          · have c_31 : ¬ (¬ (nI (tg f E k)) = 18) := of_decide_eq_false c_31
            have n_31 : tg f E k = 18 := (eq_nI (p := tg f E k) (n := 18) (Nat.lt_trans (tg_lt _ _ _) (by decide)) (by decide)).mp (Decidable.not_not.mp c_31)
            refine ps_st (S' := (35, [(0, .ref o), (1, .int (nI bc)), (2, .int (nI k))], [.ref o], M1)) rfl rfl rfl ?_
            refine ps_get (S' := (38, [(0, .ref o), (1, .int (nI bc)), (2, .int (nI k))], [.ref q], M1)) rfl hl_o rfl rfl ?_
            refine ps_st (S' := (39, [(0, .ref o), (1, .int (nI bc)), (2, .int (nI k))], [.int (nI k), .ref q], M1)) rfl rfl rfl ?_
            refine pl_call (a := [.ref q, .int (nI k)]) (rest := []) rfl rfl rfl (dy_firstIndex (f := f) (n := n) (N := N) (q := q) (E := E) (j := k) (hV1) (by omega)) (fun v20 M21 q22 => ?_)
            obtain ⟨rfl, rfl⟩ := q22
            show pl _ _ _ (42, [(0, .ref o), (1, .int (nI bc)), (2, .int (nI k))], [.int (nI (fi f E k))], M1) _
            refine ps_st (S' := (43, [(0, .ref o), (1, .int (nI bc)), (2, .int (nI k))], [.int (nI bc), .int (nI (fi f E k))], M1)) rfl rfl rfl ?_
            refine ps_if2 (S1 := (64, [(0, .ref o), (1, .int (nI bc)), (2, .int (nI k))], [], M1)) (S2 := (46, [(0, .ref o), (1, .int (nI bc)), (2, .int (nI k))], [], M1)) rfl rfl rfl (fun c_43 => ?_) (fun c_43 => ?_)
            · have c_43 : (nI (fi f E k)) < (nI bc) := of_decide_eq_true c_43
              have n_43 : fi f E k < bc := (lt_nI (p := fi f E k) (n := bc) (Nat.lt_trans (fi_lt _ _ _) (by decide)) (by omega)).mp c_43
              refine ps_st (S' := (67, [(2, .int ((nI k) + 1)), (0, .ref o), (1, .int (nI bc))], [], M1)) rfl rfl rfl ?_
              rw [nI_add1 (p := k) (k := 1) (x := 1) rfl (by omega)]
              show pl _ _ _ (_, [(2, .int (nI (k + 1))), (0, .ref o), (1, .int (nI bc))], [], M1) _
              refine ps_st (S' := (2, [(0, .ref o), (1, .int (nI bc)), (2, .int (nI (k + 1)))], [], M1)) rfl rfl rfl ?_
              exact ih (k + 1) M1 hl_o hl_vd hl_q hV1 hF1 (by omega) (by
                  rw [← hs, chkB_st (k := k) (by omega), if_neg (by omega)])
            · have c_43 : ¬ ((nI (fi f E k)) < (nI bc)) := of_decide_eq_false c_43
              have n_43 : ¬ (fi f E k < bc) := fun h9 => c_43 ((lt_nI (p := fi f E k) (n := bc) (Nat.lt_trans (fi_lt _ _ _) (by decide)) (by omega)).mpr h9)
              refine ps_st (S' := (47, [(0, .ref o), (1, .int (nI bc)), (2, .int (nI k))], [.ref o], M1)) rfl rfl rfl ?_
              refine ps_get (S' := (50, [(0, .ref o), (1, .int (nI bc)), (2, .int (nI k))], [.ref vd], M1)) rfl hl_o rfl rfl ?_
              refine ps_st (S' := (52, [(0, .ref o), (1, .int (nI bc)), (2, .int (nI k))], [.int 40, .ref vd], M1)) rfl rfl rfl ?_
              refine ps_st (S' := (53, [(0, .ref o), (1, .int (nI bc)), (2, .int (nI k))], [.ref o, .int 40, .ref vd], M1)) rfl rfl rfl ?_
              refine ps_get (S' := (56, [(0, .ref o), (1, .int (nI bc)), (2, .int (nI k))], [.ref q, .int 40, .ref vd], M1)) rfl hl_o rfl rfl ?_
              refine ps_st (S' := (57, [(0, .ref o), (1, .int (nI bc)), (2, .int (nI k))], [.int (nI k), .ref q, .int 40, .ref vd], M1)) rfl rfl rfl ?_
              have ht9 : ¬ tg f E k = 0 := by omega
              refine pl_call (a := [.ref q, .int (nI k)]) (rest := [.int 40, .ref vd]) rfl rfl rfl (dy_tagPlace (f := f) (n := n) (N := N) (q := q) (E := E) (j := k) (p := (tp E k)) (hV1) (by omega) (tp_of ht9) (ht9)) (fun v23 M24 q25 => ?_)
              obtain ⟨rfl, rfl⟩ := q25
              show pl _ _ _ (60, [(0, .ref o), (1, .int (nI bc)), (2, .int (nI k))], [.int (nI ((tp E k))), .int 40, .ref vd], M1) _
              refine pl_call (a := [.ref vd, .int 40, .int (nI ((tp E k)))]) (rest := []) rfl rfl rfl (dk_wrong (vd := vd) (ru := ru) (wa := wa) (x1 := 40) (x2 := (nI ((tp E k)))) hl_vd) (fun v26 M27 q28 => ?_)
              obtain ⟨rfl, h29, f30⟩ := q28
              have h32 := (f30.1 o (nin1 (ob_ne hl_o hl_vd (by decide)))).trans hl_o
              have h33 := (f30.1 q (nin1 (ob_ne hl_q hl_vd (by decide)))).trans hl_q
              have hF34 := hF1.tr f30 (by simp)
              have hV35 := hV1.keep f30.gm (n7c hl_vd (by decide) (n7nil))
              show pl _ _ _ (63, [(0, .ref o), (1, .int (nI bc)), (2, .int (nI k))], [.int 0], M27) _
              exact ps_ret rfl rfl (Or.inr ⟨(40, tp E k), by
                  rw [← hs, chkB_st (k := k) (by omega), if_pos (by omega)], rfl, h29, hF34⟩)
  refine ps_st (S' := (1, [(0, .ref o), (1, .int (nI bc))], [.int 1], M)) rfl rfl rfl ?_
  refine ps_st (S' := (2, [(0, .ref o), (1, .int (nI bc)), (2, .int 1)], [], M)) rfl rfl rfl ?_
  exact (LL kf) (1) M h_o h_vd h_q hV hF (by omega) (rfl)
