section
/-! the pool's rules as the reference checks them (my own text) -/
section PKB
variable {f : Nat → Int32} {n : Nat} {E : List (Nat × Nat)} {k mj : Nat}
theorem plI_some {o : Option Nat} (h : (0 : Int32) ≤ plI o) : ∃ p, plI o = nI p ∧ o = some p := by
  cases o with
  | none => exact absurd h (by decide)
  | some p => exact ⟨p, rfl, rfl⟩
theorem plI_none {o : Option Nat} (hb : ∀ p, o = some p → p < 1073741824) (h : ¬ (0 : Int32) ≤ plI o) : o = none := by
  cases o with
  | none => rfl
  | some p => exact absurd (Int32.not_lt.mp (nI_n0 (hb p rfl))) h
theorem tp_is {p : Nat} (h : lk E k = some p) : tp E k = p := by
  unfold tp
  rw [h]
theorem chk_skip (h : tg f E k = 0) : lnkN f E k = 1 ∧ brkN f n E mj k = 0 := by
  constructor
  · unfold lnkN
    rw [if_neg (by omega), if_neg (by omega), if_neg (by omega), if_neg (by omega), if_neg (by omega)]
  · unfold brkN
    rw [if_neg (by omega), if_neg (by omega), if_neg (by omega), if_neg (by omega), if_neg (by omega), if_neg (by omega), if_neg (by omega), if_neg (by omega)]
theorem lnk_15 (ht : tg f E k = 15) (h : ¬ lnkN f E k = 0) : 9 ≤ tg f E (se f E k) ∧ tg f E (se f E k) ≤ 11 → tg f E (se f E (se f E k)) = 12 ∧ tg f E (fi f E (se f E (se f E k))) = 1 ∧ tg f E (se f E (se f E (se f E k))) = 1 := by
  intro h9
  unfold lnkN at h
  rw [if_neg (by omega), if_neg (by omega), if_neg (by omega), if_pos ht, if_neg (by rw [ism_9]; omega)] at h
  exact pair_of (mem_of h).2.2
theorem lnk_in (h : ¬ lnkN f E k = 0) : (tg f E k = 7 ∨ tg f E k = 8 ∨ tg f E k = 16 ∨ tg f E k = 19 ∨ tg f E k = 20 → tg f E (fi f E k) = 1) ∧ (tg f E k = 12 → tg f E (fi f E k) = 1 ∧ tg f E (se f E k) = 1) ∧ (9 ≤ tg f E k ∧ tg f E k ≤ 11 → tg f E (fi f E k) = 7 ∧ tg f E (fi f E (fi f E k)) = 1 ∧ tg f E (se f E k) = 12 ∧ tg f E (fi f E (se f E k)) = 1 ∧ tg f E (se f E (se f E k)) = 1) ∧ (tg f E k = 17 ∨ tg f E k = 18 → tg f E (se f E k) = 12 ∧ tg f E (fi f E (se f E k)) = 1 ∧ tg f E (se f E (se f E k)) = 1) := by
  unfold lnkN at h
  refine ⟨fun h1 => ?_, fun h1 => ?_, fun h1 => ?_, fun h1 => ?_⟩
  · rw [if_pos h1] at h
    split at h
    · assumption
    · exact absurd rfl h
  · rw [if_neg (by omega), if_pos h1] at h
    exact (pair_of h).2
  · rw [if_neg (by omega), if_neg (by omega), if_pos (by omega)] at h
    have h2 := mem_of h
    have h3 := pair_of h2.2.2
    exact ⟨h2.1, h2.2.1, h3⟩
  · rw [if_neg (by omega), if_neg (by omega), if_neg (by omega), if_neg (by omega), if_pos h1] at h
    exact pair_of h
theorem nwt_9 : nwtN f n E k = 0 ↔ ¬ (¬ unqN (tX f n E (fi f E k)) = 0 ∧ (¬ fldN (tX f n E (se f E k)) = 0 ∨ ¬ mthN (tX f n E (se f E k)) = 0)) := by
  unfold nwtN
  split <;> omega
theorem mrf_9 : mrfN f n E k = 0 ↔ (mthN (tX f n E (se f E (se f E k))) = 0 ∨ (¬ angN (tX f n E (fi f E (se f E k))) = 0 ∧ ¬ (tg f E k = 10 ∧ ¬ eqN (tX f n E (fi f E (se f E k))) (ltx 14) = 0 ∧ ¬ nresN (tX f n E (se f E (se f E k))) = 0))) := by
  unfold mrfN
  repeat' split
  all_goals omega
end PKB
set_option maxHeartbeats 1000000 in
theorem rd_handleEntry {g : xe_G} {m0 : Nat} {q : Nat → Nat} {z : Nat × Nat} {I : rI} {R : rR} {M : mi_H} {n : Nat} {f : Nat → Int32} {tx : List (List Nat)} {cN : Nat} {A : Nat → Nat} {N mj : Nat} {E : List (Nat × Nat)} {s1 : Nat} {k : Nat} (hR : RS g m0 q z I R M) (hi51 : I 51 = some 0) (hi52 : I 52 = some (nI N)) (hi53 : I 53 = some (nI mj)) (hi9 : I 9 = some (nI s1)) (hF : FK n f I R) (hY : SYT tx cN A I R) (hP : RPV f n E tx N I R) (hEP : EP f n E) (hN : N < 65536) (hmj : mj < 65536) (hs1 : s1 < tx.length ∧ tx.getD s1 [] = ltx 25) (ht : tg f E k = 15) (hl : ¬ lnkN f E k = 0) : pt (mT g) 212 [.ref m0, .int (nI k)] M (fun v M' => (v = some (.int (nI (hdlN f n E mj (fi f E k) (se f E k)))) ∧ M = M')) := by
  refine pt_in (b := mb_212 g) rfl (fun kf => ?_)
  show pl (mT g) kf (mb_212 g).2 (0, [(0, .ref m0), (1, .int (nI k))], [], M) _
  have hn := hF.1
  obtain ⟨p, hk, hb⟩ := tg_lk (f := f) (E := E) (k := k) (by omega)
  have ha := hP.at hk
  have hep := hEP k p hk
  have h15 := lnk_15 ht hl
  have hfi : fi f E k < 256 := by rw [fi_15 hk (by omega)]; exact by1_lt _ _
  have htl := hY.1.2.2.1
  refine ps_st (S' := (1, [(0, .ref m0), (1, .int (nI k))], [.ref m0], M)) rfl rfl rfl ?_
  refine ps_st (S' := (2, [(0, .ref m0), (1, .int (nI k))], [.ref m0, .ref m0], M)) rfl rfl rfl ?_
  refine pr_ref (j := 21) (S' := (5, [(0, .ref m0), (1, .int (nI k))], [.ref (q 21), .ref m0], M)) rfl hR rfl rfl ?_
  refine ps_st (S' := (6, [(0, .ref m0), (1, .int (nI k))], [.ref m0, .ref (q 21), .ref m0], M)) rfl rfl rfl ?_
  refine pr_int (j := 51) (S' := (9, [(0, .ref m0), (1, .int (nI k))], [.int 0, .ref (q 21), .ref m0], M)) rfl hR rfl hi51 rfl ?_
  refine ps_st (S' := (10, [(0, .ref m0), (1, .int (nI k))], [.int (nI k), .int 0, .ref (q 21), .ref m0], M)) rfl rfl rfl ?_
  refine ps_st (S' := (11, [(0, .ref m0), (1, .int (nI k))], [.int (0 + (nI k)), .ref (q 21), .ref m0], M)) rfl rfl rfl ?_
  rw [show (0 : Int32) + (nI k) = (nI k) from Int32.zero_add _]
  show pl _ _ _ (_, [(0, .ref m0), (1, .int (nI k))], [.int (nI k), .ref (q 21), .ref m0], M) _
  refine pr_ld (a := 21) (j := k) (y := (nI p)) (S' := (12, [(0, .ref m0), (1, .int (nI k))], [.int (nI p), .ref m0], M)) rfl hR rfl (by omega) (fun _ => ha.2.2) rfl (fun i1_11 => ?_)
  refine ps_st (S' := (13, [(0, .ref m0), (1, .int (nI k))], [.int 1, .int (nI p), .ref m0], M)) rfl rfl rfl ?_
  refine ps_st (S' := (14, [(0, .ref m0), (1, .int (nI k))], [.int ((nI p) + 1), .ref m0], M)) rfl rfl rfl ?_
  rw [nI_add1 (p := p) (k := 1) (x := 1) rfl (by omega)]
  show pl _ _ _ (_, [(0, .ref m0), (1, .int (nI k))], [.int (nI (p + 1)), .ref m0], M) _
  refine pl_call (a := [.ref m0, .int (nI (p + 1))]) (rest := []) rfl rfl rfl (rd_u1 (n := n) (f := f) (p := (p + 1)) hR hF (by omega)) (fun v1 M2 q3 => ?_)
  obtain ⟨rfl, rfl⟩ := q3
  show pl _ _ _ (17, [(0, .ref m0), (1, .int (nI k))], [.int (nI (by1 f (p + 1)))], M) _
  have hu_14 := by1_lt f (p + 1)
  refine pl_top (x := (nI (by1 f (p + 1)))) (y := (nI (fi f E k))) (by rw [fi_15 hk (by omega)]) ?_
  refine ps_st (S' := (18, [(2, .int (nI (fi f E k))), (0, .ref m0), (1, .int (nI k))], [], M)) rfl rfl rfl ?_
  refine ps_st (S' := (19, [(2, .int (nI (fi f E k))), (0, .ref m0), (1, .int (nI k))], [.ref m0], M)) rfl rfl rfl ?_
  refine ps_st (S' := (20, [(2, .int (nI (fi f E k))), (0, .ref m0), (1, .int (nI k))], [.int (nI k), .ref m0], M)) rfl rfl rfl ?_
  refine ps_st (S' := (21, [(2, .int (nI (fi f E k))), (0, .ref m0), (1, .int (nI k))], [.int 2, .int (nI k), .ref m0], M)) rfl rfl rfl ?_
  refine pl_call (a := [.ref m0, .int (nI k), .int 2]) (rest := []) rfl rfl rfl (rd_idx2 (n := n) (f := f) (tx := tx) (cN := cN) (A := A) (N := N) (mj := mj) (E := E) (k := k) hR hi51 hi52 hi53 hF hY hP (hEP) (hN) (hmj) (by omega)) (fun v4 M5 q6 => ?_)
  obtain ⟨rfl, rfl⟩ := q6
  show pl _ _ _ (24, [(2, .int (nI (fi f E k))), (0, .ref m0), (1, .int (nI k))], [.int (nI (se f E k))], M) _
  have hix_21 := se_lt f E k
  refine ps_st (S' := (25, [(3, .int (nI (se f E k))), (2, .int (nI (fi f E k))), (0, .ref m0), (1, .int (nI k))], [], M)) rfl rfl rfl ?_
  refine ps_st (S' := (26, [(3, .int (nI (se f E k))), (2, .int (nI (fi f E k))), (0, .ref m0), (1, .int (nI k))], [.ref m0], M)) rfl rfl rfl ?_
  refine ps_st (S' := (27, [(3, .int (nI (se f E k))), (2, .int (nI (fi f E k))), (0, .ref m0), (1, .int (nI k))], [.int (nI (se f E k)), .ref m0], M)) rfl rfl rfl ?_
  refine pl_call (a := [.ref m0, .int (nI (se f E k))]) (rest := []) rfl rfl rfl (rd_tag (n := n) (f := f) (tx := tx) (cN := cN) (A := A) (N := N) (mj := mj) (E := E) (k := (se f E k)) hR hi51 hi52 hi53 hF hY hP (hEP) (hN) (hmj) (se_lt _ _ _)) (fun v7 M8 q9 => ?_)
  obtain ⟨rfl, rfl⟩ := q9
  show pl _ _ _ (30, [(3, .int (nI (se f E k))), (2, .int (nI (fi f E k))), (0, .ref m0), (1, .int (nI k))], [.int (nI (tg f E (se f E k)))], M) _
  have htg_27 := tg_lt f E (se f E k)
  refine ps_st (S' := (32, [(4, .int (nI (tg f E (se f E k)))), (3, .int (nI (se f E k))), (2, .int (nI (fi f E k))), (0, .ref m0), (1, .int (nI k))], [], M)) rfl rfl rfl ?_
  refine ps_st (S' := (33, [(4, .int (nI (tg f E (se f E k)))), (3, .int (nI (se f E k))), (2, .int (nI (fi f E k))), (0, .ref m0), (1, .int (nI k))], [.int (nI (fi f E k))], M)) rfl rfl rfl ?_
  refine ps_st (S' := (34, [(4, .int (nI (tg f E (se f E k)))), (3, .int (nI (se f E k))), (2, .int (nI (fi f E k))), (0, .ref m0), (1, .int (nI k))], [.int 1, .int (nI (fi f E k))], M)) rfl rfl rfl ?_
  refine ps_if2 (S1 := (43, [], [], M)) (S2 := (37, [(4, .int (nI (tg f E (se f E k)))), (3, .int (nI (se f E k))), (2, .int (nI (fi f E k))), (0, .ref m0), (1, .int (nI k))], [], M)) rfl rfl rfl (fun c_34 => ?_) (fun c_34 => ?_)
  · have c_34 : (nI (fi f E k)) < 1 := of_decide_eq_true c_34
    have n_34 : fi f E k < 1 := (lt_nI (p := fi f E k) (n := 1) (Nat.lt_trans (fi_lt _ _ _) (by decide)) (by decide)).mp c_34
    refine ps_st (S' := (44, [], [.int 0], M)) rfl rfl rfl ?_
    exact ps_ret rfl rfl (⟨congrArg (fun x => some (Value.int (nI x))) (show 0 = hdlN f n E mj (fi f E k) (se f E k) from by
        unfold hdlN
        first | ((repeat first | rw [if_pos (by omega)] | rw [if_neg (by omega)]) <;> first | rfl | omega) | ((repeat' split) <;> first | rfl | (exfalso; omega) | omega)), rfl⟩)
  · have c_34 : ¬ ((nI (fi f E k)) < 1) := of_decide_eq_false c_34
    have n_34 : ¬ (fi f E k < 1) := fun h9 => c_34 ((lt_nI (p := fi f E k) (n := 1) (Nat.lt_trans (fi_lt _ _ _) (by decide)) (by decide)).mpr h9)
    refine ps_st (S' := (38, [(4, .int (nI (tg f E (se f E k)))), (3, .int (nI (se f E k))), (2, .int (nI (fi f E k))), (0, .ref m0), (1, .int (nI k))], [.int (nI (fi f E k))], M)) rfl rfl rfl ?_
    refine ps_st (S' := (40, [(4, .int (nI (tg f E (se f E k)))), (3, .int (nI (se f E k))), (2, .int (nI (fi f E k))), (0, .ref m0), (1, .int (nI k))], [.int 9, .int (nI (fi f E k))], M)) rfl rfl rfl ?_
    refine ps_if2 (S1 := (45, [(4, .int (nI (tg f E (se f E k)))), (3, .int (nI (se f E k))), (2, .int (nI (fi f E k))), (0, .ref m0), (1, .int (nI k))], [], M)) (S2 := (43, [], [], M)) rfl rfl rfl (fun c_40 => ?_) (fun c_40 => ?_)
    · have c_40 : (nI (fi f E k)) ≤ 9 := of_decide_eq_true c_40
      have n_40 : fi f E k ≤ 9 := (le_nI (p := fi f E k) (n := 9) (Nat.lt_trans (fi_lt _ _ _) (by decide)) (by decide)).mp c_40
      refine ps_st (S' := (46, [(4, .int (nI (tg f E (se f E k)))), (3, .int (nI (se f E k))), (2, .int (nI (fi f E k))), (0, .ref m0), (1, .int (nI k))], [.int (nI (fi f E k))], M)) rfl rfl rfl ?_
      refine ps_st (S' := (47, [(4, .int (nI (tg f E (se f E k)))), (3, .int (nI (se f E k))), (2, .int (nI (fi f E k))), (0, .ref m0), (1, .int (nI k))], [.int 4, .int (nI (fi f E k))], M)) rfl rfl rfl ?_
      refine ps_if2 (S1 := (63, [(4, .int (nI (tg f E (se f E k)))), (3, .int (nI (se f E k))), (2, .int (nI (fi f E k))), (0, .ref m0), (1, .int (nI k))], [], M)) (S2 := (50, [(4, .int (nI (tg f E (se f E k)))), (3, .int (nI (se f E k))), (2, .int (nI (fi f E k))), (0, .ref m0), (1, .int (nI k))], [], M)) rfl rfl rfl (fun c_47 => ?_) (fun c_47 => ?_)
      · have c_47 : 4 < (nI (fi f E k)) := of_decide_eq_true c_47
        have n_47 : 4 < fi f E k := (lt_nI (p := 4) (n := fi f E k) (by decide) (Nat.lt_trans (fi_lt _ _ _) (by decide))).mp c_47
        refine ps_st (S' := (64, [(4, .int (nI (tg f E (se f E k)))), (3, .int (nI (se f E k))), (2, .int (nI (fi f E k))), (0, .ref m0), (1, .int (nI k))], [.int (nI (fi f E k))], M)) rfl rfl rfl ?_
        refine ps_st (S' := (65, [(4, .int (nI (tg f E (se f E k)))), (3, .int (nI (se f E k))), (2, .int (nI (fi f E k))), (0, .ref m0), (1, .int (nI k))], [.int 5, .int (nI (fi f E k))], M)) rfl rfl rfl ?_
        refine ps_if2 (S1 := (74, [(0, .ref m0), (2, .int (nI (fi f E k))), (3, .int (nI (se f E k))), (4, .int (nI (tg f E (se f E k))))], [], M)) (S2 := (68, [(4, .int (nI (tg f E (se f E k)))), (3, .int (nI (se f E k))), (2, .int (nI (fi f E k))), (0, .ref m0), (1, .int (nI k))], [], M)) rfl rfl rfl (fun c_65 => ?_) (fun c_65 => ?_)
        · have c_65 : (nI (fi f E k)) = 5 := of_decide_eq_true c_65
          have n_65 : fi f E k = 5 := (eq_nI (p := fi f E k) (n := 5) (Nat.lt_trans (fi_lt _ _ _) (by decide)) (by decide)).mp c_65
          refine ps_st (S' := (76, [(0, .ref m0), (2, .int (nI (fi f E k))), (3, .int (nI (se f E k))), (4, .int (nI (tg f E (se f E k))))], [.int (nI (tg f E (se f E k)))], M)) rfl rfl rfl ?_
          refine ps_st (S' := (78, [(0, .ref m0), (2, .int (nI (fi f E k))), (3, .int (nI (se f E k))), (4, .int (nI (tg f E (se f E k))))], [.int 10, .int (nI (tg f E (se f E k)))], M)) rfl rfl rfl ?_
          refine ps_if2 (S1 := (123, [], [], M)) (S2 := (81, [(0, .ref m0), (2, .int (nI (fi f E k))), (3, .int (nI (se f E k))), (4, .int (nI (tg f E (se f E k))))], [], M)) rfl rfl rfl (fun c_78 => ?_) (fun c_78 => ?_)
          · have c_78 : ¬ (nI (tg f E (se f E k))) = 10 := of_decide_eq_true c_78
            have n_78 : ¬ (tg f E (se f E k) = 10) := fun h9 => c_78 ((eq_nI (p := tg f E (se f E k)) (n := 10) (Nat.lt_trans (tg_lt _ _ _) (by decide)) (by decide)).mpr h9)
            refine ps_st (S' := (124, [], [.int 0], M)) rfl rfl rfl ?_
            exact ps_ret rfl rfl (⟨congrArg (fun x => some (Value.int (nI x))) (show 0 = hdlN f n E mj (fi f E k) (se f E k) from by
                unfold hdlN
                first | ((repeat first | rw [if_pos (by omega)] | rw [if_neg (by omega)]) <;> first | rfl | omega) | ((repeat' split) <;> first | rfl | (exfalso; omega) | omega)), rfl⟩)
          · have c_78 : ¬ (¬ (nI (tg f E (se f E k))) = 10) := of_decide_eq_false c_78
            have n_78 : tg f E (se f E k) = 10 := (eq_nI (p := tg f E (se f E k)) (n := 10) (Nat.lt_trans (tg_lt _ _ _) (by decide)) (by decide)).mp (Decidable.not_not.mp c_78)
            refine ps_st (S' := (125, [(0, .ref m0), (2, .int (nI (fi f E k))), (3, .int (nI (se f E k)))], [], M)) rfl rfl rfl ?_
            refine ps_st (S' := (126, [(0, .ref m0), (2, .int (nI (fi f E k))), (3, .int (nI (se f E k)))], [.ref m0], M)) rfl rfl rfl ?_
            refine ps_st (S' := (127, [(0, .ref m0), (2, .int (nI (fi f E k))), (3, .int (nI (se f E k)))], [.ref m0, .ref m0], M)) rfl rfl rfl ?_
            refine ps_st (S' := (128, [(0, .ref m0), (2, .int (nI (fi f E k))), (3, .int (nI (se f E k)))], [.ref m0, .ref m0, .ref m0], M)) rfl rfl rfl ?_
            refine ps_st (S' := (129, [(0, .ref m0), (2, .int (nI (fi f E k))), (3, .int (nI (se f E k)))], [.int (nI (se f E k)), .ref m0, .ref m0, .ref m0], M)) rfl rfl rfl ?_
            refine ps_st (S' := (130, [(0, .ref m0), (2, .int (nI (fi f E k))), (3, .int (nI (se f E k)))], [.int 3, .int (nI (se f E k)), .ref m0, .ref m0, .ref m0], M)) rfl rfl rfl ?_
            refine pl_call (a := [.ref m0, .int (nI (se f E k)), .int 3]) (rest := [.ref m0, .ref m0]) rfl rfl rfl (rd_idx3 (n := n) (f := f) (tx := tx) (cN := cN) (A := A) (N := N) (mj := mj) (E := E) (k := (se f E k)) hR hi51 hi52 hi53 hF hY hP (hEP) (hN) (hmj) (by omega)) (fun v10 M11 q12 => ?_)
            obtain ⟨rfl, rfl⟩ := q12
            show pl _ _ _ (133, [(0, .ref m0), (2, .int (nI (fi f E k))), (3, .int (nI (se f E k)))], [.int (nI (se f E (se f E k))), .ref m0, .ref m0], M) _
            have hix_130 := se_lt f E (se f E k)
            refine ps_st (S' := (134, [(0, .ref m0), (2, .int (nI (fi f E k))), (3, .int (nI (se f E k)))], [.int 1, .int (nI (se f E (se f E k))), .ref m0, .ref m0], M)) rfl rfl rfl ?_
            refine pl_call (a := [.ref m0, .int (nI (se f E (se f E k))), .int 1]) (rest := [.ref m0]) rfl rfl rfl (rd_idx1 (n := n) (f := f) (tx := tx) (cN := cN) (A := A) (N := N) (mj := mj) (E := E) (k := (se f E (se f E k))) hR hi51 hi52 hi53 hF hY hP (hEP) (hN) (hmj) (by omega)) (fun v13 M14 q15 => ?_)
            obtain ⟨rfl, rfl⟩ := q15
            show pl _ _ _ (137, [(0, .ref m0), (2, .int (nI (fi f E k))), (3, .int (nI (se f E k)))], [.int (nI (fi f E (se f E (se f E k)))), .ref m0], M) _
            have hix_134 := fi_lt f E (se f E (se f E k))
            refine pl_call (a := [.ref m0, .int (nI (fi f E (se f E (se f E k))))]) (rest := []) rfl rfl rfl (rd_symOf (n := n) (f := f) (tx := tx) (cN := cN) (A := A) (N := N) (mj := mj) (E := E) (k := (fi f E (se f E (se f E k)))) hR hi51 hi52 hi53 hF hY hP (hEP) (hN) (hmj) (by omega)) (fun v16 M17 q18 => ?_)
            obtain ⟨s19, q137_s, rfl, rfl⟩ := q18
            show pl _ _ _ (140, [(0, .ref m0), (2, .int (nI (fi f E k))), (3, .int (nI (se f E k)))], [.int (nI s19)], M) _
            have hsl_137 := q137_s.1
            have htl_137 := hY.1.2.2.1
            refine ps_st (S' := (142, [(5, .int (nI s19)), (0, .ref m0), (2, .int (nI (fi f E k))), (3, .int (nI (se f E k)))], [], M)) rfl rfl rfl ?_
            refine ps_st (S' := (143, [(5, .int (nI s19)), (0, .ref m0), (2, .int (nI (fi f E k))), (3, .int (nI (se f E k)))], [.int (nI (fi f E k))], M)) rfl rfl rfl ?_
            refine ps_st (S' := (145, [(5, .int (nI s19)), (0, .ref m0), (2, .int (nI (fi f E k))), (3, .int (nI (se f E k)))], [.int 8, .int (nI (fi f E k))], M)) rfl rfl rfl ?_
            refine ps_if2 (S1 := (152, [(5, .int (nI s19)), (0, .ref m0), (2, .int (nI (fi f E k))), (3, .int (nI (se f E k)))], [], M)) (S2 := (148, [(5, .int (nI s19)), (0, .ref m0), (2, .int (nI (fi f E k))), (3, .int (nI (se f E k)))], [], M)) rfl rfl rfl (fun c_145 => ?_) (fun c_145 => ?_)
            rotate_left
            · exact absurd (show ¬ ((nI (fi f E k)) = 8) from fun h9 => absurd ((eq_nI (p := fi f E k) (n := 8) (Nat.lt_trans (fi_lt _ _ _) (by decide)) (by decide)).mp h9) (by omega)) (of_decide_eq_false c_145)
            refine ps_st (S' := (153, [(0, .ref m0), (5, .int (nI s19))], [.int 0], M)) rfl rfl rfl ?_
            have he9 := sym_eq hY q137_s hs1
            rw [lt_eq.1] at he9
            refine ps_st (S' := (155, [(0, .ref m0), (5, .int (nI s19))], [.int (nI s19), .int 0], M)) rfl rfl rfl ?_
            refine ps_st (S' := (156, [(0, .ref m0), (5, .int (nI s19))], [.ref m0, .int (nI s19), .int 0], M)) rfl rfl rfl ?_
            refine pr_int (j := 9) (S' := (159, [(0, .ref m0), (5, .int (nI s19))], [.int (nI s1), .int (nI s19), .int 0], M)) rfl hR rfl hi9 rfl ?_
            refine ps_if2 (S1 := (166, [(0, .ref m0), (5, .int (nI s19))], [.int 0], M)) (S2 := (162, [(0, .ref m0), (5, .int (nI s19))], [.int 0], M)) rfl rfl rfl (fun c_159 => ?_) (fun c_159 => ?_)
            · have c_159 : ¬ (nI s19) = (nI s1) := of_decide_eq_true c_159
              have n_159 : ¬ (s19 = s1) := fun h9 => c_159 ((eq_nI (p := s19) (n := s1) (by omega) (by omega)).mpr h9)
              refine ps_st (S' := (167, [], [.int 0, .int 0], M)) rfl rfl rfl ?_
              refine ps_if2 (S1 := (174, [], [], M)) (S2 := (170, [], [], M)) rfl rfl rfl (fun c_167 => ?_) (fun c_167 => ?_)
              · exact absurd (of_decide_eq_true c_167) (by decide)
              refine ps_st (S' := (171, [], [.int 1], M)) rfl rfl rfl ?_
              refine ps_st (S' := (175, [], [.int 1], M)) rfl rfl rfl ?_
              exact ps_ret rfl rfl (⟨congrArg (fun x => some (Value.int (nI x))) (show 1 = hdlN f n E mj (fi f E k) (se f E k) from by
                  unfold hdlN
                  first | ((repeat first | rw [if_pos (by omega)] | rw [if_neg (by omega)]) <;> first | rfl | omega) | ((repeat' split) <;> first | rfl | (exfalso; omega) | omega)), rfl⟩)
            · have c_159 : ¬ (¬ (nI s19) = (nI s1)) := of_decide_eq_false c_159
              have n_159 : s19 = s1 := (eq_nI (p := s19) (n := s1) (by omega) (by omega)).mp (Decidable.not_not.mp c_159)
              refine ps_st (S' := (163, [(0, .ref m0), (5, .int (nI s19))], [.int 1, .int 0], M)) rfl rfl rfl ?_
              refine ps_st (S' := (167, [], [.int 1, .int 0], M)) rfl rfl rfl ?_
              refine ps_if2 (S1 := (174, [], [], M)) (S2 := (170, [], [], M)) rfl rfl rfl (fun c_167 => ?_) (fun c_167 => ?_)
              rotate_left
              · exact absurd (by decide) (of_decide_eq_false c_167)
              refine ps_st (S' := (175, [], [.int 0], M)) rfl rfl rfl ?_
              exact ps_ret rfl rfl (⟨congrArg (fun x => some (Value.int (nI x))) (show 0 = hdlN f n E mj (fi f E k) (se f E k) from by
                  unfold hdlN
                  first | ((repeat first | rw [if_pos (by omega)] | rw [if_neg (by omega)]) <;> first | rfl | omega) | ((repeat' split) <;> first | rfl | (exfalso; omega) | omega)), rfl⟩)
        · have c_65 : ¬ ((nI (fi f E k)) = 5) := of_decide_eq_false c_65
          have n_65 : ¬ (fi f E k = 5) := fun h9 => c_65 ((eq_nI (p := fi f E k) (n := 5) (Nat.lt_trans (fi_lt _ _ _) (by decide)) (by decide)).mpr h9)
          refine ps_st (S' := (69, [(4, .int (nI (tg f E (se f E k)))), (3, .int (nI (se f E k))), (2, .int (nI (fi f E k))), (0, .ref m0), (1, .int (nI k))], [.int (nI (fi f E k))], M)) rfl rfl rfl ?_
          refine ps_st (S' := (71, [(4, .int (nI (tg f E (se f E k)))), (3, .int (nI (se f E k))), (2, .int (nI (fi f E k))), (0, .ref m0), (1, .int (nI k))], [.int 8, .int (nI (fi f E k))], M)) rfl rfl rfl ?_
          refine ps_if2 (S1 := (84, [(4, .int (nI (tg f E (se f E k)))), (3, .int (nI (se f E k))), (2, .int (nI (fi f E k))), (0, .ref m0), (1, .int (nI k))], [], M)) (S2 := (74, [(0, .ref m0), (2, .int (nI (fi f E k))), (3, .int (nI (se f E k))), (4, .int (nI (tg f E (se f E k))))], [], M)) rfl rfl rfl (fun c_71 => ?_) (fun c_71 => ?_)
          · have c_71 : ¬ (nI (fi f E k)) = 8 := of_decide_eq_true c_71
            have n_71 : ¬ (fi f E k = 8) := fun h9 => c_71 ((eq_nI (p := fi f E k) (n := 8) (Nat.lt_trans (fi_lt _ _ _) (by decide)) (by decide)).mpr h9)
            refine ps_st (S' := (85, [(4, .int (nI (tg f E (se f E k)))), (3, .int (nI (se f E k))), (2, .int (nI (fi f E k))), (0, .ref m0), (1, .int (nI k))], [.int (nI (fi f E k))], M)) rfl rfl rfl ?_
            refine ps_st (S' := (87, [(4, .int (nI (tg f E (se f E k)))), (3, .int (nI (se f E k))), (2, .int (nI (fi f E k))), (0, .ref m0), (1, .int (nI k))], [.int 9, .int (nI (fi f E k))], M)) rfl rfl rfl ?_
            refine ps_if2 (S1 := (100, [(4, .int (nI (tg f E (se f E k)))), (3, .int (nI (se f E k))), (2, .int (nI (fi f E k))), (0, .ref m0), (1, .int (nI k))], [], M)) (S2 := (90, [(4, .int (nI (tg f E (se f E k)))), (3, .int (nI (se f E k))), (2, .int (nI (fi f E k))), (0, .ref m0), (1, .int (nI k))], [], M)) rfl rfl rfl (fun c_87 => ?_) (fun c_87 => ?_)
            · have c_87 : ¬ (nI (fi f E k)) = 9 := of_decide_eq_true c_87
              have n_87 : ¬ (fi f E k = 9) := fun h9 => c_87 ((eq_nI (p := fi f E k) (n := 9) (Nat.lt_trans (fi_lt _ _ _) (by decide)) (by decide)).mpr h9)
              refine ps_st (S' := (102, [(4, .int (nI (tg f E (se f E k)))), (3, .int (nI (se f E k))), (2, .int (nI (fi f E k))), (0, .ref m0), (1, .int (nI k))], [.int (nI (tg f E (se f E k)))], M)) rfl rfl rfl ?_
              refine ps_st (S' := (104, [(4, .int (nI (tg f E (se f E k)))), (3, .int (nI (se f E k))), (2, .int (nI (fi f E k))), (0, .ref m0), (1, .int (nI k))], [.int 10, .int (nI (tg f E (se f E k)))], M)) rfl rfl rfl ?_
              refine ps_if2 (S1 := (125, [(0, .ref m0), (2, .int (nI (fi f E k))), (3, .int (nI (se f E k)))], [], M)) (S2 := (107, [(4, .int (nI (tg f E (se f E k)))), (3, .int (nI (se f E k))), (2, .int (nI (fi f E k))), (0, .ref m0), (1, .int (nI k))], [], M)) rfl rfl rfl (fun c_104 => ?_) (fun c_104 => ?_)
              · have c_104 : (nI (tg f E (se f E k))) = 10 := of_decide_eq_true c_104
                have n_104 : tg f E (se f E k) = 10 := (eq_nI (p := tg f E (se f E k)) (n := 10) (Nat.lt_trans (tg_lt _ _ _) (by decide)) (by decide)).mp c_104
                refine ps_st (S' := (126, [(0, .ref m0), (2, .int (nI (fi f E k))), (3, .int (nI (se f E k)))], [.ref m0], M)) rfl rfl rfl ?_
                refine ps_st (S' := (127, [(0, .ref m0), (2, .int (nI (fi f E k))), (3, .int (nI (se f E k)))], [.ref m0, .ref m0], M)) rfl rfl rfl ?_
                refine ps_st (S' := (128, [(0, .ref m0), (2, .int (nI (fi f E k))), (3, .int (nI (se f E k)))], [.ref m0, .ref m0, .ref m0], M)) rfl rfl rfl ?_
                refine ps_st (S' := (129, [(0, .ref m0), (2, .int (nI (fi f E k))), (3, .int (nI (se f E k)))], [.int (nI (se f E k)), .ref m0, .ref m0, .ref m0], M)) rfl rfl rfl ?_
                refine ps_st (S' := (130, [(0, .ref m0), (2, .int (nI (fi f E k))), (3, .int (nI (se f E k)))], [.int 3, .int (nI (se f E k)), .ref m0, .ref m0, .ref m0], M)) rfl rfl rfl ?_
                refine pl_call (a := [.ref m0, .int (nI (se f E k)), .int 3]) (rest := [.ref m0, .ref m0]) rfl rfl rfl (rd_idx3 (n := n) (f := f) (tx := tx) (cN := cN) (A := A) (N := N) (mj := mj) (E := E) (k := (se f E k)) hR hi51 hi52 hi53 hF hY hP (hEP) (hN) (hmj) (by omega)) (fun v20 M21 q22 => ?_)
                obtain ⟨rfl, rfl⟩ := q22
                show pl _ _ _ (133, [(0, .ref m0), (2, .int (nI (fi f E k))), (3, .int (nI (se f E k)))], [.int (nI (se f E (se f E k))), .ref m0, .ref m0], M) _
                have hix_130 := se_lt f E (se f E k)
                refine ps_st (S' := (134, [(0, .ref m0), (2, .int (nI (fi f E k))), (3, .int (nI (se f E k)))], [.int 1, .int (nI (se f E (se f E k))), .ref m0, .ref m0], M)) rfl rfl rfl ?_
                refine pl_call (a := [.ref m0, .int (nI (se f E (se f E k))), .int 1]) (rest := [.ref m0]) rfl rfl rfl (rd_idx1 (n := n) (f := f) (tx := tx) (cN := cN) (A := A) (N := N) (mj := mj) (E := E) (k := (se f E (se f E k))) hR hi51 hi52 hi53 hF hY hP (hEP) (hN) (hmj) (by omega)) (fun v23 M24 q25 => ?_)
                obtain ⟨rfl, rfl⟩ := q25
                show pl _ _ _ (137, [(0, .ref m0), (2, .int (nI (fi f E k))), (3, .int (nI (se f E k)))], [.int (nI (fi f E (se f E (se f E k)))), .ref m0], M) _
                have hix_134 := fi_lt f E (se f E (se f E k))
                refine pl_call (a := [.ref m0, .int (nI (fi f E (se f E (se f E k))))]) (rest := []) rfl rfl rfl (rd_symOf (n := n) (f := f) (tx := tx) (cN := cN) (A := A) (N := N) (mj := mj) (E := E) (k := (fi f E (se f E (se f E k)))) hR hi51 hi52 hi53 hF hY hP (hEP) (hN) (hmj) (by omega)) (fun v26 M27 q28 => ?_)
                obtain ⟨s29, q137_s, rfl, rfl⟩ := q28
                show pl _ _ _ (140, [(0, .ref m0), (2, .int (nI (fi f E k))), (3, .int (nI (se f E k)))], [.int (nI s29)], M) _
                have hsl_137 := q137_s.1
                have htl_137 := hY.1.2.2.1
                refine ps_st (S' := (142, [(5, .int (nI s29)), (0, .ref m0), (2, .int (nI (fi f E k))), (3, .int (nI (se f E k)))], [], M)) rfl rfl rfl ?_
                refine ps_st (S' := (143, [(5, .int (nI s29)), (0, .ref m0), (2, .int (nI (fi f E k))), (3, .int (nI (se f E k)))], [.int (nI (fi f E k))], M)) rfl rfl rfl ?_
                refine ps_st (S' := (145, [(5, .int (nI s29)), (0, .ref m0), (2, .int (nI (fi f E k))), (3, .int (nI (se f E k)))], [.int 8, .int (nI (fi f E k))], M)) rfl rfl rfl ?_
                refine ps_if2 (S1 := (152, [(5, .int (nI s29)), (0, .ref m0), (2, .int (nI (fi f E k))), (3, .int (nI (se f E k)))], [], M)) (S2 := (148, [(5, .int (nI s29)), (0, .ref m0), (2, .int (nI (fi f E k))), (3, .int (nI (se f E k)))], [], M)) rfl rfl rfl (fun c_145 => ?_) (fun c_145 => ?_)
                rotate_left
                · exact absurd (show ¬ ((nI (fi f E k)) = 8) from fun h9 => absurd ((eq_nI (p := fi f E k) (n := 8) (Nat.lt_trans (fi_lt _ _ _) (by decide)) (by decide)).mp h9) (by omega)) (of_decide_eq_false c_145)
                refine ps_st (S' := (153, [(0, .ref m0), (5, .int (nI s29))], [.int 0], M)) rfl rfl rfl ?_
                have he9 := sym_eq hY q137_s hs1
                rw [lt_eq.1] at he9
                refine ps_st (S' := (155, [(0, .ref m0), (5, .int (nI s29))], [.int (nI s29), .int 0], M)) rfl rfl rfl ?_
                refine ps_st (S' := (156, [(0, .ref m0), (5, .int (nI s29))], [.ref m0, .int (nI s29), .int 0], M)) rfl rfl rfl ?_
                refine pr_int (j := 9) (S' := (159, [(0, .ref m0), (5, .int (nI s29))], [.int (nI s1), .int (nI s29), .int 0], M)) rfl hR rfl hi9 rfl ?_
                refine ps_if2 (S1 := (166, [(0, .ref m0), (5, .int (nI s29))], [.int 0], M)) (S2 := (162, [(0, .ref m0), (5, .int (nI s29))], [.int 0], M)) rfl rfl rfl (fun c_159 => ?_) (fun c_159 => ?_)
                · have c_159 : ¬ (nI s29) = (nI s1) := of_decide_eq_true c_159
                  have n_159 : ¬ (s29 = s1) := fun h9 => c_159 ((eq_nI (p := s29) (n := s1) (by omega) (by omega)).mpr h9)
                  refine ps_st (S' := (167, [], [.int 0, .int 0], M)) rfl rfl rfl ?_
                  refine ps_if2 (S1 := (174, [], [], M)) (S2 := (170, [], [], M)) rfl rfl rfl (fun c_167 => ?_) (fun c_167 => ?_)
                  · exact absurd (of_decide_eq_true c_167) (by decide)
                  refine ps_st (S' := (171, [], [.int 1], M)) rfl rfl rfl ?_
                  refine ps_st (S' := (175, [], [.int 1], M)) rfl rfl rfl ?_
                  exact ps_ret rfl rfl (⟨congrArg (fun x => some (Value.int (nI x))) (show 1 = hdlN f n E mj (fi f E k) (se f E k) from by
                      unfold hdlN
                      first | ((repeat first | rw [if_pos (by omega)] | rw [if_neg (by omega)]) <;> first | rfl | omega) | ((repeat' split) <;> first | rfl | (exfalso; omega) | omega)), rfl⟩)
                · have c_159 : ¬ (¬ (nI s29) = (nI s1)) := of_decide_eq_false c_159
                  have n_159 : s29 = s1 := (eq_nI (p := s29) (n := s1) (by omega) (by omega)).mp (Decidable.not_not.mp c_159)
                  refine ps_st (S' := (163, [(0, .ref m0), (5, .int (nI s29))], [.int 1, .int 0], M)) rfl rfl rfl ?_
                  refine ps_st (S' := (167, [], [.int 1, .int 0], M)) rfl rfl rfl ?_
                  refine ps_if2 (S1 := (174, [], [], M)) (S2 := (170, [], [], M)) rfl rfl rfl (fun c_167 => ?_) (fun c_167 => ?_)
                  rotate_left
                  · exact absurd (by decide) (of_decide_eq_false c_167)
                  refine ps_st (S' := (175, [], [.int 0], M)) rfl rfl rfl ?_
                  exact ps_ret rfl rfl (⟨congrArg (fun x => some (Value.int (nI x))) (show 0 = hdlN f n E mj (fi f E k) (se f E k) from by
                      unfold hdlN
                      first | ((repeat first | rw [if_pos (by omega)] | rw [if_neg (by omega)]) <;> first | rfl | omega) | ((repeat' split) <;> first | rfl | (exfalso; omega) | omega)), rfl⟩)
              · have c_104 : ¬ ((nI (tg f E (se f E k))) = 10) := of_decide_eq_false c_104
                have n_104 : ¬ (tg f E (se f E k) = 10) := fun h9 => c_104 ((eq_nI (p := tg f E (se f E k)) (n := 10) (Nat.lt_trans (tg_lt _ _ _) (by decide)) (by decide)).mpr h9)
                refine ps_st (S' := (109, [(4, .int (nI (tg f E (se f E k)))), (3, .int (nI (se f E k))), (2, .int (nI (fi f E k))), (0, .ref m0), (1, .int (nI k))], [.int (nI (tg f E (se f E k)))], M)) rfl rfl rfl ?_
                refine ps_st (S' := (111, [(4, .int (nI (tg f E (se f E k)))), (3, .int (nI (se f E k))), (2, .int (nI (fi f E k))), (0, .ref m0), (1, .int (nI k))], [.int 11, .int (nI (tg f E (se f E k)))], M)) rfl rfl rfl ?_
                refine ps_if2 (S1 := (123, [], [], M)) (S2 := (114, [(4, .int (nI (tg f E (se f E k)))), (3, .int (nI (se f E k))), (2, .int (nI (fi f E k))), (0, .ref m0), (1, .int (nI k))], [], M)) rfl rfl rfl (fun c_111 => ?_) (fun c_111 => ?_)
                · have c_111 : ¬ (nI (tg f E (se f E k))) = 11 := of_decide_eq_true c_111
                  have n_111 : ¬ (tg f E (se f E k) = 11) := fun h9 => c_111 ((eq_nI (p := tg f E (se f E k)) (n := 11) (Nat.lt_trans (tg_lt _ _ _) (by decide)) (by decide)).mpr h9)
                  refine ps_st (S' := (124, [], [.int 0], M)) rfl rfl rfl ?_
                  exact ps_ret rfl rfl (⟨congrArg (fun x => some (Value.int (nI x))) (show 0 = hdlN f n E mj (fi f E k) (se f E k) from by
                      unfold hdlN
                      first | ((repeat first | rw [if_pos (by omega)] | rw [if_neg (by omega)]) <;> first | rfl | omega) | ((repeat' split) <;> first | rfl | (exfalso; omega) | omega)), rfl⟩)
                · have c_111 : ¬ (¬ (nI (tg f E (se f E k))) = 11) := of_decide_eq_false c_111
                  have n_111 : tg f E (se f E k) = 11 := (eq_nI (p := tg f E (se f E k)) (n := 11) (Nat.lt_trans (tg_lt _ _ _) (by decide)) (by decide)).mp (Decidable.not_not.mp c_111)
                  refine ps_st (S' := (115, [(4, .int (nI (tg f E (se f E k)))), (3, .int (nI (se f E k))), (2, .int (nI (fi f E k))), (0, .ref m0), (1, .int (nI k))], [.ref m0], M)) rfl rfl rfl ?_
                  refine pr_int (j := 53) (S' := (118, [(4, .int (nI (tg f E (se f E k)))), (3, .int (nI (se f E k))), (2, .int (nI (fi f E k))), (0, .ref m0), (1, .int (nI k))], [.int (nI mj)], M)) rfl hR rfl hi53 rfl ?_
                  refine ps_st (S' := (120, [(4, .int (nI (tg f E (se f E k)))), (3, .int (nI (se f E k))), (2, .int (nI (fi f E k))), (0, .ref m0), (1, .int (nI k))], [.int 52, .int (nI mj)], M)) rfl rfl rfl ?_
                  refine ps_if2 (S1 := (125, [(0, .ref m0), (2, .int (nI (fi f E k))), (3, .int (nI (se f E k)))], [], M)) (S2 := (123, [], [], M)) rfl rfl rfl (fun c_120 => ?_) (fun c_120 => ?_)
                  · have c_120 : 52 ≤ (nI mj) := of_decide_eq_true c_120
                    have n_120 : 52 ≤ mj := (le_nI (p := 52) (n := mj) (by decide) (by omega)).mp c_120
                    refine ps_st (S' := (126, [(0, .ref m0), (2, .int (nI (fi f E k))), (3, .int (nI (se f E k)))], [.ref m0], M)) rfl rfl rfl ?_
                    refine ps_st (S' := (127, [(0, .ref m0), (2, .int (nI (fi f E k))), (3, .int (nI (se f E k)))], [.ref m0, .ref m0], M)) rfl rfl rfl ?_
                    refine ps_st (S' := (128, [(0, .ref m0), (2, .int (nI (fi f E k))), (3, .int (nI (se f E k)))], [.ref m0, .ref m0, .ref m0], M)) rfl rfl rfl ?_
                    refine ps_st (S' := (129, [(0, .ref m0), (2, .int (nI (fi f E k))), (3, .int (nI (se f E k)))], [.int (nI (se f E k)), .ref m0, .ref m0, .ref m0], M)) rfl rfl rfl ?_
                    refine ps_st (S' := (130, [(0, .ref m0), (2, .int (nI (fi f E k))), (3, .int (nI (se f E k)))], [.int 3, .int (nI (se f E k)), .ref m0, .ref m0, .ref m0], M)) rfl rfl rfl ?_
                    refine pl_call (a := [.ref m0, .int (nI (se f E k)), .int 3]) (rest := [.ref m0, .ref m0]) rfl rfl rfl (rd_idx3 (n := n) (f := f) (tx := tx) (cN := cN) (A := A) (N := N) (mj := mj) (E := E) (k := (se f E k)) hR hi51 hi52 hi53 hF hY hP (hEP) (hN) (hmj) (by omega)) (fun v30 M31 q32 => ?_)
                    obtain ⟨rfl, rfl⟩ := q32
                    show pl _ _ _ (133, [(0, .ref m0), (2, .int (nI (fi f E k))), (3, .int (nI (se f E k)))], [.int (nI (se f E (se f E k))), .ref m0, .ref m0], M) _
                    have hix_130 := se_lt f E (se f E k)
                    refine ps_st (S' := (134, [(0, .ref m0), (2, .int (nI (fi f E k))), (3, .int (nI (se f E k)))], [.int 1, .int (nI (se f E (se f E k))), .ref m0, .ref m0], M)) rfl rfl rfl ?_
                    refine pl_call (a := [.ref m0, .int (nI (se f E (se f E k))), .int 1]) (rest := [.ref m0]) rfl rfl rfl (rd_idx1 (n := n) (f := f) (tx := tx) (cN := cN) (A := A) (N := N) (mj := mj) (E := E) (k := (se f E (se f E k))) hR hi51 hi52 hi53 hF hY hP (hEP) (hN) (hmj) (by omega)) (fun v33 M34 q35 => ?_)
                    obtain ⟨rfl, rfl⟩ := q35
                    show pl _ _ _ (137, [(0, .ref m0), (2, .int (nI (fi f E k))), (3, .int (nI (se f E k)))], [.int (nI (fi f E (se f E (se f E k)))), .ref m0], M) _
                    have hix_134 := fi_lt f E (se f E (se f E k))
                    refine pl_call (a := [.ref m0, .int (nI (fi f E (se f E (se f E k))))]) (rest := []) rfl rfl rfl (rd_symOf (n := n) (f := f) (tx := tx) (cN := cN) (A := A) (N := N) (mj := mj) (E := E) (k := (fi f E (se f E (se f E k)))) hR hi51 hi52 hi53 hF hY hP (hEP) (hN) (hmj) (by omega)) (fun v36 M37 q38 => ?_)
                    obtain ⟨s39, q137_s, rfl, rfl⟩ := q38
                    show pl _ _ _ (140, [(0, .ref m0), (2, .int (nI (fi f E k))), (3, .int (nI (se f E k)))], [.int (nI s39)], M) _
                    have hsl_137 := q137_s.1
                    have htl_137 := hY.1.2.2.1
                    refine ps_st (S' := (142, [(5, .int (nI s39)), (0, .ref m0), (2, .int (nI (fi f E k))), (3, .int (nI (se f E k)))], [], M)) rfl rfl rfl ?_
                    refine ps_st (S' := (143, [(5, .int (nI s39)), (0, .ref m0), (2, .int (nI (fi f E k))), (3, .int (nI (se f E k)))], [.int (nI (fi f E k))], M)) rfl rfl rfl ?_
                    refine ps_st (S' := (145, [(5, .int (nI s39)), (0, .ref m0), (2, .int (nI (fi f E k))), (3, .int (nI (se f E k)))], [.int 8, .int (nI (fi f E k))], M)) rfl rfl rfl ?_
                    refine ps_if2 (S1 := (152, [(5, .int (nI s39)), (0, .ref m0), (2, .int (nI (fi f E k))), (3, .int (nI (se f E k)))], [], M)) (S2 := (148, [(5, .int (nI s39)), (0, .ref m0), (2, .int (nI (fi f E k))), (3, .int (nI (se f E k)))], [], M)) rfl rfl rfl (fun c_145 => ?_) (fun c_145 => ?_)
                    rotate_left
                    · exact absurd (show ¬ ((nI (fi f E k)) = 8) from fun h9 => absurd ((eq_nI (p := fi f E k) (n := 8) (Nat.lt_trans (fi_lt _ _ _) (by decide)) (by decide)).mp h9) (by omega)) (of_decide_eq_false c_145)
                    refine ps_st (S' := (153, [(0, .ref m0), (5, .int (nI s39))], [.int 0], M)) rfl rfl rfl ?_
                    have he9 := sym_eq hY q137_s hs1
                    rw [lt_eq.1] at he9
                    refine ps_st (S' := (155, [(0, .ref m0), (5, .int (nI s39))], [.int (nI s39), .int 0], M)) rfl rfl rfl ?_
                    refine ps_st (S' := (156, [(0, .ref m0), (5, .int (nI s39))], [.ref m0, .int (nI s39), .int 0], M)) rfl rfl rfl ?_
                    refine pr_int (j := 9) (S' := (159, [(0, .ref m0), (5, .int (nI s39))], [.int (nI s1), .int (nI s39), .int 0], M)) rfl hR rfl hi9 rfl ?_
                    refine ps_if2 (S1 := (166, [(0, .ref m0), (5, .int (nI s39))], [.int 0], M)) (S2 := (162, [(0, .ref m0), (5, .int (nI s39))], [.int 0], M)) rfl rfl rfl (fun c_159 => ?_) (fun c_159 => ?_)
                    · have c_159 : ¬ (nI s39) = (nI s1) := of_decide_eq_true c_159
                      have n_159 : ¬ (s39 = s1) := fun h9 => c_159 ((eq_nI (p := s39) (n := s1) (by omega) (by omega)).mpr h9)
                      refine ps_st (S' := (167, [], [.int 0, .int 0], M)) rfl rfl rfl ?_
                      refine ps_if2 (S1 := (174, [], [], M)) (S2 := (170, [], [], M)) rfl rfl rfl (fun c_167 => ?_) (fun c_167 => ?_)
                      · exact absurd (of_decide_eq_true c_167) (by decide)
                      refine ps_st (S' := (171, [], [.int 1], M)) rfl rfl rfl ?_
                      refine ps_st (S' := (175, [], [.int 1], M)) rfl rfl rfl ?_
                      exact ps_ret rfl rfl (⟨congrArg (fun x => some (Value.int (nI x))) (show 1 = hdlN f n E mj (fi f E k) (se f E k) from by
                          unfold hdlN
                          first | ((repeat first | rw [if_pos (by omega)] | rw [if_neg (by omega)]) <;> first | rfl | omega) | ((repeat' split) <;> first | rfl | (exfalso; omega) | omega)), rfl⟩)
                    · have c_159 : ¬ (¬ (nI s39) = (nI s1)) := of_decide_eq_false c_159
                      have n_159 : s39 = s1 := (eq_nI (p := s39) (n := s1) (by omega) (by omega)).mp (Decidable.not_not.mp c_159)
                      refine ps_st (S' := (163, [(0, .ref m0), (5, .int (nI s39))], [.int 1, .int 0], M)) rfl rfl rfl ?_
                      refine ps_st (S' := (167, [], [.int 1, .int 0], M)) rfl rfl rfl ?_
                      refine ps_if2 (S1 := (174, [], [], M)) (S2 := (170, [], [], M)) rfl rfl rfl (fun c_167 => ?_) (fun c_167 => ?_)
                      rotate_left
                      · exact absurd (by decide) (of_decide_eq_false c_167)
                      refine ps_st (S' := (175, [], [.int 0], M)) rfl rfl rfl ?_
                      exact ps_ret rfl rfl (⟨congrArg (fun x => some (Value.int (nI x))) (show 0 = hdlN f n E mj (fi f E k) (se f E k) from by
                          unfold hdlN
                          first | ((repeat first | rw [if_pos (by omega)] | rw [if_neg (by omega)]) <;> first | rfl | omega) | ((repeat' split) <;> first | rfl | (exfalso; omega) | omega)), rfl⟩)
                  · have c_120 : ¬ (52 ≤ (nI mj)) := of_decide_eq_false c_120
                    have n_120 : ¬ (52 ≤ mj) := fun h9 => c_120 ((le_nI (p := 52) (n := mj) (by decide) (by omega)).mpr h9)
                    refine ps_st (S' := (124, [], [.int 0], M)) rfl rfl rfl ?_
                    exact ps_ret rfl rfl (⟨congrArg (fun x => some (Value.int (nI x))) (show 0 = hdlN f n E mj (fi f E k) (se f E k) from by
                        unfold hdlN
                        first | ((repeat first | rw [if_pos (by omega)] | rw [if_neg (by omega)]) <;> first | rfl | omega) | ((repeat' split) <;> first | rfl | (exfalso; omega) | omega)), rfl⟩)
            · have c_87 : ¬ (¬ (nI (fi f E k)) = 9) := of_decide_eq_false c_87
              have n_87 : fi f E k = 9 := (eq_nI (p := fi f E k) (n := 9) (Nat.lt_trans (fi_lt _ _ _) (by decide)) (by decide)).mp (Decidable.not_not.mp c_87)
              refine ps_st (S' := (92, [(4, .int (nI (tg f E (se f E k)))), (3, .int (nI (se f E k))), (2, .int (nI (fi f E k))), (0, .ref m0), (1, .int (nI k))], [.int (nI (tg f E (se f E k)))], M)) rfl rfl rfl ?_
              refine ps_st (S' := (94, [(4, .int (nI (tg f E (se f E k)))), (3, .int (nI (se f E k))), (2, .int (nI (fi f E k))), (0, .ref m0), (1, .int (nI k))], [.int 11, .int (nI (tg f E (se f E k)))], M)) rfl rfl rfl ?_
              refine ps_if2 (S1 := (123, [], [], M)) (S2 := (97, [(4, .int (nI (tg f E (se f E k)))), (3, .int (nI (se f E k))), (2, .int (nI (fi f E k))), (0, .ref m0), (1, .int (nI k))], [], M)) rfl rfl rfl (fun c_94 => ?_) (fun c_94 => ?_)
              · have c_94 : ¬ (nI (tg f E (se f E k))) = 11 := of_decide_eq_true c_94
                have n_94 : ¬ (tg f E (se f E k) = 11) := fun h9 => c_94 ((eq_nI (p := tg f E (se f E k)) (n := 11) (Nat.lt_trans (tg_lt _ _ _) (by decide)) (by decide)).mpr h9)
                refine ps_st (S' := (124, [], [.int 0], M)) rfl rfl rfl ?_
                exact ps_ret rfl rfl (⟨congrArg (fun x => some (Value.int (nI x))) (show 0 = hdlN f n E mj (fi f E k) (se f E k) from by
                    unfold hdlN
                    first | ((repeat first | rw [if_pos (by omega)] | rw [if_neg (by omega)]) <;> first | rfl | omega) | ((repeat' split) <;> first | rfl | (exfalso; omega) | omega)), rfl⟩)
              · have c_94 : ¬ (¬ (nI (tg f E (se f E k))) = 11) := of_decide_eq_false c_94
                have n_94 : tg f E (se f E k) = 11 := (eq_nI (p := tg f E (se f E k)) (n := 11) (Nat.lt_trans (tg_lt _ _ _) (by decide)) (by decide)).mp (Decidable.not_not.mp c_94)
                refine ps_st (S' := (125, [(0, .ref m0), (2, .int (nI (fi f E k))), (3, .int (nI (se f E k)))], [], M)) rfl rfl rfl ?_
                refine ps_st (S' := (126, [(0, .ref m0), (2, .int (nI (fi f E k))), (3, .int (nI (se f E k)))], [.ref m0], M)) rfl rfl rfl ?_
                refine ps_st (S' := (127, [(0, .ref m0), (2, .int (nI (fi f E k))), (3, .int (nI (se f E k)))], [.ref m0, .ref m0], M)) rfl rfl rfl ?_
                refine ps_st (S' := (128, [(0, .ref m0), (2, .int (nI (fi f E k))), (3, .int (nI (se f E k)))], [.ref m0, .ref m0, .ref m0], M)) rfl rfl rfl ?_
                refine ps_st (S' := (129, [(0, .ref m0), (2, .int (nI (fi f E k))), (3, .int (nI (se f E k)))], [.int (nI (se f E k)), .ref m0, .ref m0, .ref m0], M)) rfl rfl rfl ?_
                refine ps_st (S' := (130, [(0, .ref m0), (2, .int (nI (fi f E k))), (3, .int (nI (se f E k)))], [.int 3, .int (nI (se f E k)), .ref m0, .ref m0, .ref m0], M)) rfl rfl rfl ?_
                refine pl_call (a := [.ref m0, .int (nI (se f E k)), .int 3]) (rest := [.ref m0, .ref m0]) rfl rfl rfl (rd_idx3 (n := n) (f := f) (tx := tx) (cN := cN) (A := A) (N := N) (mj := mj) (E := E) (k := (se f E k)) hR hi51 hi52 hi53 hF hY hP (hEP) (hN) (hmj) (by omega)) (fun v40 M41 q42 => ?_)
                obtain ⟨rfl, rfl⟩ := q42
                show pl _ _ _ (133, [(0, .ref m0), (2, .int (nI (fi f E k))), (3, .int (nI (se f E k)))], [.int (nI (se f E (se f E k))), .ref m0, .ref m0], M) _
                have hix_130 := se_lt f E (se f E k)
                refine ps_st (S' := (134, [(0, .ref m0), (2, .int (nI (fi f E k))), (3, .int (nI (se f E k)))], [.int 1, .int (nI (se f E (se f E k))), .ref m0, .ref m0], M)) rfl rfl rfl ?_
                refine pl_call (a := [.ref m0, .int (nI (se f E (se f E k))), .int 1]) (rest := [.ref m0]) rfl rfl rfl (rd_idx1 (n := n) (f := f) (tx := tx) (cN := cN) (A := A) (N := N) (mj := mj) (E := E) (k := (se f E (se f E k))) hR hi51 hi52 hi53 hF hY hP (hEP) (hN) (hmj) (by omega)) (fun v43 M44 q45 => ?_)
                obtain ⟨rfl, rfl⟩ := q45
                show pl _ _ _ (137, [(0, .ref m0), (2, .int (nI (fi f E k))), (3, .int (nI (se f E k)))], [.int (nI (fi f E (se f E (se f E k)))), .ref m0], M) _
                have hix_134 := fi_lt f E (se f E (se f E k))
                refine pl_call (a := [.ref m0, .int (nI (fi f E (se f E (se f E k))))]) (rest := []) rfl rfl rfl (rd_symOf (n := n) (f := f) (tx := tx) (cN := cN) (A := A) (N := N) (mj := mj) (E := E) (k := (fi f E (se f E (se f E k)))) hR hi51 hi52 hi53 hF hY hP (hEP) (hN) (hmj) (by omega)) (fun v46 M47 q48 => ?_)
                obtain ⟨s49, q137_s, rfl, rfl⟩ := q48
                show pl _ _ _ (140, [(0, .ref m0), (2, .int (nI (fi f E k))), (3, .int (nI (se f E k)))], [.int (nI s49)], M) _
                have hsl_137 := q137_s.1
                have htl_137 := hY.1.2.2.1
                refine ps_st (S' := (142, [(5, .int (nI s49)), (0, .ref m0), (2, .int (nI (fi f E k))), (3, .int (nI (se f E k)))], [], M)) rfl rfl rfl ?_
                refine ps_st (S' := (143, [(5, .int (nI s49)), (0, .ref m0), (2, .int (nI (fi f E k))), (3, .int (nI (se f E k)))], [.int (nI (fi f E k))], M)) rfl rfl rfl ?_
                refine ps_st (S' := (145, [(5, .int (nI s49)), (0, .ref m0), (2, .int (nI (fi f E k))), (3, .int (nI (se f E k)))], [.int 8, .int (nI (fi f E k))], M)) rfl rfl rfl ?_
                refine ps_if2 (S1 := (152, [(5, .int (nI s49)), (0, .ref m0), (2, .int (nI (fi f E k))), (3, .int (nI (se f E k)))], [], M)) (S2 := (148, [(5, .int (nI s49)), (0, .ref m0), (2, .int (nI (fi f E k))), (3, .int (nI (se f E k)))], [], M)) rfl rfl rfl (fun c_145 => ?_) (fun c_145 => ?_)
                rotate_left
                · exact absurd (show ¬ ((nI (fi f E k)) = 8) from fun h9 => absurd ((eq_nI (p := fi f E k) (n := 8) (Nat.lt_trans (fi_lt _ _ _) (by decide)) (by decide)).mp h9) (by omega)) (of_decide_eq_false c_145)
                refine ps_st (S' := (153, [(0, .ref m0), (5, .int (nI s49))], [.int 0], M)) rfl rfl rfl ?_
                have he9 := sym_eq hY q137_s hs1
                rw [lt_eq.1] at he9
                refine ps_st (S' := (155, [(0, .ref m0), (5, .int (nI s49))], [.int (nI s49), .int 0], M)) rfl rfl rfl ?_
                refine ps_st (S' := (156, [(0, .ref m0), (5, .int (nI s49))], [.ref m0, .int (nI s49), .int 0], M)) rfl rfl rfl ?_
                refine pr_int (j := 9) (S' := (159, [(0, .ref m0), (5, .int (nI s49))], [.int (nI s1), .int (nI s49), .int 0], M)) rfl hR rfl hi9 rfl ?_
                refine ps_if2 (S1 := (166, [(0, .ref m0), (5, .int (nI s49))], [.int 0], M)) (S2 := (162, [(0, .ref m0), (5, .int (nI s49))], [.int 0], M)) rfl rfl rfl (fun c_159 => ?_) (fun c_159 => ?_)
                · have c_159 : ¬ (nI s49) = (nI s1) := of_decide_eq_true c_159
                  have n_159 : ¬ (s49 = s1) := fun h9 => c_159 ((eq_nI (p := s49) (n := s1) (by omega) (by omega)).mpr h9)
                  refine ps_st (S' := (167, [], [.int 0, .int 0], M)) rfl rfl rfl ?_
                  refine ps_if2 (S1 := (174, [], [], M)) (S2 := (170, [], [], M)) rfl rfl rfl (fun c_167 => ?_) (fun c_167 => ?_)
                  · exact absurd (of_decide_eq_true c_167) (by decide)
                  refine ps_st (S' := (171, [], [.int 1], M)) rfl rfl rfl ?_
                  refine ps_st (S' := (175, [], [.int 1], M)) rfl rfl rfl ?_
                  exact ps_ret rfl rfl (⟨congrArg (fun x => some (Value.int (nI x))) (show 1 = hdlN f n E mj (fi f E k) (se f E k) from by
                      unfold hdlN
                      first | ((repeat first | rw [if_pos (by omega)] | rw [if_neg (by omega)]) <;> first | rfl | omega) | ((repeat' split) <;> first | rfl | (exfalso; omega) | omega)), rfl⟩)
                · have c_159 : ¬ (¬ (nI s49) = (nI s1)) := of_decide_eq_false c_159
                  have n_159 : s49 = s1 := (eq_nI (p := s49) (n := s1) (by omega) (by omega)).mp (Decidable.not_not.mp c_159)
                  refine ps_st (S' := (163, [(0, .ref m0), (5, .int (nI s49))], [.int 1, .int 0], M)) rfl rfl rfl ?_
                  refine ps_st (S' := (167, [], [.int 1, .int 0], M)) rfl rfl rfl ?_
                  refine ps_if2 (S1 := (174, [], [], M)) (S2 := (170, [], [], M)) rfl rfl rfl (fun c_167 => ?_) (fun c_167 => ?_)
                  rotate_left
                  · exact absurd (by decide) (of_decide_eq_false c_167)
                  refine ps_st (S' := (175, [], [.int 0], M)) rfl rfl rfl ?_
                  exact ps_ret rfl rfl (⟨congrArg (fun x => some (Value.int (nI x))) (show 0 = hdlN f n E mj (fi f E k) (se f E k) from by
                      unfold hdlN
                      first | ((repeat first | rw [if_pos (by omega)] | rw [if_neg (by omega)]) <;> first | rfl | omega) | ((repeat' split) <;> first | rfl | (exfalso; omega) | omega)), rfl⟩)
          · have c_71 : ¬ (¬ (nI (fi f E k)) = 8) := of_decide_eq_false c_71
            have n_71 : fi f E k = 8 := (eq_nI (p := fi f E k) (n := 8) (Nat.lt_trans (fi_lt _ _ _) (by decide)) (by decide)).mp (Decidable.not_not.mp c_71)
            refine ps_st (S' := (76, [(0, .ref m0), (2, .int (nI (fi f E k))), (3, .int (nI (se f E k))), (4, .int (nI (tg f E (se f E k))))], [.int (nI (tg f E (se f E k)))], M)) rfl rfl rfl ?_
            refine ps_st (S' := (78, [(0, .ref m0), (2, .int (nI (fi f E k))), (3, .int (nI (se f E k))), (4, .int (nI (tg f E (se f E k))))], [.int 10, .int (nI (tg f E (se f E k)))], M)) rfl rfl rfl ?_
            refine ps_if2 (S1 := (123, [], [], M)) (S2 := (81, [(0, .ref m0), (2, .int (nI (fi f E k))), (3, .int (nI (se f E k))), (4, .int (nI (tg f E (se f E k))))], [], M)) rfl rfl rfl (fun c_78 => ?_) (fun c_78 => ?_)
            · have c_78 : ¬ (nI (tg f E (se f E k))) = 10 := of_decide_eq_true c_78
              have n_78 : ¬ (tg f E (se f E k) = 10) := fun h9 => c_78 ((eq_nI (p := tg f E (se f E k)) (n := 10) (Nat.lt_trans (tg_lt _ _ _) (by decide)) (by decide)).mpr h9)
              refine ps_st (S' := (124, [], [.int 0], M)) rfl rfl rfl ?_
              exact ps_ret rfl rfl (⟨congrArg (fun x => some (Value.int (nI x))) (show 0 = hdlN f n E mj (fi f E k) (se f E k) from by
                  unfold hdlN
                  first | ((repeat first | rw [if_pos (by omega)] | rw [if_neg (by omega)]) <;> first | rfl | omega) | ((repeat' split) <;> first | rfl | (exfalso; omega) | omega)), rfl⟩)
            · have c_78 : ¬ (¬ (nI (tg f E (se f E k))) = 10) := of_decide_eq_false c_78
              have n_78 : tg f E (se f E k) = 10 := (eq_nI (p := tg f E (se f E k)) (n := 10) (Nat.lt_trans (tg_lt _ _ _) (by decide)) (by decide)).mp (Decidable.not_not.mp c_78)
              refine ps_st (S' := (125, [(0, .ref m0), (2, .int (nI (fi f E k))), (3, .int (nI (se f E k)))], [], M)) rfl rfl rfl ?_
              refine ps_st (S' := (126, [(0, .ref m0), (2, .int (nI (fi f E k))), (3, .int (nI (se f E k)))], [.ref m0], M)) rfl rfl rfl ?_
              refine ps_st (S' := (127, [(0, .ref m0), (2, .int (nI (fi f E k))), (3, .int (nI (se f E k)))], [.ref m0, .ref m0], M)) rfl rfl rfl ?_
              refine ps_st (S' := (128, [(0, .ref m0), (2, .int (nI (fi f E k))), (3, .int (nI (se f E k)))], [.ref m0, .ref m0, .ref m0], M)) rfl rfl rfl ?_
              refine ps_st (S' := (129, [(0, .ref m0), (2, .int (nI (fi f E k))), (3, .int (nI (se f E k)))], [.int (nI (se f E k)), .ref m0, .ref m0, .ref m0], M)) rfl rfl rfl ?_
              refine ps_st (S' := (130, [(0, .ref m0), (2, .int (nI (fi f E k))), (3, .int (nI (se f E k)))], [.int 3, .int (nI (se f E k)), .ref m0, .ref m0, .ref m0], M)) rfl rfl rfl ?_
              refine pl_call (a := [.ref m0, .int (nI (se f E k)), .int 3]) (rest := [.ref m0, .ref m0]) rfl rfl rfl (rd_idx3 (n := n) (f := f) (tx := tx) (cN := cN) (A := A) (N := N) (mj := mj) (E := E) (k := (se f E k)) hR hi51 hi52 hi53 hF hY hP (hEP) (hN) (hmj) (by omega)) (fun v50 M51 q52 => ?_)
              obtain ⟨rfl, rfl⟩ := q52
              show pl _ _ _ (133, [(0, .ref m0), (2, .int (nI (fi f E k))), (3, .int (nI (se f E k)))], [.int (nI (se f E (se f E k))), .ref m0, .ref m0], M) _
              have hix_130 := se_lt f E (se f E k)
              refine ps_st (S' := (134, [(0, .ref m0), (2, .int (nI (fi f E k))), (3, .int (nI (se f E k)))], [.int 1, .int (nI (se f E (se f E k))), .ref m0, .ref m0], M)) rfl rfl rfl ?_
              refine pl_call (a := [.ref m0, .int (nI (se f E (se f E k))), .int 1]) (rest := [.ref m0]) rfl rfl rfl (rd_idx1 (n := n) (f := f) (tx := tx) (cN := cN) (A := A) (N := N) (mj := mj) (E := E) (k := (se f E (se f E k))) hR hi51 hi52 hi53 hF hY hP (hEP) (hN) (hmj) (by omega)) (fun v53 M54 q55 => ?_)
              obtain ⟨rfl, rfl⟩ := q55
              show pl _ _ _ (137, [(0, .ref m0), (2, .int (nI (fi f E k))), (3, .int (nI (se f E k)))], [.int (nI (fi f E (se f E (se f E k)))), .ref m0], M) _
              have hix_134 := fi_lt f E (se f E (se f E k))
              refine pl_call (a := [.ref m0, .int (nI (fi f E (se f E (se f E k))))]) (rest := []) rfl rfl rfl (rd_symOf (n := n) (f := f) (tx := tx) (cN := cN) (A := A) (N := N) (mj := mj) (E := E) (k := (fi f E (se f E (se f E k)))) hR hi51 hi52 hi53 hF hY hP (hEP) (hN) (hmj) (by omega)) (fun v56 M57 q58 => ?_)
              obtain ⟨s59, q137_s, rfl, rfl⟩ := q58
              show pl _ _ _ (140, [(0, .ref m0), (2, .int (nI (fi f E k))), (3, .int (nI (se f E k)))], [.int (nI s59)], M) _
              have hsl_137 := q137_s.1
              have htl_137 := hY.1.2.2.1
              refine ps_st (S' := (142, [(5, .int (nI s59)), (0, .ref m0), (2, .int (nI (fi f E k))), (3, .int (nI (se f E k)))], [], M)) rfl rfl rfl ?_
              refine ps_st (S' := (143, [(5, .int (nI s59)), (0, .ref m0), (2, .int (nI (fi f E k))), (3, .int (nI (se f E k)))], [.int (nI (fi f E k))], M)) rfl rfl rfl ?_
              refine ps_st (S' := (145, [(5, .int (nI s59)), (0, .ref m0), (2, .int (nI (fi f E k))), (3, .int (nI (se f E k)))], [.int 8, .int (nI (fi f E k))], M)) rfl rfl rfl ?_
              refine ps_if2 (S1 := (152, [(5, .int (nI s59)), (0, .ref m0), (2, .int (nI (fi f E k))), (3, .int (nI (se f E k)))], [], M)) (S2 := (148, [(5, .int (nI s59)), (0, .ref m0), (2, .int (nI (fi f E k))), (3, .int (nI (se f E k)))], [], M)) rfl rfl rfl (fun c_145 => ?_) (fun c_145 => ?_)
              · exact absurd (of_decide_eq_true c_145) (fun h9 => h9 ((eq_nI (p := fi f E k) (n := 8) (Nat.lt_trans (fi_lt _ _ _) (by decide)) (by decide)).mpr (by omega)))
              refine ps_st (S' := (149, [(5, .int (nI s59)), (0, .ref m0), (2, .int (nI (fi f E k))), (3, .int (nI (se f E k)))], [.int 1], M)) rfl rfl rfl ?_
              refine ps_st (S' := (153, [(0, .ref m0), (5, .int (nI s59))], [.int 1], M)) rfl rfl rfl ?_
              have he9 := sym_eq hY q137_s hs1
              rw [lt_eq.1] at he9
              refine ps_st (S' := (155, [(0, .ref m0), (5, .int (nI s59))], [.int (nI s59), .int 1], M)) rfl rfl rfl ?_
              refine ps_st (S' := (156, [(0, .ref m0), (5, .int (nI s59))], [.ref m0, .int (nI s59), .int 1], M)) rfl rfl rfl ?_
              refine pr_int (j := 9) (S' := (159, [(0, .ref m0), (5, .int (nI s59))], [.int (nI s1), .int (nI s59), .int 1], M)) rfl hR rfl hi9 rfl ?_
              refine ps_if2 (S1 := (166, [(0, .ref m0), (5, .int (nI s59))], [.int 1], M)) (S2 := (162, [(0, .ref m0), (5, .int (nI s59))], [.int 1], M)) rfl rfl rfl (fun c_159 => ?_) (fun c_159 => ?_)
              · have c_159 : ¬ (nI s59) = (nI s1) := of_decide_eq_true c_159
                have n_159 : ¬ (s59 = s1) := fun h9 => c_159 ((eq_nI (p := s59) (n := s1) (by omega) (by omega)).mpr h9)
                refine ps_st (S' := (167, [], [.int 0, .int 1], M)) rfl rfl rfl ?_
                refine ps_if2 (S1 := (174, [], [], M)) (S2 := (170, [], [], M)) rfl rfl rfl (fun c_167 => ?_) (fun c_167 => ?_)
                rotate_left
                · exact absurd (by decide) (of_decide_eq_false c_167)
                refine ps_st (S' := (175, [], [.int 0], M)) rfl rfl rfl ?_
                exact ps_ret rfl rfl (⟨congrArg (fun x => some (Value.int (nI x))) (show 0 = hdlN f n E mj (fi f E k) (se f E k) from by
                    unfold hdlN
                    first | ((repeat first | rw [if_pos (by omega)] | rw [if_neg (by omega)]) <;> first | rfl | omega) | ((repeat' split) <;> first | rfl | (exfalso; omega) | omega)), rfl⟩)
              · have c_159 : ¬ (¬ (nI s59) = (nI s1)) := of_decide_eq_false c_159
                have n_159 : s59 = s1 := (eq_nI (p := s59) (n := s1) (by omega) (by omega)).mp (Decidable.not_not.mp c_159)
                refine ps_st (S' := (163, [(0, .ref m0), (5, .int (nI s59))], [.int 1, .int 1], M)) rfl rfl rfl ?_
                refine ps_st (S' := (167, [], [.int 1, .int 1], M)) rfl rfl rfl ?_
                refine ps_if2 (S1 := (174, [], [], M)) (S2 := (170, [], [], M)) rfl rfl rfl (fun c_167 => ?_) (fun c_167 => ?_)
                · exact absurd (of_decide_eq_true c_167) (by decide)
                refine ps_st (S' := (171, [], [.int 1], M)) rfl rfl rfl ?_
                refine ps_st (S' := (175, [], [.int 1], M)) rfl rfl rfl ?_
                exact ps_ret rfl rfl (⟨congrArg (fun x => some (Value.int (nI x))) (show 1 = hdlN f n E mj (fi f E k) (se f E k) from by
                    unfold hdlN
                    first | ((repeat first | rw [if_pos (by omega)] | rw [if_neg (by omega)]) <;> first | rfl | omega) | ((repeat' split) <;> first | rfl | (exfalso; omega) | omega)), rfl⟩)
      · have c_47 : ¬ (4 < (nI (fi f E k))) := of_decide_eq_false c_47
        have n_47 : ¬ (4 < fi f E k) := fun h9 => c_47 ((lt_nI (p := 4) (n := fi f E k) (by decide) (Nat.lt_trans (fi_lt _ _ _) (by decide))).mpr h9)
        refine ps_st (S' := (52, [(4, .int (nI (tg f E (se f E k)))), (3, .int (nI (se f E k))), (2, .int (nI (fi f E k))), (0, .ref m0), (1, .int (nI k))], [.int (nI (tg f E (se f E k)))], M)) rfl rfl rfl ?_
        refine ps_st (S' := (54, [(4, .int (nI (tg f E (se f E k)))), (3, .int (nI (se f E k))), (2, .int (nI (fi f E k))), (0, .ref m0), (1, .int (nI k))], [.int 9, .int (nI (tg f E (se f E k)))], M)) rfl rfl rfl ?_
        refine ps_if2 (S1 := (61, [(4, .int (nI (tg f E (se f E k)))), (3, .int (nI (se f E k))), (2, .int (nI (fi f E k))), (0, .ref m0), (1, .int (nI k))], [], M)) (S2 := (57, [(4, .int (nI (tg f E (se f E k)))), (3, .int (nI (se f E k))), (2, .int (nI (fi f E k))), (0, .ref m0), (1, .int (nI k))], [], M)) rfl rfl rfl (fun c_54 => ?_) (fun c_54 => ?_)
        · have c_54 : ¬ (nI (tg f E (se f E k))) = 9 := of_decide_eq_true c_54
          have n_54 : ¬ (tg f E (se f E k) = 9) := fun h9 => c_54 ((eq_nI (p := tg f E (se f E k)) (n := 9) (Nat.lt_trans (tg_lt _ _ _) (by decide)) (by decide)).mpr h9)
          refine ps_st (S' := (62, [], [.int 0], M)) rfl rfl rfl ?_
          exact ps_ret rfl rfl (⟨congrArg (fun x => some (Value.int (nI x))) (show 0 = hdlN f n E mj (fi f E k) (se f E k) from by
              unfold hdlN
              first | ((repeat first | rw [if_pos (by omega)] | rw [if_neg (by omega)]) <;> first | rfl | omega) | ((repeat' split) <;> first | rfl | (exfalso; omega) | omega)), rfl⟩)
        · have c_54 : ¬ (¬ (nI (tg f E (se f E k))) = 9) := of_decide_eq_false c_54
          have n_54 : tg f E (se f E k) = 9 := (eq_nI (p := tg f E (se f E k)) (n := 9) (Nat.lt_trans (tg_lt _ _ _) (by decide)) (by decide)).mp (Decidable.not_not.mp c_54)
          refine ps_st (S' := (58, [(4, .int (nI (tg f E (se f E k)))), (3, .int (nI (se f E k))), (2, .int (nI (fi f E k))), (0, .ref m0), (1, .int (nI k))], [.int 1], M)) rfl rfl rfl ?_
          refine ps_st (S' := (62, [], [.int 1], M)) rfl rfl rfl ?_
          exact ps_ret rfl rfl (⟨congrArg (fun x => some (Value.int (nI x))) (show 1 = hdlN f n E mj (fi f E k) (se f E k) from by
              unfold hdlN
              first | ((repeat first | rw [if_pos (by omega)] | rw [if_neg (by omega)]) <;> first | rfl | omega) | ((repeat' split) <;> first | rfl | (exfalso; omega) | omega)), rfl⟩)
    · have c_40 : ¬ ((nI (fi f E k)) ≤ 9) := of_decide_eq_false c_40
      have n_40 : ¬ (fi f E k ≤ 9) := fun h9 => c_40 ((le_nI (p := fi f E k) (n := 9) (Nat.lt_trans (fi_lt _ _ _) (by decide)) (by decide)).mpr h9)
      refine ps_st (S' := (44, [], [.int 0], M)) rfl rfl rfl ?_
      exact ps_ret rfl rfl (⟨congrArg (fun x => some (Value.int (nI x))) (show 0 = hdlN f n E mj (fi f E k) (se f E k) from by
          unfold hdlN
          first | ((repeat first | rw [if_pos (by omega)] | rw [if_neg (by omega)]) <;> first | rfl | omega) | ((repeat' split) <;> first | rfl | (exfalso; omega) | omega)), rfl⟩)
set_option maxHeartbeats 8000000 in
theorem rd_checkPool {g : xe_G} {m0 : Nat} {q : Nat → Nat} {z : Nat × Nat} {I : rI} {R : rR} {M : mi_H} {n : Nat} {f : Nat → Int32} {tx : List (List Nat)} {cN : Nat} {A : Nat → Nat} {N mj : Nat} {E : List (Nat × Nat)} {s1 : Nat} (hR : RS g m0 q z I R M) (hi51 : I 51 = some 0) (hi52 : I 52 = some (nI N)) (hi53 : I 53 = some (nI mj)) (hi9 : I 9 = some (nI s1)) (hF : FK n f I R) (hY : SYT tx cN A I R) (hP : RPV f n E tx N I R) (hEP : EP f n E) (hN : N < 65536) (hmj : mj < 65536) (hs1 : s1 < tx.length ∧ tx.getD s1 [] = ltx 25) (hN1 : 1 ≤ N) : pt (mT g) 192 [.ref m0] M (fun v M' => (∃  (I' : rI) (R' : rR), (chkP f n E mj (N - 1) 1 = none) ∧ v = some (.int 1) ∧ RS g m0 q z I' R' M' ∧ eqI [47, 48] I I' ∧ eqR [] R R') ∨ (∃ (e : Nat × Nat) (I' : rI) (R' : rR), (chkP f n E mj (N - 1) 1 = some e) ∧ v = some (.int 0) ∧ RS g m0 q z I' R' M' ∧ eqI [47, 48] I I' ∧ eqR [] R R' ∧ I' 47 = some (nI e.1) ∧ I' 48 = some (nI e.2))) := by
  refine pt_in (b := mb_192 g) rfl (fun kf => ?_)
  show pl (mT g) kf (mb_192 g).2 (0, [(0, .ref m0)], [], M) _
  have hEI : eqI [47, 48] I I := eqI.rf
  have hER : eqR [] R R := eqR.rf
  have hn := hF.1
  have LL : ∀ (kf : Nat), (∀ (k : Nat) (M1 : mi_H) (I1 : rI) (R1 : rR), (RS g m0 q z I1 R1 M1) → (eqI [47, 48] I I1) → (eqR [] R R1) → (I1 51 = some 0) → (I1 52 = some (nI N)) → (I1 53 = some (nI mj)) → (I1 9 = some (nI s1)) → (FK n f I1 R1) → (SYT tx cN A I1 R1) → (RPV f n E tx N I1 R1) → (1 ≤ k ∧ k ≤ N) → (chkP f n E mj (N - k) k = chkP f n E mj (N - 1) 1) →  pl (mT g) kf (mb_192 g).2 (2, [(0, .ref m0), (1, .int (nI k))], [], M1) (fun v M' => (∃  (I' : rI) (R' : rR), (chkP f n E mj (N - 1) 1 = none) ∧ v = some (.int 1) ∧ RS g m0 q z I' R' M' ∧ eqI [47, 48] I I' ∧ eqR [] R R') ∨ (∃ (e : Nat × Nat) (I' : rI) (R' : rR), (chkP f n E mj (N - 1) 1 = some e) ∧ v = some (.int 0) ∧ RS g m0 q z I' R' M' ∧ eqI [47, 48] I I' ∧ eqR [] R R' ∧ I' 47 = some (nI e.1) ∧ I' 48 = some (nI e.2)))) := by
    intro kf
    induction kf with
    | zero => exact (by intros; exact pl_0)
    | succ kf ih =>
      intro k M1 I1 R1 hR1 hEI1 hER1 hl51 hl52 hl53 hl9 hF1 hY1 hP1 hk hs
      have hn := hF1.1
      have htl := hY1.1.2.2.1
      refine ps_st1 (S' := (3, [(0, .ref m0), (1, .int (nI k))], [.int (nI k)], M1)) rfl rfl rfl ?_
      refine ps_st (S' := (4, [(0, .ref m0), (1, .int (nI k))], [.ref m0, .int (nI k)], M1)) rfl rfl rfl ?_
      refine pr_int (j := 52) (S' := (7, [(0, .ref m0), (1, .int (nI k))], [.int (nI N), .int (nI k)], M1)) rfl hR1 rfl hl52 rfl ?_
      refine ps_if2 (S1 := (426, [(0, .ref m0), (1, .int (nI k))], [], M1)) (S2 := (10, [(0, .ref m0), (1, .int (nI k))], [], M1)) rfl rfl rfl (fun c_7 => ?_) (fun c_7 => ?_)
      · have c_7 : (nI N) ≤ (nI k) := of_decide_eq_true c_7
        have n_7 : N ≤ k := (le_nI (p := N) (n := k) (by omega) (by omega)).mp c_7
        refine ps_st (S' := (427, [(0, .ref m0), (1, .int (nI k))], [.int 1], M1)) rfl rfl rfl ?_
        exact ps_ret rfl rfl (Or.inl ⟨I1, R1, by
            rw [← hs, show N - k = 0 by omega]
            rfl, rfl, hR1, hEI1, hER1⟩)
      · have c_7 : ¬ ((nI N) ≤ (nI k)) := of_decide_eq_false c_7
        have n_7 : ¬ (N ≤ k) := fun h9 => c_7 ((le_nI (p := N) (n := k) (by omega) (by omega)).mpr h9)
        refine ps_st (S' := (11, [(0, .ref m0), (1, .int (nI k))], [.ref m0], M1)) rfl rfl rfl ?_
        refine pr_ref (j := 21) (S' := (14, [(0, .ref m0), (1, .int (nI k))], [.ref (q 21)], M1)) rfl hR1 rfl rfl ?_
        refine ps_st (S' := (15, [(0, .ref m0), (1, .int (nI k))], [.ref m0, .ref (q 21)], M1)) rfl rfl rfl ?_
        refine pr_int (j := 51) (S' := (18, [(0, .ref m0), (1, .int (nI k))], [.int 0, .ref (q 21)], M1)) rfl hR1 rfl hl51 rfl ?_
        refine ps_st (S' := (19, [(0, .ref m0), (1, .int (nI k))], [.int (nI k), .int 0, .ref (q 21)], M1)) rfl rfl rfl ?_
        refine ps_st (S' := (20, [(0, .ref m0), (1, .int (nI k))], [.int (0 + (nI k)), .ref (q 21)], M1)) rfl rfl rfl ?_
        rw [show (0 : Int32) + (nI k) = (nI k) from Int32.zero_add _]
        show pl _ _ _ (_, [(0, .ref m0), (1, .int (nI k))], [.int (nI k), .ref (q 21)], M1) _
        refine pr_ld (a := 21) (j := k) (y := (plI (lk E k))) (S' := (21, [(0, .ref m0), (1, .int (nI k))], [.int (plI (lk E k))], M1)) rfl hR1 rfl (by omega) (fun _ => hP1.2.1 k (by omega)) rfl (fun i1_20 => ?_)
        refine ps_st (S' := (22, [(2, .int (plI (lk E k))), (0, .ref m0), (1, .int (nI k))], [], M1)) rfl rfl rfl ?_
        refine ps_st (S' := (23, [(2, .int (plI (lk E k))), (0, .ref m0), (1, .int (nI k))], [.int (plI (lk E k))], M1)) rfl rfl rfl ?_
        refine ps_if (S1 := (29, [(2, .int (plI (lk E k))), (0, .ref m0), (1, .int (nI k))], [], M1)) (S2 := (26, [(2, .int (plI (lk E k))), (0, .ref m0), (1, .int (nI k))], [], M1)) rfl rfl rfl (fun c_23 => ?_) (fun c_23 => ?_)
        · have c_23 : 0 ≤ (plI (lk E k)) := of_decide_eq_true c_23
          obtain ⟨p, hpe, hk9⟩ := plI_some (by assumption)
          rw [hpe]
          show pl _ _ _ (29, [(2, .int (nI p)), (0, .ref m0), (1, .int (nI k))], [], M1) _
          have htk : tg f E k = by1 f p := tg_of hk9
          have hep := hEP k p hk9
          have hu9 := by1_lt f p
          have htp := tp_is hk9
          refine ps_st (S' := (30, [(2, .int (nI p)), (0, .ref m0), (1, .int (nI k))], [.ref m0], M1)) rfl rfl rfl ?_
          refine ps_st (S' := (31, [(2, .int (nI p)), (0, .ref m0), (1, .int (nI k))], [.int (nI p), .ref m0], M1)) rfl rfl rfl ?_
          refine pl_call (a := [.ref m0, .int (nI p)]) (rest := []) rfl rfl rfl (rd_u1 (n := n) (f := f) (p := p) hR1 hF1 (by omega)) (fun v1 M2 q3 => ?_)
          obtain ⟨rfl, rfl⟩ := q3
          show pl _ _ _ (34, [(2, .int (nI p)), (0, .ref m0), (1, .int (nI k))], [.int (nI (by1 f p))], M1) _
          have hu_31 := by1_lt f p
          refine ps_st (S' := (35, [(3, .int (nI (by1 f p))), (2, .int (nI p)), (0, .ref m0), (1, .int (nI k))], [], M1)) rfl rfl rfl ?_
          refine ps_st (S' := (36, [(3, .int (nI (by1 f p))), (2, .int (nI p)), (0, .ref m0), (1, .int (nI k))], [.ref m0], M1)) rfl rfl rfl ?_
          refine ps_st (S' := (37, [(3, .int (nI (by1 f p))), (2, .int (nI p)), (0, .ref m0), (1, .int (nI k))], [.int (nI k), .ref m0], M1)) rfl rfl rfl ?_
          refine ps_st (S' := (38, [(3, .int (nI (by1 f p))), (2, .int (nI p)), (0, .ref m0), (1, .int (nI k))], [.int (nI (by1 f p)), .int (nI k), .ref m0], M1)) rfl rfl rfl ?_
          refine ps_st (S' := (39, [(3, .int (nI (by1 f p))), (2, .int (nI p)), (0, .ref m0), (1, .int (nI k))], [.int 1, .int (nI (by1 f p)), .int (nI k), .ref m0], M1)) rfl rfl rfl ?_
          refine pl_call (a := [.ref m0, .int (nI k), .int (nI (by1 f p)), .int 1]) (rest := []) rfl rfl rfl (rd_indexes (n := n) (f := f) (tx := tx) (cN := cN) (A := A) (N := N) (mj := mj) (E := E) (k := k) (t := (by1 f p)) hR1 hl51 hl52 hl53 hF1 hY1 hP1 (hEP) (hN) (hmj) (htk) (by omega) (by omega)) (fun v4 M5 q6 => ?_)
          obtain ⟨rfl, rfl⟩ := q6
          show pl _ _ _ (42, [(3, .int (nI (by1 f p))), (2, .int (nI p)), (0, .ref m0), (1, .int (nI k))], [.int (nI (lnkN f E k))], M1) _
          refine ps_if (S1 := (53, [(3, .int (nI (by1 f p))), (2, .int (nI p)), (0, .ref m0), (1, .int (nI k))], [], M1)) (S2 := (45, [(3, .int (nI (by1 f p))), (2, .int (nI p)), (0, .ref m0), (1, .int (nI k))], [], M1)) rfl rfl rfl (fun c_42 => ?_) (fun c_42 => ?_)
          · have c_42 : ¬ (nI (lnkN f E k)) = 0 := of_decide_eq_true c_42
            have n_42 : ¬ (lnkN f E k = 0) := fun h9 => c_42 ((eq_nI (p := lnkN f E k) (n := 0) (Nat.lt_trans (le1_lnk _ _ _) (by decide)) (by decide)).mpr h9)
            have hin := lnk_in (f := f) (E := E) (k := k) (by omega)
            refine ps_st (S' := (54, [(3, .int (nI (by1 f p))), (2, .int (nI p)), (0, .ref m0), (1, .int (nI k))], [.int (nI (by1 f p))], M1)) rfl rfl rfl ?_
            refine ps_st (S' := (56, [(3, .int (nI (by1 f p))), (2, .int (nI p)), (0, .ref m0), (1, .int (nI k))], [.int 7, .int (nI (by1 f p))], M1)) rfl rfl rfl ?_
            refine ps_if2 (S1 := (84, [(0, .ref m0), (1, .int (nI k)), (2, .int (nI p)), (3, .int (nI (by1 f p)))], [], M1)) (S2 := (59, [(3, .int (nI (by1 f p))), (2, .int (nI p)), (0, .ref m0), (1, .int (nI k))], [], M1)) rfl rfl rfl (fun c_56 => ?_) (fun c_56 => ?_)
            · have c_56 : ¬ (nI (by1 f p)) = 7 := of_decide_eq_true c_56
              have n_56 : ¬ (by1 f p = 7) := fun h9 => c_56 ((eq_nI (p := by1 f p) (n := 7) (Nat.lt_trans (by1_lt _ _) (by decide)) (by decide)).mpr h9)
              refine ps_st (S' := (85, [(0, .ref m0), (1, .int (nI k)), (2, .int (nI p)), (3, .int (nI (by1 f p)))], [.int (nI (by1 f p))], M1)) rfl rfl rfl ?_
              refine ps_st (S' := (87, [(0, .ref m0), (1, .int (nI k)), (2, .int (nI p)), (3, .int (nI (by1 f p)))], [.int 12, .int (nI (by1 f p))], M1)) rfl rfl rfl ?_
              refine ps_if2 (S1 := (150, [(0, .ref m0), (1, .int (nI k)), (2, .int (nI p)), (3, .int (nI (by1 f p)))], [], M1)) (S2 := (90, [(0, .ref m0), (1, .int (nI k)), (2, .int (nI p)), (3, .int (nI (by1 f p)))], [], M1)) rfl rfl rfl (fun c_87 => ?_) (fun c_87 => ?_)
              · have c_87 : ¬ (nI (by1 f p)) = 12 := of_decide_eq_true c_87
                have n_87 : ¬ (by1 f p = 12) := fun h9 => c_87 ((eq_nI (p := by1 f p) (n := 12) (Nat.lt_trans (by1_lt _ _) (by decide)) (by decide)).mpr h9)
                refine ps_st (S' := (151, [(0, .ref m0), (1, .int (nI k)), (2, .int (nI p)), (3, .int (nI (by1 f p)))], [.int (nI (by1 f p))], M1)) rfl rfl rfl ?_
                refine ps_st (S' := (153, [(0, .ref m0), (1, .int (nI k)), (2, .int (nI p)), (3, .int (nI (by1 f p)))], [.int 9, .int (nI (by1 f p))], M1)) rfl rfl rfl ?_
                refine ps_if2 (S1 := (277, [(0, .ref m0), (1, .int (nI k)), (2, .int (nI p)), (3, .int (nI (by1 f p)))], [], M1)) (S2 := (156, [(0, .ref m0), (1, .int (nI k)), (2, .int (nI p)), (3, .int (nI (by1 f p)))], [], M1)) rfl rfl rfl (fun c_153 => ?_) (fun c_153 => ?_)
                · have c_153 : (nI (by1 f p)) < 9 := of_decide_eq_true c_153
                  have n_153 : by1 f p < 9 := (lt_nI (p := by1 f p) (n := 9) (Nat.lt_trans (by1_lt _ _) (by decide)) (by decide)).mp c_153
                  refine ps_st (S' := (278, [(0, .ref m0), (1, .int (nI k)), (2, .int (nI p)), (3, .int (nI (by1 f p)))], [.int (nI (by1 f p))], M1)) rfl rfl rfl ?_
                  refine ps_st (S' := (280, [(0, .ref m0), (1, .int (nI k)), (2, .int (nI p)), (3, .int (nI (by1 f p)))], [.int 15, .int (nI (by1 f p))], M1)) rfl rfl rfl ?_
                  refine ps_if2 (S1 := (299, [(0, .ref m0), (1, .int (nI k)), (2, .int (nI p)), (3, .int (nI (by1 f p)))], [], M1)) (S2 := (283, [(0, .ref m0), (1, .int (nI k)), (2, .int (nI p)), (3, .int (nI (by1 f p)))], [], M1)) rfl rfl rfl (fun c_280 => ?_) (fun c_280 => ?_)
                  rotate_left
                  · exact absurd (show ¬ ((nI (by1 f p)) = 15) from fun h9 => absurd ((eq_nI (p := by1 f p) (n := 15) (Nat.lt_trans (by1_lt _ _) (by decide)) (by decide)).mp h9) (by omega)) (of_decide_eq_false c_280)
                  refine ps_st (S' := (300, [(0, .ref m0), (1, .int (nI k)), (2, .int (nI p)), (3, .int (nI (by1 f p)))], [.int (nI (by1 f p))], M1)) rfl rfl rfl ?_
                  refine ps_st (S' := (302, [(0, .ref m0), (1, .int (nI k)), (2, .int (nI p)), (3, .int (nI (by1 f p)))], [.int 16, .int (nI (by1 f p))], M1)) rfl rfl rfl ?_
                  refine ps_if2 (S1 := (330, [(0, .ref m0), (1, .int (nI k)), (2, .int (nI p)), (3, .int (nI (by1 f p)))], [], M1)) (S2 := (305, [(0, .ref m0), (1, .int (nI k)), (2, .int (nI p)), (3, .int (nI (by1 f p)))], [], M1)) rfl rfl rfl (fun c_302 => ?_) (fun c_302 => ?_)
                  rotate_left
                  · exact absurd (show ¬ ((nI (by1 f p)) = 16) from fun h9 => absurd ((eq_nI (p := by1 f p) (n := 16) (Nat.lt_trans (by1_lt _ _) (by decide)) (by decide)).mp h9) (by omega)) (of_decide_eq_false c_302)
                  refine ps_st (S' := (331, [(0, .ref m0), (1, .int (nI k)), (2, .int (nI p)), (3, .int (nI (by1 f p)))], [.int (nI (by1 f p))], M1)) rfl rfl rfl ?_
                  refine ps_st (S' := (333, [(0, .ref m0), (1, .int (nI k)), (2, .int (nI p)), (3, .int (nI (by1 f p)))], [.int 17, .int (nI (by1 f p))], M1)) rfl rfl rfl ?_
                  refine ps_if2 (S1 := (342, [(0, .ref m0), (1, .int (nI k)), (2, .int (nI p)), (3, .int (nI (by1 f p)))], [], M1)) (S2 := (336, [(0, .ref m0), (1, .int (nI k)), (2, .int (nI p)), (3, .int (nI (by1 f p)))], [], M1)) rfl rfl rfl (fun c_333 => ?_) (fun c_333 => ?_)
                  · exact absurd (of_decide_eq_true c_333) (show ¬ ((nI (by1 f p)) = 17) from fun h9 => absurd ((eq_nI (p := by1 f p) (n := 17) (Nat.lt_trans (by1_lt _ _) (by decide)) (by decide)).mp h9) (by omega))
                  refine ps_st (S' := (337, [(0, .ref m0), (1, .int (nI k)), (2, .int (nI p)), (3, .int (nI (by1 f p)))], [.int (nI (by1 f p))], M1)) rfl rfl rfl ?_
                  refine ps_st (S' := (339, [(0, .ref m0), (1, .int (nI k)), (2, .int (nI p)), (3, .int (nI (by1 f p)))], [.int 18, .int (nI (by1 f p))], M1)) rfl rfl rfl ?_
                  refine ps_if2 (S1 := (420, [(0, .ref m0), (1, .int (nI k))], [], M1)) (S2 := (342, [(0, .ref m0), (1, .int (nI k)), (2, .int (nI p)), (3, .int (nI (by1 f p)))], [], M1)) rfl rfl rfl (fun c_339 => ?_) (fun c_339 => ?_)
                  rotate_left
                  · exact absurd (show ¬ ((nI (by1 f p)) = 18) from fun h9 => absurd ((eq_nI (p := by1 f p) (n := 18) (Nat.lt_trans (by1_lt _ _) (by decide)) (by decide)).mp h9) (by omega)) (of_decide_eq_false c_339)
                  refine ps_st (S' := (423, [(1, .int ((nI k) + 1)), (0, .ref m0)], [], M1)) rfl rfl rfl ?_
                  rw [nI_add1 (p := k) (k := 1) (x := 1) rfl (by omega)]
                  show pl _ _ _ (_, [(1, .int (nI (k + 1))), (0, .ref m0)], [], M1) _
                  refine ps_st (S' := (2, [(0, .ref m0), (1, .int (nI (k + 1)))], [], M1)) rfl rfl rfl ?_
                  exact ih (k + 1) M1 I1 R1 hR1 hEI1 hER1 hl51 hl52 hl53 hl9 hF1 hY1 hP1 (by omega) (by
                      have hb : brkN f n E mj k = 0 := by
                        have e12 := nwt_9 (f := f) (n := n) (E := E) (k := k)
                        have e13 := mrf_9 (f := f) (n := n) (E := E) (k := k)
                        unfold brkN
                        first | ((repeat first | rw [if_pos (by omega)] | rw [if_neg (by omega)]) <;> first | rfl | omega) | ((repeat' split) <;> first | rfl | (exfalso; omega) | omega)
                      rw [← hs, chkP_st (k := k) (by omega), if_neg (by omega), if_pos hb])
                · have c_153 : ¬ ((nI (by1 f p)) < 9) := of_decide_eq_false c_153
                  have n_153 : ¬ (by1 f p < 9) := fun h9 => c_153 ((lt_nI (p := by1 f p) (n := 9) (Nat.lt_trans (by1_lt _ _) (by decide)) (by decide)).mpr h9)
                  refine ps_st (S' := (157, [(0, .ref m0), (1, .int (nI k)), (2, .int (nI p)), (3, .int (nI (by1 f p)))], [.int (nI (by1 f p))], M1)) rfl rfl rfl ?_
                  refine ps_st (S' := (159, [(0, .ref m0), (1, .int (nI k)), (2, .int (nI p)), (3, .int (nI (by1 f p)))], [.int 11, .int (nI (by1 f p))], M1)) rfl rfl rfl ?_
                  refine ps_if2 (S1 := (277, [(0, .ref m0), (1, .int (nI k)), (2, .int (nI p)), (3, .int (nI (by1 f p)))], [], M1)) (S2 := (162, [(0, .ref m0), (1, .int (nI k)), (2, .int (nI p)), (3, .int (nI (by1 f p)))], [], M1)) rfl rfl rfl (fun c_159 => ?_) (fun c_159 => ?_)
                  · have c_159 : 11 < (nI (by1 f p)) := of_decide_eq_true c_159
                    have n_159 : 11 < by1 f p := (lt_nI (p := 11) (n := by1 f p) (by decide) (Nat.lt_trans (by1_lt _ _) (by decide))).mp c_159
                    refine ps_st (S' := (278, [(0, .ref m0), (1, .int (nI k)), (2, .int (nI p)), (3, .int (nI (by1 f p)))], [.int (nI (by1 f p))], M1)) rfl rfl rfl ?_
                    refine ps_st (S' := (280, [(0, .ref m0), (1, .int (nI k)), (2, .int (nI p)), (3, .int (nI (by1 f p)))], [.int 15, .int (nI (by1 f p))], M1)) rfl rfl rfl ?_
                    refine ps_if2 (S1 := (299, [(0, .ref m0), (1, .int (nI k)), (2, .int (nI p)), (3, .int (nI (by1 f p)))], [], M1)) (S2 := (283, [(0, .ref m0), (1, .int (nI k)), (2, .int (nI p)), (3, .int (nI (by1 f p)))], [], M1)) rfl rfl rfl (fun c_280 => ?_) (fun c_280 => ?_)
                    · have c_280 : ¬ (nI (by1 f p)) = 15 := of_decide_eq_true c_280
                      have n_280 : ¬ (by1 f p = 15) := fun h9 => c_280 ((eq_nI (p := by1 f p) (n := 15) (Nat.lt_trans (by1_lt _ _) (by decide)) (by decide)).mpr h9)
                      refine ps_st (S' := (300, [(0, .ref m0), (1, .int (nI k)), (2, .int (nI p)), (3, .int (nI (by1 f p)))], [.int (nI (by1 f p))], M1)) rfl rfl rfl ?_
                      refine ps_st (S' := (302, [(0, .ref m0), (1, .int (nI k)), (2, .int (nI p)), (3, .int (nI (by1 f p)))], [.int 16, .int (nI (by1 f p))], M1)) rfl rfl rfl ?_
                      refine ps_if2 (S1 := (330, [(0, .ref m0), (1, .int (nI k)), (2, .int (nI p)), (3, .int (nI (by1 f p)))], [], M1)) (S2 := (305, [(0, .ref m0), (1, .int (nI k)), (2, .int (nI p)), (3, .int (nI (by1 f p)))], [], M1)) rfl rfl rfl (fun c_302 => ?_) (fun c_302 => ?_)
                      · have c_302 : ¬ (nI (by1 f p)) = 16 := of_decide_eq_true c_302
                        have n_302 : ¬ (by1 f p = 16) := fun h9 => c_302 ((eq_nI (p := by1 f p) (n := 16) (Nat.lt_trans (by1_lt _ _) (by decide)) (by decide)).mpr h9)
                        refine ps_st (S' := (331, [(0, .ref m0), (1, .int (nI k)), (2, .int (nI p)), (3, .int (nI (by1 f p)))], [.int (nI (by1 f p))], M1)) rfl rfl rfl ?_
                        refine ps_st (S' := (333, [(0, .ref m0), (1, .int (nI k)), (2, .int (nI p)), (3, .int (nI (by1 f p)))], [.int 17, .int (nI (by1 f p))], M1)) rfl rfl rfl ?_
                        refine ps_if2 (S1 := (342, [(0, .ref m0), (1, .int (nI k)), (2, .int (nI p)), (3, .int (nI (by1 f p)))], [], M1)) (S2 := (336, [(0, .ref m0), (1, .int (nI k)), (2, .int (nI p)), (3, .int (nI (by1 f p)))], [], M1)) rfl rfl rfl (fun c_333 => ?_) (fun c_333 => ?_)
                        · have c_333 : (nI (by1 f p)) = 17 := of_decide_eq_true c_333
                          have n_333 : by1 f p = 17 := (eq_nI (p := by1 f p) (n := 17) (Nat.lt_trans (by1_lt _ _) (by decide)) (by decide)).mp c_333
                          refine ps_st (S' := (343, [(0, .ref m0), (1, .int (nI k)), (2, .int (nI p)), (3, .int (nI (by1 f p)))], [.ref m0], M1)) rfl rfl rfl ?_
                          refine ps_st (S' := (344, [(0, .ref m0), (1, .int (nI k)), (2, .int (nI p)), (3, .int (nI (by1 f p)))], [.ref m0, .ref m0], M1)) rfl rfl rfl ?_
                          refine ps_st (S' := (345, [(0, .ref m0), (1, .int (nI k)), (2, .int (nI p)), (3, .int (nI (by1 f p)))], [.ref m0, .ref m0, .ref m0], M1)) rfl rfl rfl ?_
                          refine ps_st (S' := (346, [(0, .ref m0), (1, .int (nI k)), (2, .int (nI p)), (3, .int (nI (by1 f p)))], [.int (nI k), .ref m0, .ref m0, .ref m0], M1)) rfl rfl rfl ?_
                          refine ps_st (S' := (347, [(0, .ref m0), (1, .int (nI k)), (2, .int (nI p)), (3, .int (nI (by1 f p)))], [.int 3, .int (nI k), .ref m0, .ref m0, .ref m0], M1)) rfl rfl rfl ?_
                          refine pl_call (a := [.ref m0, .int (nI k), .int 3]) (rest := [.ref m0, .ref m0]) rfl rfl rfl (rd_idx3 (n := n) (f := f) (tx := tx) (cN := cN) (A := A) (N := N) (mj := mj) (E := E) (k := k) hR1 hl51 hl52 hl53 hF1 hY1 hP1 (hEP) (hN) (hmj) (by omega)) (fun v7 M8 q9 => ?_)
                          obtain ⟨rfl, rfl⟩ := q9
                          show pl _ _ _ (350, [(0, .ref m0), (1, .int (nI k)), (2, .int (nI p)), (3, .int (nI (by1 f p)))], [.int (nI (se f E k)), .ref m0, .ref m0], M1) _
                          have hix_347 := se_lt f E k
                          refine ps_st (S' := (351, [(0, .ref m0), (1, .int (nI k)), (2, .int (nI p)), (3, .int (nI (by1 f p)))], [.int 1, .int (nI (se f E k)), .ref m0, .ref m0], M1)) rfl rfl rfl ?_
                          refine pl_call (a := [.ref m0, .int (nI (se f E k)), .int 1]) (rest := [.ref m0]) rfl rfl rfl (rd_idx1 (n := n) (f := f) (tx := tx) (cN := cN) (A := A) (N := N) (mj := mj) (E := E) (k := (se f E k)) hR1 hl51 hl52 hl53 hF1 hY1 hP1 (hEP) (hN) (hmj) (by omega)) (fun v10 M11 q12 => ?_)
                          obtain ⟨rfl, rfl⟩ := q12
                          show pl _ _ _ (354, [(0, .ref m0), (1, .int (nI k)), (2, .int (nI p)), (3, .int (nI (by1 f p)))], [.int (nI (fi f E (se f E k))), .ref m0], M1) _
                          have hix_351 := fi_lt f E (se f E k)
                          refine pl_call (a := [.ref m0, .int (nI (fi f E (se f E k)))]) (rest := []) rfl rfl rfl (rd_symOf (n := n) (f := f) (tx := tx) (cN := cN) (A := A) (N := N) (mj := mj) (E := E) (k := (fi f E (se f E k))) hR1 hl51 hl52 hl53 hF1 hY1 hP1 (hEP) (hN) (hmj) (by omega)) (fun v13 M14 q15 => ?_)
                          obtain ⟨s16, q354_s, rfl, rfl⟩ := q15
                          show pl _ _ _ (357, [(0, .ref m0), (1, .int (nI k)), (2, .int (nI p)), (3, .int (nI (by1 f p)))], [.int (nI s16)], M1) _
                          have hsl_354 := q354_s.1
                          have htl_354 := hY1.1.2.2.1
                          refine ps_st (S' := (359, [(4, .int (nI s16)), (0, .ref m0), (1, .int (nI k)), (2, .int (nI p)), (3, .int (nI (by1 f p)))], [], M1)) rfl rfl rfl ?_
                          refine ps_st (S' := (360, [(4, .int (nI s16)), (0, .ref m0), (1, .int (nI k)), (2, .int (nI p)), (3, .int (nI (by1 f p)))], [.ref m0], M1)) rfl rfl rfl ?_
                          refine ps_st (S' := (361, [(4, .int (nI s16)), (0, .ref m0), (1, .int (nI k)), (2, .int (nI p)), (3, .int (nI (by1 f p)))], [.ref m0, .ref m0], M1)) rfl rfl rfl ?_
                          refine ps_st (S' := (362, [(4, .int (nI s16)), (0, .ref m0), (1, .int (nI k)), (2, .int (nI p)), (3, .int (nI (by1 f p)))], [.ref m0, .ref m0, .ref m0], M1)) rfl rfl rfl ?_
                          refine ps_st (S' := (363, [(4, .int (nI s16)), (0, .ref m0), (1, .int (nI k)), (2, .int (nI p)), (3, .int (nI (by1 f p)))], [.int (nI k), .ref m0, .ref m0, .ref m0], M1)) rfl rfl rfl ?_
                          refine ps_st (S' := (364, [(4, .int (nI s16)), (0, .ref m0), (1, .int (nI k)), (2, .int (nI p)), (3, .int (nI (by1 f p)))], [.int 3, .int (nI k), .ref m0, .ref m0, .ref m0], M1)) rfl rfl rfl ?_
                          refine pl_call (a := [.ref m0, .int (nI k), .int 3]) (rest := [.ref m0, .ref m0]) rfl rfl rfl (rd_idx3 (n := n) (f := f) (tx := tx) (cN := cN) (A := A) (N := N) (mj := mj) (E := E) (k := k) hR1 hl51 hl52 hl53 hF1 hY1 hP1 (hEP) (hN) (hmj) (by omega)) (fun v17 M18 q19 => ?_)
                          obtain ⟨rfl, rfl⟩ := q19
                          show pl _ _ _ (367, [(4, .int (nI s16)), (0, .ref m0), (1, .int (nI k)), (2, .int (nI p)), (3, .int (nI (by1 f p)))], [.int (nI (se f E k)), .ref m0, .ref m0], M1) _
                          have hix_364 := se_lt f E k
                          refine ps_st (S' := (368, [(4, .int (nI s16)), (0, .ref m0), (1, .int (nI k)), (2, .int (nI p)), (3, .int (nI (by1 f p)))], [.int 3, .int (nI (se f E k)), .ref m0, .ref m0], M1)) rfl rfl rfl ?_
                          refine pl_call (a := [.ref m0, .int (nI (se f E k)), .int 3]) (rest := [.ref m0]) rfl rfl rfl (rd_idx3 (n := n) (f := f) (tx := tx) (cN := cN) (A := A) (N := N) (mj := mj) (E := E) (k := (se f E k)) hR1 hl51 hl52 hl53 hF1 hY1 hP1 (hEP) (hN) (hmj) (by omega)) (fun v20 M21 q22 => ?_)
                          obtain ⟨rfl, rfl⟩ := q22
                          show pl _ _ _ (371, [(4, .int (nI s16)), (0, .ref m0), (1, .int (nI k)), (2, .int (nI p)), (3, .int (nI (by1 f p)))], [.int (nI (se f E (se f E k))), .ref m0], M1) _
                          have hix_368 := se_lt f E (se f E k)
                          refine pl_call (a := [.ref m0, .int (nI (se f E (se f E k)))]) (rest := []) rfl rfl rfl (rd_symOf (n := n) (f := f) (tx := tx) (cN := cN) (A := A) (N := N) (mj := mj) (E := E) (k := (se f E (se f E k))) hR1 hl51 hl52 hl53 hF1 hY1 hP1 (hEP) (hN) (hmj) (by omega)) (fun v23 M24 q25 => ?_)
                          obtain ⟨s26, q371_s, rfl, rfl⟩ := q25
                          show pl _ _ _ (374, [(4, .int (nI s16)), (0, .ref m0), (1, .int (nI k)), (2, .int (nI p)), (3, .int (nI (by1 f p)))], [.int (nI s26)], M1) _
                          have hsl_371 := q371_s.1
                          have htl_371 := hY1.1.2.2.1
                          refine ps_st (S' := (376, [(5, .int (nI s26)), (4, .int (nI s16)), (0, .ref m0), (1, .int (nI k)), (2, .int (nI p)), (3, .int (nI (by1 f p)))], [], M1)) rfl rfl rfl ?_
                          refine ps_st (S' := (377, [(5, .int (nI s26)), (4, .int (nI s16)), (0, .ref m0), (1, .int (nI k)), (2, .int (nI p)), (3, .int (nI (by1 f p)))], [.ref m0], M1)) rfl rfl rfl ?_
                          refine ps_st (S' := (379, [(5, .int (nI s26)), (4, .int (nI s16)), (0, .ref m0), (1, .int (nI k)), (2, .int (nI p)), (3, .int (nI (by1 f p)))], [.int (nI s16), .ref m0], M1)) rfl rfl rfl ?_
                          refine pl_call (a := [.ref m0, .int (nI s16)]) (rest := []) rfl rfl rfl (rd_angles (tx := tx) (cN := cN) (A := A) (s := s16) (l := (tX f n E (fi f E (se f E k)))) hR1 hY1 (q354_s)) (fun v27 M28 q29 => ?_)
                          obtain ⟨rfl, rfl⟩ := q29
                          show pl _ _ _ (382, [(5, .int (nI s26)), (4, .int (nI s16)), (0, .ref m0), (1, .int (nI k)), (2, .int (nI p)), (3, .int (nI (by1 f p)))], [.int (nI (angN (tX f n E (fi f E (se f E k)))))], M1) _
                          refine ps_if (S1 := (412, [(0, .ref m0), (2, .int (nI p))], [], M1)) (S2 := (385, [(5, .int (nI s26)), (4, .int (nI s16)), (0, .ref m0), (1, .int (nI k)), (2, .int (nI p)), (3, .int (nI (by1 f p)))], [], M1)) rfl rfl rfl (fun c_382 => ?_) (fun c_382 => ?_)
                          · have c_382 : ¬ (nI (angN (tX f n E (fi f E (se f E k))))) = 0 := of_decide_eq_true c_382
                            have n_382 : ¬ (angN (tX f n E (fi f E (se f E k))) = 0) := fun h9 => c_382 ((eq_nI (p := angN (tX f n E (fi f E (se f E k)))) (n := 0) (Nat.lt_trans (le1_ang _) (by decide)) (by decide)).mpr h9)
                            refine ps_st (S' := (413, [(0, .ref m0), (2, .int (nI p))], [.ref m0], M1)) rfl rfl rfl ?_
                            refine ps_st (S' := (415, [(0, .ref m0), (2, .int (nI p))], [.int 14, .ref m0], M1)) rfl rfl rfl ?_
                            refine ps_st (S' := (416, [(0, .ref m0), (2, .int (nI p))], [.int (nI p), .int 14, .ref m0], M1)) rfl rfl rfl ?_
                            refine pl_call (a := [.ref m0, .int 14, .int (nI p)]) (rest := []) rfl rfl rfl (rd_wrong (x1 := 14) (x2 := (nI p)) hR1) (fun v30 M31 q32 => ?_)
                            obtain ⟨I33, R34, rfl, hR35, hI36, hX37, hi38, hi39⟩ := q32
                            have hi40 := (hI36 51 (by decide)).trans hl51
                            have hi41 := (hI36 52 (by decide)).trans hl52
                            have hi42 := (hI36 53 (by decide)).trans hl53
                            have hi43 := (hI36 9 (by decide)).trans hl9
                            have hF_44 := hF1.mono (cIx hI36 (by decide)) (cRx hX37 (by decide))
                            have hY_45 := hY1.mono (cIx hI36 (by decide)) (cRx hX37 (by decide))
                            have hP_46 := hP1.mono (cIx hI36 (by decide)) (cRx hX37 (by decide))
                            have hEI47 := hEI1.tr hI36 (by decide)
                            have hER48 := hER1.tr hX37 (by decide)
                            show pl _ _ _ (419, [(0, .ref m0), (2, .int (nI p))], [.int 0], M31) _
                            exact ps_ret rfl rfl (Or.inr ⟨(14, p), I33, R34, by
                                have hb : brkN f n E mj k = 14 := by
                                  have e12 := nwt_9 (f := f) (n := n) (E := E) (k := k)
                                  have e13 := mrf_9 (f := f) (n := n) (E := E) (k := k)
                                  unfold brkN
                                  first | ((repeat first | rw [if_pos (by omega)] | rw [if_neg (by omega)]) <;> first | rfl | omega) | ((repeat' split) <;> first | rfl | (exfalso; omega) | omega)
                                rw [← hs, chkP_st (k := k) (by omega), if_neg (by omega), if_neg (by omega), hb, htp], rfl, hR35, hEI47, hER48, hi38, hi39⟩)
                          · have c_382 : ¬ (¬ (nI (angN (tX f n E (fi f E (se f E k))))) = 0) := of_decide_eq_false c_382
                            have n_382 : angN (tX f n E (fi f E (se f E k))) = 0 := (eq_nI (p := angN (tX f n E (fi f E (se f E k)))) (n := 0) (Nat.lt_trans (le1_ang _) (by decide)) (by decide)).mp (Decidable.not_not.mp c_382)
                            refine ps_st (S' := (386, [(5, .int (nI s26)), (4, .int (nI s16)), (0, .ref m0), (1, .int (nI k)), (2, .int (nI p)), (3, .int (nI (by1 f p)))], [.int (nI (by1 f p))], M1)) rfl rfl rfl ?_
                            refine ps_st (S' := (388, [(5, .int (nI s26)), (4, .int (nI s16)), (0, .ref m0), (1, .int (nI k)), (2, .int (nI p)), (3, .int (nI (by1 f p)))], [.int 17, .int (nI (by1 f p))], M1)) rfl rfl rfl ?_
                            refine ps_if2 (S1 := (403, [(5, .int (nI s26)), (4, .int (nI s16)), (0, .ref m0), (1, .int (nI k)), (2, .int (nI p)), (3, .int (nI (by1 f p)))], [], M1)) (S2 := (391, [(5, .int (nI s26)), (4, .int (nI s16)), (0, .ref m0), (1, .int (nI k)), (2, .int (nI p)), (3, .int (nI (by1 f p)))], [], M1)) rfl rfl rfl (fun c_388 => ?_) (fun c_388 => ?_)
                            · exact absurd (of_decide_eq_true c_388) (fun h9 => h9 ((eq_nI (p := by1 f p) (n := 17) (Nat.lt_trans (by1_lt _ _) (by decide)) (by decide)).mpr (by omega)))
                            refine ps_st (S' := (392, [(5, .int (nI s26)), (4, .int (nI s16)), (0, .ref m0), (1, .int (nI k)), (2, .int (nI p)), (3, .int (nI (by1 f p)))], [.ref m0], M1)) rfl rfl rfl ?_
                            refine ps_st (S' := (394, [(5, .int (nI s26)), (4, .int (nI s16)), (0, .ref m0), (1, .int (nI k)), (2, .int (nI p)), (3, .int (nI (by1 f p)))], [.int (nI s26), .ref m0], M1)) rfl rfl rfl ?_
                            refine pl_call (a := [.ref m0, .int (nI s26)]) (rest := []) rfl rfl rfl (rd_isField (tx := tx) (cN := cN) (A := A) (s := s26) (l := (tX f n E (se f E (se f E k)))) hR1 hY1 (q371_s)) (fun v49 M50 q51 => ?_)
                            obtain ⟨rfl, rfl⟩ := q51
                            show pl _ _ _ (397, [(5, .int (nI s26)), (4, .int (nI s16)), (0, .ref m0), (1, .int (nI k)), (2, .int (nI p)), (3, .int (nI (by1 f p)))], [.int (nI (fldN (tX f n E (se f E (se f E k)))))], M1) _
                            refine ps_if (S1 := (412, [(0, .ref m0), (2, .int (nI p))], [], M1)) (S2 := (400, [(5, .int (nI s26)), (4, .int (nI s16)), (0, .ref m0), (1, .int (nI k)), (2, .int (nI p)), (3, .int (nI (by1 f p)))], [], M1)) rfl rfl rfl (fun c_397 => ?_) (fun c_397 => ?_)
                            · have c_397 : (nI (fldN (tX f n E (se f E (se f E k))))) = 0 := of_decide_eq_true c_397
                              have n_397 : fldN (tX f n E (se f E (se f E k))) = 0 := (eq_nI (p := fldN (tX f n E (se f E (se f E k)))) (n := 0) (Nat.lt_trans (le1_fld _) (by decide)) (by decide)).mp c_397
                              refine ps_st (S' := (413, [(0, .ref m0), (2, .int (nI p))], [.ref m0], M1)) rfl rfl rfl ?_
                              refine ps_st (S' := (415, [(0, .ref m0), (2, .int (nI p))], [.int 14, .ref m0], M1)) rfl rfl rfl ?_
                              refine ps_st (S' := (416, [(0, .ref m0), (2, .int (nI p))], [.int (nI p), .int 14, .ref m0], M1)) rfl rfl rfl ?_
                              refine pl_call (a := [.ref m0, .int 14, .int (nI p)]) (rest := []) rfl rfl rfl (rd_wrong (x1 := 14) (x2 := (nI p)) hR1) (fun v52 M53 q54 => ?_)
                              obtain ⟨I55, R56, rfl, hR57, hI58, hX59, hi60, hi61⟩ := q54
                              have hi62 := (hI58 51 (by decide)).trans hl51
                              have hi63 := (hI58 52 (by decide)).trans hl52
                              have hi64 := (hI58 53 (by decide)).trans hl53
                              have hi65 := (hI58 9 (by decide)).trans hl9
                              have hF_66 := hF1.mono (cIx hI58 (by decide)) (cRx hX59 (by decide))
                              have hY_67 := hY1.mono (cIx hI58 (by decide)) (cRx hX59 (by decide))
                              have hP_68 := hP1.mono (cIx hI58 (by decide)) (cRx hX59 (by decide))
                              have hEI69 := hEI1.tr hI58 (by decide)
                              have hER70 := hER1.tr hX59 (by decide)
                              show pl _ _ _ (419, [(0, .ref m0), (2, .int (nI p))], [.int 0], M53) _
                              exact ps_ret rfl rfl (Or.inr ⟨(14, p), I55, R56, by
                                  have hb : brkN f n E mj k = 14 := by
                                    have e12 := nwt_9 (f := f) (n := n) (E := E) (k := k)
                                    have e13 := mrf_9 (f := f) (n := n) (E := E) (k := k)
                                    unfold brkN
                                    first | ((repeat first | rw [if_pos (by omega)] | rw [if_neg (by omega)]) <;> first | rfl | omega) | ((repeat' split) <;> first | rfl | (exfalso; omega) | omega)
                                  rw [← hs, chkP_st (k := k) (by omega), if_neg (by omega), if_neg (by omega), hb, htp], rfl, hR57, hEI69, hER70, hi60, hi61⟩)
                            · have c_397 : ¬ ((nI (fldN (tX f n E (se f E (se f E k))))) = 0) := of_decide_eq_false c_397
                              have n_397 : ¬ (fldN (tX f n E (se f E (se f E k))) = 0) := fun h9 => c_397 ((eq_nI (p := fldN (tX f n E (se f E (se f E k)))) (n := 0) (Nat.lt_trans (le1_fld _) (by decide)) (by decide)).mpr h9)
                              refine ps_st (S' := (420, [(0, .ref m0), (1, .int (nI k))], [], M1)) rfl rfl rfl ?_
                              refine ps_st (S' := (423, [(1, .int ((nI k) + 1)), (0, .ref m0)], [], M1)) rfl rfl rfl ?_
                              rw [nI_add1 (p := k) (k := 1) (x := 1) rfl (by omega)]
                              show pl _ _ _ (_, [(1, .int (nI (k + 1))), (0, .ref m0)], [], M1) _
                              refine ps_st (S' := (2, [(0, .ref m0), (1, .int (nI (k + 1)))], [], M1)) rfl rfl rfl ?_
                              exact ih (k + 1) M1 I1 R1 hR1 hEI1 hER1 hl51 hl52 hl53 hl9 hF1 hY1 hP1 (by omega) (by
                                  have hb : brkN f n E mj k = 0 := by
                                    have e12 := nwt_9 (f := f) (n := n) (E := E) (k := k)
                                    have e13 := mrf_9 (f := f) (n := n) (E := E) (k := k)
                                    unfold brkN
                                    first | ((repeat first | rw [if_pos (by omega)] | rw [if_neg (by omega)]) <;> first | rfl | omega) | ((repeat' split) <;> first | rfl | (exfalso; omega) | omega)
                                  rw [← hs, chkP_st (k := k) (by omega), if_neg (by omega), if_pos hb])
                        · have c_333 : ¬ ((nI (by1 f p)) = 17) := of_decide_eq_false c_333
                          have n_333 : ¬ (by1 f p = 17) := fun h9 => c_333 ((eq_nI (p := by1 f p) (n := 17) (Nat.lt_trans (by1_lt _ _) (by decide)) (by decide)).mpr h9)
                          refine ps_st (S' := (337, [(0, .ref m0), (1, .int (nI k)), (2, .int (nI p)), (3, .int (nI (by1 f p)))], [.int (nI (by1 f p))], M1)) rfl rfl rfl ?_
                          refine ps_st (S' := (339, [(0, .ref m0), (1, .int (nI k)), (2, .int (nI p)), (3, .int (nI (by1 f p)))], [.int 18, .int (nI (by1 f p))], M1)) rfl rfl rfl ?_
                          refine ps_if2 (S1 := (420, [(0, .ref m0), (1, .int (nI k))], [], M1)) (S2 := (342, [(0, .ref m0), (1, .int (nI k)), (2, .int (nI p)), (3, .int (nI (by1 f p)))], [], M1)) rfl rfl rfl (fun c_339 => ?_) (fun c_339 => ?_)
                          · have c_339 : ¬ (nI (by1 f p)) = 18 := of_decide_eq_true c_339
                            have n_339 : ¬ (by1 f p = 18) := fun h9 => c_339 ((eq_nI (p := by1 f p) (n := 18) (Nat.lt_trans (by1_lt _ _) (by decide)) (by decide)).mpr h9)
                            refine ps_st (S' := (423, [(1, .int ((nI k) + 1)), (0, .ref m0)], [], M1)) rfl rfl rfl ?_
                            rw [nI_add1 (p := k) (k := 1) (x := 1) rfl (by omega)]
                            show pl _ _ _ (_, [(1, .int (nI (k + 1))), (0, .ref m0)], [], M1) _
                            refine ps_st (S' := (2, [(0, .ref m0), (1, .int (nI (k + 1)))], [], M1)) rfl rfl rfl ?_
                            exact ih (k + 1) M1 I1 R1 hR1 hEI1 hER1 hl51 hl52 hl53 hl9 hF1 hY1 hP1 (by omega) (by
                                have hb : brkN f n E mj k = 0 := by
                                  have e12 := nwt_9 (f := f) (n := n) (E := E) (k := k)
                                  have e13 := mrf_9 (f := f) (n := n) (E := E) (k := k)
                                  unfold brkN
                                  first | ((repeat first | rw [if_pos (by omega)] | rw [if_neg (by omega)]) <;> first | rfl | omega) | ((repeat' split) <;> first | rfl | (exfalso; omega) | omega)
                                rw [← hs, chkP_st (k := k) (by omega), if_neg (by omega), if_pos hb])
                          · have c_339 : ¬ (¬ (nI (by1 f p)) = 18) := of_decide_eq_false c_339
                            have n_339 : by1 f p = 18 := (eq_nI (p := by1 f p) (n := 18) (Nat.lt_trans (by1_lt _ _) (by decide)) (by decide)).mp (Decidable.not_not.mp c_339)
                            refine ps_st (S' := (343, [(0, .ref m0), (1, .int (nI k)), (2, .int (nI p)), (3, .int (nI (by1 f p)))], [.ref m0], M1)) rfl rfl rfl ?_
                            refine ps_st (S' := (344, [(0, .ref m0), (1, .int (nI k)), (2, .int (nI p)), (3, .int (nI (by1 f p)))], [.ref m0, .ref m0], M1)) rfl rfl rfl ?_
                            refine ps_st (S' := (345, [(0, .ref m0), (1, .int (nI k)), (2, .int (nI p)), (3, .int (nI (by1 f p)))], [.ref m0, .ref m0, .ref m0], M1)) rfl rfl rfl ?_
                            refine ps_st (S' := (346, [(0, .ref m0), (1, .int (nI k)), (2, .int (nI p)), (3, .int (nI (by1 f p)))], [.int (nI k), .ref m0, .ref m0, .ref m0], M1)) rfl rfl rfl ?_
                            refine ps_st (S' := (347, [(0, .ref m0), (1, .int (nI k)), (2, .int (nI p)), (3, .int (nI (by1 f p)))], [.int 3, .int (nI k), .ref m0, .ref m0, .ref m0], M1)) rfl rfl rfl ?_
                            refine pl_call (a := [.ref m0, .int (nI k), .int 3]) (rest := [.ref m0, .ref m0]) rfl rfl rfl (rd_idx3 (n := n) (f := f) (tx := tx) (cN := cN) (A := A) (N := N) (mj := mj) (E := E) (k := k) hR1 hl51 hl52 hl53 hF1 hY1 hP1 (hEP) (hN) (hmj) (by omega)) (fun v71 M72 q73 => ?_)
                            obtain ⟨rfl, rfl⟩ := q73
                            show pl _ _ _ (350, [(0, .ref m0), (1, .int (nI k)), (2, .int (nI p)), (3, .int (nI (by1 f p)))], [.int (nI (se f E k)), .ref m0, .ref m0], M1) _
                            have hix_347 := se_lt f E k
                            refine ps_st (S' := (351, [(0, .ref m0), (1, .int (nI k)), (2, .int (nI p)), (3, .int (nI (by1 f p)))], [.int 1, .int (nI (se f E k)), .ref m0, .ref m0], M1)) rfl rfl rfl ?_
                            refine pl_call (a := [.ref m0, .int (nI (se f E k)), .int 1]) (rest := [.ref m0]) rfl rfl rfl (rd_idx1 (n := n) (f := f) (tx := tx) (cN := cN) (A := A) (N := N) (mj := mj) (E := E) (k := (se f E k)) hR1 hl51 hl52 hl53 hF1 hY1 hP1 (hEP) (hN) (hmj) (by omega)) (fun v74 M75 q76 => ?_)
                            obtain ⟨rfl, rfl⟩ := q76
                            show pl _ _ _ (354, [(0, .ref m0), (1, .int (nI k)), (2, .int (nI p)), (3, .int (nI (by1 f p)))], [.int (nI (fi f E (se f E k))), .ref m0], M1) _
                            have hix_351 := fi_lt f E (se f E k)
                            refine pl_call (a := [.ref m0, .int (nI (fi f E (se f E k)))]) (rest := []) rfl rfl rfl (rd_symOf (n := n) (f := f) (tx := tx) (cN := cN) (A := A) (N := N) (mj := mj) (E := E) (k := (fi f E (se f E k))) hR1 hl51 hl52 hl53 hF1 hY1 hP1 (hEP) (hN) (hmj) (by omega)) (fun v77 M78 q79 => ?_)
                            obtain ⟨s80, q354_s, rfl, rfl⟩ := q79
                            show pl _ _ _ (357, [(0, .ref m0), (1, .int (nI k)), (2, .int (nI p)), (3, .int (nI (by1 f p)))], [.int (nI s80)], M1) _
                            have hsl_354 := q354_s.1
                            have htl_354 := hY1.1.2.2.1
                            refine ps_st (S' := (359, [(4, .int (nI s80)), (0, .ref m0), (1, .int (nI k)), (2, .int (nI p)), (3, .int (nI (by1 f p)))], [], M1)) rfl rfl rfl ?_
                            refine ps_st (S' := (360, [(4, .int (nI s80)), (0, .ref m0), (1, .int (nI k)), (2, .int (nI p)), (3, .int (nI (by1 f p)))], [.ref m0], M1)) rfl rfl rfl ?_
                            refine ps_st (S' := (361, [(4, .int (nI s80)), (0, .ref m0), (1, .int (nI k)), (2, .int (nI p)), (3, .int (nI (by1 f p)))], [.ref m0, .ref m0], M1)) rfl rfl rfl ?_
                            refine ps_st (S' := (362, [(4, .int (nI s80)), (0, .ref m0), (1, .int (nI k)), (2, .int (nI p)), (3, .int (nI (by1 f p)))], [.ref m0, .ref m0, .ref m0], M1)) rfl rfl rfl ?_
                            refine ps_st (S' := (363, [(4, .int (nI s80)), (0, .ref m0), (1, .int (nI k)), (2, .int (nI p)), (3, .int (nI (by1 f p)))], [.int (nI k), .ref m0, .ref m0, .ref m0], M1)) rfl rfl rfl ?_
                            refine ps_st (S' := (364, [(4, .int (nI s80)), (0, .ref m0), (1, .int (nI k)), (2, .int (nI p)), (3, .int (nI (by1 f p)))], [.int 3, .int (nI k), .ref m0, .ref m0, .ref m0], M1)) rfl rfl rfl ?_
                            refine pl_call (a := [.ref m0, .int (nI k), .int 3]) (rest := [.ref m0, .ref m0]) rfl rfl rfl (rd_idx3 (n := n) (f := f) (tx := tx) (cN := cN) (A := A) (N := N) (mj := mj) (E := E) (k := k) hR1 hl51 hl52 hl53 hF1 hY1 hP1 (hEP) (hN) (hmj) (by omega)) (fun v81 M82 q83 => ?_)
                            obtain ⟨rfl, rfl⟩ := q83
                            show pl _ _ _ (367, [(4, .int (nI s80)), (0, .ref m0), (1, .int (nI k)), (2, .int (nI p)), (3, .int (nI (by1 f p)))], [.int (nI (se f E k)), .ref m0, .ref m0], M1) _
                            have hix_364 := se_lt f E k
                            refine ps_st (S' := (368, [(4, .int (nI s80)), (0, .ref m0), (1, .int (nI k)), (2, .int (nI p)), (3, .int (nI (by1 f p)))], [.int 3, .int (nI (se f E k)), .ref m0, .ref m0], M1)) rfl rfl rfl ?_
                            refine pl_call (a := [.ref m0, .int (nI (se f E k)), .int 3]) (rest := [.ref m0]) rfl rfl rfl (rd_idx3 (n := n) (f := f) (tx := tx) (cN := cN) (A := A) (N := N) (mj := mj) (E := E) (k := (se f E k)) hR1 hl51 hl52 hl53 hF1 hY1 hP1 (hEP) (hN) (hmj) (by omega)) (fun v84 M85 q86 => ?_)
                            obtain ⟨rfl, rfl⟩ := q86
                            show pl _ _ _ (371, [(4, .int (nI s80)), (0, .ref m0), (1, .int (nI k)), (2, .int (nI p)), (3, .int (nI (by1 f p)))], [.int (nI (se f E (se f E k))), .ref m0], M1) _
                            have hix_368 := se_lt f E (se f E k)
                            refine pl_call (a := [.ref m0, .int (nI (se f E (se f E k)))]) (rest := []) rfl rfl rfl (rd_symOf (n := n) (f := f) (tx := tx) (cN := cN) (A := A) (N := N) (mj := mj) (E := E) (k := (se f E (se f E k))) hR1 hl51 hl52 hl53 hF1 hY1 hP1 (hEP) (hN) (hmj) (by omega)) (fun v87 M88 q89 => ?_)
                            obtain ⟨s90, q371_s, rfl, rfl⟩ := q89
                            show pl _ _ _ (374, [(4, .int (nI s80)), (0, .ref m0), (1, .int (nI k)), (2, .int (nI p)), (3, .int (nI (by1 f p)))], [.int (nI s90)], M1) _
                            have hsl_371 := q371_s.1
                            have htl_371 := hY1.1.2.2.1
                            refine ps_st (S' := (376, [(5, .int (nI s90)), (4, .int (nI s80)), (0, .ref m0), (1, .int (nI k)), (2, .int (nI p)), (3, .int (nI (by1 f p)))], [], M1)) rfl rfl rfl ?_
                            refine ps_st (S' := (377, [(5, .int (nI s90)), (4, .int (nI s80)), (0, .ref m0), (1, .int (nI k)), (2, .int (nI p)), (3, .int (nI (by1 f p)))], [.ref m0], M1)) rfl rfl rfl ?_
                            refine ps_st (S' := (379, [(5, .int (nI s90)), (4, .int (nI s80)), (0, .ref m0), (1, .int (nI k)), (2, .int (nI p)), (3, .int (nI (by1 f p)))], [.int (nI s80), .ref m0], M1)) rfl rfl rfl ?_
                            refine pl_call (a := [.ref m0, .int (nI s80)]) (rest := []) rfl rfl rfl (rd_angles (tx := tx) (cN := cN) (A := A) (s := s80) (l := (tX f n E (fi f E (se f E k)))) hR1 hY1 (q354_s)) (fun v91 M92 q93 => ?_)
                            obtain ⟨rfl, rfl⟩ := q93
                            show pl _ _ _ (382, [(5, .int (nI s90)), (4, .int (nI s80)), (0, .ref m0), (1, .int (nI k)), (2, .int (nI p)), (3, .int (nI (by1 f p)))], [.int (nI (angN (tX f n E (fi f E (se f E k)))))], M1) _
                            refine ps_if (S1 := (412, [(0, .ref m0), (2, .int (nI p))], [], M1)) (S2 := (385, [(5, .int (nI s90)), (4, .int (nI s80)), (0, .ref m0), (1, .int (nI k)), (2, .int (nI p)), (3, .int (nI (by1 f p)))], [], M1)) rfl rfl rfl (fun c_382 => ?_) (fun c_382 => ?_)
                            · have c_382 : ¬ (nI (angN (tX f n E (fi f E (se f E k))))) = 0 := of_decide_eq_true c_382
                              have n_382 : ¬ (angN (tX f n E (fi f E (se f E k))) = 0) := fun h9 => c_382 ((eq_nI (p := angN (tX f n E (fi f E (se f E k)))) (n := 0) (Nat.lt_trans (le1_ang _) (by decide)) (by decide)).mpr h9)
                              refine ps_st (S' := (413, [(0, .ref m0), (2, .int (nI p))], [.ref m0], M1)) rfl rfl rfl ?_
                              refine ps_st (S' := (415, [(0, .ref m0), (2, .int (nI p))], [.int 14, .ref m0], M1)) rfl rfl rfl ?_
                              refine ps_st (S' := (416, [(0, .ref m0), (2, .int (nI p))], [.int (nI p), .int 14, .ref m0], M1)) rfl rfl rfl ?_
                              refine pl_call (a := [.ref m0, .int 14, .int (nI p)]) (rest := []) rfl rfl rfl (rd_wrong (x1 := 14) (x2 := (nI p)) hR1) (fun v94 M95 q96 => ?_)
                              obtain ⟨I97, R98, rfl, hR99, hI100, hX101, hi102, hi103⟩ := q96
                              have hi104 := (hI100 51 (by decide)).trans hl51
                              have hi105 := (hI100 52 (by decide)).trans hl52
                              have hi106 := (hI100 53 (by decide)).trans hl53
                              have hi107 := (hI100 9 (by decide)).trans hl9
                              have hF_108 := hF1.mono (cIx hI100 (by decide)) (cRx hX101 (by decide))
                              have hY_109 := hY1.mono (cIx hI100 (by decide)) (cRx hX101 (by decide))
                              have hP_110 := hP1.mono (cIx hI100 (by decide)) (cRx hX101 (by decide))
                              have hEI111 := hEI1.tr hI100 (by decide)
                              have hER112 := hER1.tr hX101 (by decide)
                              show pl _ _ _ (419, [(0, .ref m0), (2, .int (nI p))], [.int 0], M95) _
                              exact ps_ret rfl rfl (Or.inr ⟨(14, p), I97, R98, by
                                  have hb : brkN f n E mj k = 14 := by
                                    have e12 := nwt_9 (f := f) (n := n) (E := E) (k := k)
                                    have e13 := mrf_9 (f := f) (n := n) (E := E) (k := k)
                                    unfold brkN
                                    first | ((repeat first | rw [if_pos (by omega)] | rw [if_neg (by omega)]) <;> first | rfl | omega) | ((repeat' split) <;> first | rfl | (exfalso; omega) | omega)
                                  rw [← hs, chkP_st (k := k) (by omega), if_neg (by omega), if_neg (by omega), hb, htp], rfl, hR99, hEI111, hER112, hi102, hi103⟩)
                            · have c_382 : ¬ (¬ (nI (angN (tX f n E (fi f E (se f E k))))) = 0) := of_decide_eq_false c_382
                              have n_382 : angN (tX f n E (fi f E (se f E k))) = 0 := (eq_nI (p := angN (tX f n E (fi f E (se f E k)))) (n := 0) (Nat.lt_trans (le1_ang _) (by decide)) (by decide)).mp (Decidable.not_not.mp c_382)
                              refine ps_st (S' := (386, [(5, .int (nI s90)), (4, .int (nI s80)), (0, .ref m0), (1, .int (nI k)), (2, .int (nI p)), (3, .int (nI (by1 f p)))], [.int (nI (by1 f p))], M1)) rfl rfl rfl ?_
                              refine ps_st (S' := (388, [(5, .int (nI s90)), (4, .int (nI s80)), (0, .ref m0), (1, .int (nI k)), (2, .int (nI p)), (3, .int (nI (by1 f p)))], [.int 17, .int (nI (by1 f p))], M1)) rfl rfl rfl ?_
                              refine ps_if2 (S1 := (403, [(5, .int (nI s90)), (4, .int (nI s80)), (0, .ref m0), (1, .int (nI k)), (2, .int (nI p)), (3, .int (nI (by1 f p)))], [], M1)) (S2 := (391, [(5, .int (nI s90)), (4, .int (nI s80)), (0, .ref m0), (1, .int (nI k)), (2, .int (nI p)), (3, .int (nI (by1 f p)))], [], M1)) rfl rfl rfl (fun c_388 => ?_) (fun c_388 => ?_)
                              rotate_left
                              · exact absurd (show ¬ ((nI (by1 f p)) = 17) from fun h9 => absurd ((eq_nI (p := by1 f p) (n := 17) (Nat.lt_trans (by1_lt _ _) (by decide)) (by decide)).mp h9) (by omega)) (of_decide_eq_false c_388)
                              refine ps_st (S' := (404, [(5, .int (nI s90)), (4, .int (nI s80)), (0, .ref m0), (1, .int (nI k)), (2, .int (nI p)), (3, .int (nI (by1 f p)))], [.ref m0], M1)) rfl rfl rfl ?_
                              refine ps_st (S' := (406, [(5, .int (nI s90)), (4, .int (nI s80)), (0, .ref m0), (1, .int (nI k)), (2, .int (nI p)), (3, .int (nI (by1 f p)))], [.int (nI s90), .ref m0], M1)) rfl rfl rfl ?_
                              refine pl_call (a := [.ref m0, .int (nI s90)]) (rest := []) rfl rfl rfl (rd_isMethod (tx := tx) (cN := cN) (A := A) (s := s90) (l := (tX f n E (se f E (se f E k)))) hR1 hY1 (q371_s)) (fun v113 M114 q115 => ?_)
                              obtain ⟨rfl, rfl⟩ := q115
                              show pl _ _ _ (409, [(5, .int (nI s90)), (4, .int (nI s80)), (0, .ref m0), (1, .int (nI k)), (2, .int (nI p)), (3, .int (nI (by1 f p)))], [.int (nI (mthN (tX f n E (se f E (se f E k)))))], M1) _
                              refine ps_if (S1 := (420, [(0, .ref m0), (1, .int (nI k))], [], M1)) (S2 := (412, [(0, .ref m0), (2, .int (nI p))], [], M1)) rfl rfl rfl (fun c_409 => ?_) (fun c_409 => ?_)
                              · have c_409 : ¬ (nI (mthN (tX f n E (se f E (se f E k))))) = 0 := of_decide_eq_true c_409
                                have n_409 : ¬ (mthN (tX f n E (se f E (se f E k))) = 0) := fun h9 => c_409 ((eq_nI (p := mthN (tX f n E (se f E (se f E k)))) (n := 0) (Nat.lt_trans (le1_mth _) (by decide)) (by decide)).mpr h9)
                                refine ps_st (S' := (423, [(1, .int ((nI k) + 1)), (0, .ref m0)], [], M1)) rfl rfl rfl ?_
                                rw [nI_add1 (p := k) (k := 1) (x := 1) rfl (by omega)]
                                show pl _ _ _ (_, [(1, .int (nI (k + 1))), (0, .ref m0)], [], M1) _
                                refine ps_st (S' := (2, [(0, .ref m0), (1, .int (nI (k + 1)))], [], M1)) rfl rfl rfl ?_
                                exact ih (k + 1) M1 I1 R1 hR1 hEI1 hER1 hl51 hl52 hl53 hl9 hF1 hY1 hP1 (by omega) (by
                                    have hb : brkN f n E mj k = 0 := by
                                      have e12 := nwt_9 (f := f) (n := n) (E := E) (k := k)
                                      have e13 := mrf_9 (f := f) (n := n) (E := E) (k := k)
                                      unfold brkN
                                      first | ((repeat first | rw [if_pos (by omega)] | rw [if_neg (by omega)]) <;> first | rfl | omega) | ((repeat' split) <;> first | rfl | (exfalso; omega) | omega)
                                    rw [← hs, chkP_st (k := k) (by omega), if_neg (by omega), if_pos hb])
                              · have c_409 : ¬ (¬ (nI (mthN (tX f n E (se f E (se f E k))))) = 0) := of_decide_eq_false c_409
                                have n_409 : mthN (tX f n E (se f E (se f E k))) = 0 := (eq_nI (p := mthN (tX f n E (se f E (se f E k)))) (n := 0) (Nat.lt_trans (le1_mth _) (by decide)) (by decide)).mp (Decidable.not_not.mp c_409)
                                refine ps_st (S' := (413, [(0, .ref m0), (2, .int (nI p))], [.ref m0], M1)) rfl rfl rfl ?_
                                refine ps_st (S' := (415, [(0, .ref m0), (2, .int (nI p))], [.int 14, .ref m0], M1)) rfl rfl rfl ?_
                                refine ps_st (S' := (416, [(0, .ref m0), (2, .int (nI p))], [.int (nI p), .int 14, .ref m0], M1)) rfl rfl rfl ?_
                                refine pl_call (a := [.ref m0, .int 14, .int (nI p)]) (rest := []) rfl rfl rfl (rd_wrong (x1 := 14) (x2 := (nI p)) hR1) (fun v116 M117 q118 => ?_)
                                obtain ⟨I119, R120, rfl, hR121, hI122, hX123, hi124, hi125⟩ := q118
                                have hi126 := (hI122 51 (by decide)).trans hl51
                                have hi127 := (hI122 52 (by decide)).trans hl52
                                have hi128 := (hI122 53 (by decide)).trans hl53
                                have hi129 := (hI122 9 (by decide)).trans hl9
                                have hF_130 := hF1.mono (cIx hI122 (by decide)) (cRx hX123 (by decide))
                                have hY_131 := hY1.mono (cIx hI122 (by decide)) (cRx hX123 (by decide))
                                have hP_132 := hP1.mono (cIx hI122 (by decide)) (cRx hX123 (by decide))
                                have hEI133 := hEI1.tr hI122 (by decide)
                                have hER134 := hER1.tr hX123 (by decide)
                                show pl _ _ _ (419, [(0, .ref m0), (2, .int (nI p))], [.int 0], M117) _
                                exact ps_ret rfl rfl (Or.inr ⟨(14, p), I119, R120, by
                                    have hb : brkN f n E mj k = 14 := by
                                      have e12 := nwt_9 (f := f) (n := n) (E := E) (k := k)
                                      have e13 := mrf_9 (f := f) (n := n) (E := E) (k := k)
                                      unfold brkN
                                      first | ((repeat first | rw [if_pos (by omega)] | rw [if_neg (by omega)]) <;> first | rfl | omega) | ((repeat' split) <;> first | rfl | (exfalso; omega) | omega)
                                    rw [← hs, chkP_st (k := k) (by omega), if_neg (by omega), if_neg (by omega), hb, htp], rfl, hR121, hEI133, hER134, hi124, hi125⟩)
                      · have c_302 : ¬ (¬ (nI (by1 f p)) = 16) := of_decide_eq_false c_302
                        have n_302 : by1 f p = 16 := (eq_nI (p := by1 f p) (n := 16) (Nat.lt_trans (by1_lt _ _) (by decide)) (by decide)).mp (Decidable.not_not.mp c_302)
                        refine ps_st (S' := (306, [(0, .ref m0), (1, .int (nI k)), (2, .int (nI p)), (3, .int (nI (by1 f p)))], [.ref m0], M1)) rfl rfl rfl ?_
                        refine ps_st (S' := (307, [(0, .ref m0), (1, .int (nI k)), (2, .int (nI p)), (3, .int (nI (by1 f p)))], [.ref m0, .ref m0], M1)) rfl rfl rfl ?_
                        refine ps_st (S' := (308, [(0, .ref m0), (1, .int (nI k)), (2, .int (nI p)), (3, .int (nI (by1 f p)))], [.ref m0, .ref m0, .ref m0], M1)) rfl rfl rfl ?_
                        refine ps_st (S' := (309, [(0, .ref m0), (1, .int (nI k)), (2, .int (nI p)), (3, .int (nI (by1 f p)))], [.int (nI k), .ref m0, .ref m0, .ref m0], M1)) rfl rfl rfl ?_
                        refine ps_st (S' := (310, [(0, .ref m0), (1, .int (nI k)), (2, .int (nI p)), (3, .int (nI (by1 f p)))], [.int 1, .int (nI k), .ref m0, .ref m0, .ref m0], M1)) rfl rfl rfl ?_
                        refine pl_call (a := [.ref m0, .int (nI k), .int 1]) (rest := [.ref m0, .ref m0]) rfl rfl rfl (rd_idx1 (n := n) (f := f) (tx := tx) (cN := cN) (A := A) (N := N) (mj := mj) (E := E) (k := k) hR1 hl51 hl52 hl53 hF1 hY1 hP1 (hEP) (hN) (hmj) (by omega)) (fun v135 M136 q137 => ?_)
                        obtain ⟨rfl, rfl⟩ := q137
                        show pl _ _ _ (313, [(0, .ref m0), (1, .int (nI k)), (2, .int (nI p)), (3, .int (nI (by1 f p)))], [.int (nI (fi f E k)), .ref m0, .ref m0], M1) _
                        have hix_310 := fi_lt f E k
                        refine pl_call (a := [.ref m0, .int (nI (fi f E k))]) (rest := [.ref m0]) rfl rfl rfl (rd_symOf (n := n) (f := f) (tx := tx) (cN := cN) (A := A) (N := N) (mj := mj) (E := E) (k := (fi f E k)) hR1 hl51 hl52 hl53 hF1 hY1 hP1 (hEP) (hN) (hmj) (by omega)) (fun v138 M139 q140 => ?_)
                        obtain ⟨s141, q313_s, rfl, rfl⟩ := q140
                        show pl _ _ _ (316, [(0, .ref m0), (1, .int (nI k)), (2, .int (nI p)), (3, .int (nI (by1 f p)))], [.int (nI s141), .ref m0], M1) _
                        have hsl_313 := q313_s.1
                        have htl_313 := hY1.1.2.2.1
                        refine pl_call (a := [.ref m0, .int (nI s141)]) (rest := []) rfl rfl rfl (rd_isMethod (tx := tx) (cN := cN) (A := A) (s := s141) (l := (tX f n E (fi f E k))) hR1 hY1 (q313_s)) (fun v142 M143 q144 => ?_)
                        obtain ⟨rfl, rfl⟩ := q144
                        show pl _ _ _ (319, [(0, .ref m0), (1, .int (nI k)), (2, .int (nI p)), (3, .int (nI (by1 f p)))], [.int (nI (mthN (tX f n E (fi f E k))))], M1) _
                        refine ps_if (S1 := (330, [(0, .ref m0), (1, .int (nI k)), (2, .int (nI p)), (3, .int (nI (by1 f p)))], [], M1)) (S2 := (322, [(0, .ref m0), (1, .int (nI k)), (2, .int (nI p)), (3, .int (nI (by1 f p)))], [], M1)) rfl rfl rfl (fun c_319 => ?_) (fun c_319 => ?_)
                        · have c_319 : ¬ (nI (mthN (tX f n E (fi f E k)))) = 0 := of_decide_eq_true c_319
                          have n_319 : ¬ (mthN (tX f n E (fi f E k)) = 0) := fun h9 => c_319 ((eq_nI (p := mthN (tX f n E (fi f E k))) (n := 0) (Nat.lt_trans (le1_mth _) (by decide)) (by decide)).mpr h9)
                          refine ps_st (S' := (331, [(0, .ref m0), (1, .int (nI k)), (2, .int (nI p)), (3, .int (nI (by1 f p)))], [.int (nI (by1 f p))], M1)) rfl rfl rfl ?_
                          refine ps_st (S' := (333, [(0, .ref m0), (1, .int (nI k)), (2, .int (nI p)), (3, .int (nI (by1 f p)))], [.int 17, .int (nI (by1 f p))], M1)) rfl rfl rfl ?_
                          refine ps_if2 (S1 := (342, [(0, .ref m0), (1, .int (nI k)), (2, .int (nI p)), (3, .int (nI (by1 f p)))], [], M1)) (S2 := (336, [(0, .ref m0), (1, .int (nI k)), (2, .int (nI p)), (3, .int (nI (by1 f p)))], [], M1)) rfl rfl rfl (fun c_333 => ?_) (fun c_333 => ?_)
                          · exact absurd (of_decide_eq_true c_333) (show ¬ ((nI (by1 f p)) = 17) from fun h9 => absurd ((eq_nI (p := by1 f p) (n := 17) (Nat.lt_trans (by1_lt _ _) (by decide)) (by decide)).mp h9) (by omega))
                          refine ps_st (S' := (337, [(0, .ref m0), (1, .int (nI k)), (2, .int (nI p)), (3, .int (nI (by1 f p)))], [.int (nI (by1 f p))], M1)) rfl rfl rfl ?_
                          refine ps_st (S' := (339, [(0, .ref m0), (1, .int (nI k)), (2, .int (nI p)), (3, .int (nI (by1 f p)))], [.int 18, .int (nI (by1 f p))], M1)) rfl rfl rfl ?_
                          refine ps_if2 (S1 := (420, [(0, .ref m0), (1, .int (nI k))], [], M1)) (S2 := (342, [(0, .ref m0), (1, .int (nI k)), (2, .int (nI p)), (3, .int (nI (by1 f p)))], [], M1)) rfl rfl rfl (fun c_339 => ?_) (fun c_339 => ?_)
                          rotate_left
                          · exact absurd (show ¬ ((nI (by1 f p)) = 18) from fun h9 => absurd ((eq_nI (p := by1 f p) (n := 18) (Nat.lt_trans (by1_lt _ _) (by decide)) (by decide)).mp h9) (by omega)) (of_decide_eq_false c_339)
                          refine ps_st (S' := (423, [(1, .int ((nI k) + 1)), (0, .ref m0)], [], M1)) rfl rfl rfl ?_
                          rw [nI_add1 (p := k) (k := 1) (x := 1) rfl (by omega)]
                          show pl _ _ _ (_, [(1, .int (nI (k + 1))), (0, .ref m0)], [], M1) _
                          refine ps_st (S' := (2, [(0, .ref m0), (1, .int (nI (k + 1)))], [], M1)) rfl rfl rfl ?_
                          exact ih (k + 1) M1 I1 R1 hR1 hEI1 hER1 hl51 hl52 hl53 hl9 hF1 hY1 hP1 (by omega) (by
                              have hb : brkN f n E mj k = 0 := by
                                have e12 := nwt_9 (f := f) (n := n) (E := E) (k := k)
                                have e13 := mrf_9 (f := f) (n := n) (E := E) (k := k)
                                unfold brkN
                                first | ((repeat first | rw [if_pos (by omega)] | rw [if_neg (by omega)]) <;> first | rfl | omega) | ((repeat' split) <;> first | rfl | (exfalso; omega) | omega)
                              rw [← hs, chkP_st (k := k) (by omega), if_neg (by omega), if_pos hb])
                        · have c_319 : ¬ (¬ (nI (mthN (tX f n E (fi f E k)))) = 0) := of_decide_eq_false c_319
                          have n_319 : mthN (tX f n E (fi f E k)) = 0 := (eq_nI (p := mthN (tX f n E (fi f E k))) (n := 0) (Nat.lt_trans (le1_mth _) (by decide)) (by decide)).mp (Decidable.not_not.mp c_319)
                          refine ps_st (S' := (323, [(0, .ref m0), (1, .int (nI k)), (2, .int (nI p)), (3, .int (nI (by1 f p)))], [.ref m0], M1)) rfl rfl rfl ?_
                          refine ps_st (S' := (325, [(0, .ref m0), (1, .int (nI k)), (2, .int (nI p)), (3, .int (nI (by1 f p)))], [.int 14, .ref m0], M1)) rfl rfl rfl ?_
                          refine ps_st (S' := (326, [(0, .ref m0), (1, .int (nI k)), (2, .int (nI p)), (3, .int (nI (by1 f p)))], [.int (nI p), .int 14, .ref m0], M1)) rfl rfl rfl ?_
                          refine pl_call (a := [.ref m0, .int 14, .int (nI p)]) (rest := []) rfl rfl rfl (rd_wrong (x1 := 14) (x2 := (nI p)) hR1) (fun v145 M146 q147 => ?_)
                          obtain ⟨I148, R149, rfl, hR150, hI151, hX152, hi153, hi154⟩ := q147
                          have hi155 := (hI151 51 (by decide)).trans hl51
                          have hi156 := (hI151 52 (by decide)).trans hl52
                          have hi157 := (hI151 53 (by decide)).trans hl53
                          have hi158 := (hI151 9 (by decide)).trans hl9
                          have hF_159 := hF1.mono (cIx hI151 (by decide)) (cRx hX152 (by decide))
                          have hY_160 := hY1.mono (cIx hI151 (by decide)) (cRx hX152 (by decide))
                          have hP_161 := hP1.mono (cIx hI151 (by decide)) (cRx hX152 (by decide))
                          have hEI162 := hEI1.tr hI151 (by decide)
                          have hER163 := hER1.tr hX152 (by decide)
                          show pl _ _ _ (329, [(0, .ref m0), (1, .int (nI k)), (2, .int (nI p)), (3, .int (nI (by1 f p)))], [.int 0], M146) _
                          exact ps_ret rfl rfl (Or.inr ⟨(14, p), I148, R149, by
                              have hb : brkN f n E mj k = 14 := by
                                have e12 := nwt_9 (f := f) (n := n) (E := E) (k := k)
                                have e13 := mrf_9 (f := f) (n := n) (E := E) (k := k)
                                unfold brkN
                                first | ((repeat first | rw [if_pos (by omega)] | rw [if_neg (by omega)]) <;> first | rfl | omega) | ((repeat' split) <;> first | rfl | (exfalso; omega) | omega)
                              rw [← hs, chkP_st (k := k) (by omega), if_neg (by omega), if_neg (by omega), hb, htp], rfl, hR150, hEI162, hER163, hi153, hi154⟩)
                    · have c_280 : ¬ (¬ (nI (by1 f p)) = 15) := of_decide_eq_false c_280
                      have n_280 : by1 f p = 15 := (eq_nI (p := by1 f p) (n := 15) (Nat.lt_trans (by1_lt _ _) (by decide)) (by decide)).mp (Decidable.not_not.mp c_280)
                      refine ps_st (S' := (284, [(0, .ref m0), (1, .int (nI k)), (2, .int (nI p)), (3, .int (nI (by1 f p)))], [.ref m0], M1)) rfl rfl rfl ?_
                      refine ps_st (S' := (285, [(0, .ref m0), (1, .int (nI k)), (2, .int (nI p)), (3, .int (nI (by1 f p)))], [.int (nI k), .ref m0], M1)) rfl rfl rfl ?_
                      refine pl_call (a := [.ref m0, .int (nI k)]) (rest := []) rfl rfl rfl (rd_handleEntry (n := n) (f := f) (tx := tx) (cN := cN) (A := A) (N := N) (mj := mj) (E := E) (s1 := s1) (k := k) hR1 hl51 hl52 hl53 hl9 hF1 hY1 hP1 (hEP) (hN) (hmj) (hs1) (by omega) (by omega)) (fun v164 M165 q166 => ?_)
                      obtain ⟨rfl, rfl⟩ := q166
                      show pl _ _ _ (288, [(0, .ref m0), (1, .int (nI k)), (2, .int (nI p)), (3, .int (nI (by1 f p)))], [.int (nI (hdlN f n E mj (fi f E k) (se f E k)))], M1) _
                      refine ps_if (S1 := (299, [(0, .ref m0), (1, .int (nI k)), (2, .int (nI p)), (3, .int (nI (by1 f p)))], [], M1)) (S2 := (291, [(0, .ref m0), (1, .int (nI k)), (2, .int (nI p)), (3, .int (nI (by1 f p)))], [], M1)) rfl rfl rfl (fun c_288 => ?_) (fun c_288 => ?_)
                      · have c_288 : ¬ (nI (hdlN f n E mj (fi f E k) (se f E k))) = 0 := of_decide_eq_true c_288
                        have n_288 : ¬ (hdlN f n E mj (fi f E k) (se f E k) = 0) := fun h9 => c_288 ((eq_nI (p := hdlN f n E mj (fi f E k) (se f E k)) (n := 0) (Nat.lt_trans (le1_hdl _ _ _ _ _ _) (by decide)) (by decide)).mpr h9)
                        refine ps_st (S' := (300, [(0, .ref m0), (1, .int (nI k)), (2, .int (nI p)), (3, .int (nI (by1 f p)))], [.int (nI (by1 f p))], M1)) rfl rfl rfl ?_
                        refine ps_st (S' := (302, [(0, .ref m0), (1, .int (nI k)), (2, .int (nI p)), (3, .int (nI (by1 f p)))], [.int 16, .int (nI (by1 f p))], M1)) rfl rfl rfl ?_
                        refine ps_if2 (S1 := (330, [(0, .ref m0), (1, .int (nI k)), (2, .int (nI p)), (3, .int (nI (by1 f p)))], [], M1)) (S2 := (305, [(0, .ref m0), (1, .int (nI k)), (2, .int (nI p)), (3, .int (nI (by1 f p)))], [], M1)) rfl rfl rfl (fun c_302 => ?_) (fun c_302 => ?_)
                        rotate_left
                        · exact absurd (show ¬ ((nI (by1 f p)) = 16) from fun h9 => absurd ((eq_nI (p := by1 f p) (n := 16) (Nat.lt_trans (by1_lt _ _) (by decide)) (by decide)).mp h9) (by omega)) (of_decide_eq_false c_302)
                        refine ps_st (S' := (331, [(0, .ref m0), (1, .int (nI k)), (2, .int (nI p)), (3, .int (nI (by1 f p)))], [.int (nI (by1 f p))], M1)) rfl rfl rfl ?_
                        refine ps_st (S' := (333, [(0, .ref m0), (1, .int (nI k)), (2, .int (nI p)), (3, .int (nI (by1 f p)))], [.int 17, .int (nI (by1 f p))], M1)) rfl rfl rfl ?_
                        refine ps_if2 (S1 := (342, [(0, .ref m0), (1, .int (nI k)), (2, .int (nI p)), (3, .int (nI (by1 f p)))], [], M1)) (S2 := (336, [(0, .ref m0), (1, .int (nI k)), (2, .int (nI p)), (3, .int (nI (by1 f p)))], [], M1)) rfl rfl rfl (fun c_333 => ?_) (fun c_333 => ?_)
                        · exact absurd (of_decide_eq_true c_333) (show ¬ ((nI (by1 f p)) = 17) from fun h9 => absurd ((eq_nI (p := by1 f p) (n := 17) (Nat.lt_trans (by1_lt _ _) (by decide)) (by decide)).mp h9) (by omega))
                        refine ps_st (S' := (337, [(0, .ref m0), (1, .int (nI k)), (2, .int (nI p)), (3, .int (nI (by1 f p)))], [.int (nI (by1 f p))], M1)) rfl rfl rfl ?_
                        refine ps_st (S' := (339, [(0, .ref m0), (1, .int (nI k)), (2, .int (nI p)), (3, .int (nI (by1 f p)))], [.int 18, .int (nI (by1 f p))], M1)) rfl rfl rfl ?_
                        refine ps_if2 (S1 := (420, [(0, .ref m0), (1, .int (nI k))], [], M1)) (S2 := (342, [(0, .ref m0), (1, .int (nI k)), (2, .int (nI p)), (3, .int (nI (by1 f p)))], [], M1)) rfl rfl rfl (fun c_339 => ?_) (fun c_339 => ?_)
                        rotate_left
                        · exact absurd (show ¬ ((nI (by1 f p)) = 18) from fun h9 => absurd ((eq_nI (p := by1 f p) (n := 18) (Nat.lt_trans (by1_lt _ _) (by decide)) (by decide)).mp h9) (by omega)) (of_decide_eq_false c_339)
                        refine ps_st (S' := (423, [(1, .int ((nI k) + 1)), (0, .ref m0)], [], M1)) rfl rfl rfl ?_
                        rw [nI_add1 (p := k) (k := 1) (x := 1) rfl (by omega)]
                        show pl _ _ _ (_, [(1, .int (nI (k + 1))), (0, .ref m0)], [], M1) _
                        refine ps_st (S' := (2, [(0, .ref m0), (1, .int (nI (k + 1)))], [], M1)) rfl rfl rfl ?_
                        exact ih (k + 1) M1 I1 R1 hR1 hEI1 hER1 hl51 hl52 hl53 hl9 hF1 hY1 hP1 (by omega) (by
                            have hb : brkN f n E mj k = 0 := by
                              have e12 := nwt_9 (f := f) (n := n) (E := E) (k := k)
                              have e13 := mrf_9 (f := f) (n := n) (E := E) (k := k)
                              unfold brkN
                              first | ((repeat first | rw [if_pos (by omega)] | rw [if_neg (by omega)]) <;> first | rfl | omega) | ((repeat' split) <;> first | rfl | (exfalso; omega) | omega)
                            rw [← hs, chkP_st (k := k) (by omega), if_neg (by omega), if_pos hb])
                      · have c_288 : ¬ (¬ (nI (hdlN f n E mj (fi f E k) (se f E k))) = 0) := of_decide_eq_false c_288
                        have n_288 : hdlN f n E mj (fi f E k) (se f E k) = 0 := (eq_nI (p := hdlN f n E mj (fi f E k) (se f E k)) (n := 0) (Nat.lt_trans (le1_hdl _ _ _ _ _ _) (by decide)) (by decide)).mp (Decidable.not_not.mp c_288)
                        refine ps_st (S' := (292, [(0, .ref m0), (1, .int (nI k)), (2, .int (nI p)), (3, .int (nI (by1 f p)))], [.ref m0], M1)) rfl rfl rfl ?_
                        refine ps_st (S' := (294, [(0, .ref m0), (1, .int (nI k)), (2, .int (nI p)), (3, .int (nI (by1 f p)))], [.int 13, .ref m0], M1)) rfl rfl rfl ?_
                        refine ps_st (S' := (295, [(0, .ref m0), (1, .int (nI k)), (2, .int (nI p)), (3, .int (nI (by1 f p)))], [.int (nI p), .int 13, .ref m0], M1)) rfl rfl rfl ?_
                        refine pl_call (a := [.ref m0, .int 13, .int (nI p)]) (rest := []) rfl rfl rfl (rd_wrong (x1 := 13) (x2 := (nI p)) hR1) (fun v167 M168 q169 => ?_)
                        obtain ⟨I170, R171, rfl, hR172, hI173, hX174, hi175, hi176⟩ := q169
                        have hi177 := (hI173 51 (by decide)).trans hl51
                        have hi178 := (hI173 52 (by decide)).trans hl52
                        have hi179 := (hI173 53 (by decide)).trans hl53
                        have hi180 := (hI173 9 (by decide)).trans hl9
                        have hF_181 := hF1.mono (cIx hI173 (by decide)) (cRx hX174 (by decide))
                        have hY_182 := hY1.mono (cIx hI173 (by decide)) (cRx hX174 (by decide))
                        have hP_183 := hP1.mono (cIx hI173 (by decide)) (cRx hX174 (by decide))
                        have hEI184 := hEI1.tr hI173 (by decide)
                        have hER185 := hER1.tr hX174 (by decide)
                        show pl _ _ _ (298, [(0, .ref m0), (1, .int (nI k)), (2, .int (nI p)), (3, .int (nI (by1 f p)))], [.int 0], M168) _
                        exact ps_ret rfl rfl (Or.inr ⟨(13, p), I170, R171, by
                            have hb : brkN f n E mj k = 13 := by
                              have e12 := nwt_9 (f := f) (n := n) (E := E) (k := k)
                              have e13 := mrf_9 (f := f) (n := n) (E := E) (k := k)
                              unfold brkN
                              first | ((repeat first | rw [if_pos (by omega)] | rw [if_neg (by omega)]) <;> first | rfl | omega) | ((repeat' split) <;> first | rfl | (exfalso; omega) | omega)
                            rw [← hs, chkP_st (k := k) (by omega), if_neg (by omega), if_neg (by omega), hb, htp], rfl, hR172, hEI184, hER185, hi175, hi176⟩)
                  · have c_159 : ¬ (11 < (nI (by1 f p))) := of_decide_eq_false c_159
                    have n_159 : ¬ (11 < by1 f p) := fun h9 => c_159 ((lt_nI (p := 11) (n := by1 f p) (by decide) (Nat.lt_trans (by1_lt _ _) (by decide))).mpr h9)
                    refine ps_st (S' := (163, [(0, .ref m0), (1, .int (nI k)), (2, .int (nI p)), (3, .int (nI (by1 f p)))], [.ref m0], M1)) rfl rfl rfl ?_
                    refine ps_st (S' := (164, [(0, .ref m0), (1, .int (nI k)), (2, .int (nI p)), (3, .int (nI (by1 f p)))], [.ref m0, .ref m0], M1)) rfl rfl rfl ?_
                    refine ps_st (S' := (165, [(0, .ref m0), (1, .int (nI k)), (2, .int (nI p)), (3, .int (nI (by1 f p)))], [.ref m0, .ref m0, .ref m0], M1)) rfl rfl rfl ?_
                    refine ps_st (S' := (166, [(0, .ref m0), (1, .int (nI k)), (2, .int (nI p)), (3, .int (nI (by1 f p)))], [.int (nI k), .ref m0, .ref m0, .ref m0], M1)) rfl rfl rfl ?_
                    refine ps_st (S' := (167, [(0, .ref m0), (1, .int (nI k)), (2, .int (nI p)), (3, .int (nI (by1 f p)))], [.int 3, .int (nI k), .ref m0, .ref m0, .ref m0], M1)) rfl rfl rfl ?_
                    refine pl_call (a := [.ref m0, .int (nI k), .int 3]) (rest := [.ref m0, .ref m0]) rfl rfl rfl (rd_idx3 (n := n) (f := f) (tx := tx) (cN := cN) (A := A) (N := N) (mj := mj) (E := E) (k := k) hR1 hl51 hl52 hl53 hF1 hY1 hP1 (hEP) (hN) (hmj) (by omega)) (fun v186 M187 q188 => ?_)
                    obtain ⟨rfl, rfl⟩ := q188
                    show pl _ _ _ (170, [(0, .ref m0), (1, .int (nI k)), (2, .int (nI p)), (3, .int (nI (by1 f p)))], [.int (nI (se f E k)), .ref m0, .ref m0], M1) _
                    have hix_167 := se_lt f E k
                    refine ps_st (S' := (171, [(0, .ref m0), (1, .int (nI k)), (2, .int (nI p)), (3, .int (nI (by1 f p)))], [.int 1, .int (nI (se f E k)), .ref m0, .ref m0], M1)) rfl rfl rfl ?_
                    refine pl_call (a := [.ref m0, .int (nI (se f E k)), .int 1]) (rest := [.ref m0]) rfl rfl rfl (rd_idx1 (n := n) (f := f) (tx := tx) (cN := cN) (A := A) (N := N) (mj := mj) (E := E) (k := (se f E k)) hR1 hl51 hl52 hl53 hF1 hY1 hP1 (hEP) (hN) (hmj) (by omega)) (fun v189 M190 q191 => ?_)
                    obtain ⟨rfl, rfl⟩ := q191
                    show pl _ _ _ (174, [(0, .ref m0), (1, .int (nI k)), (2, .int (nI p)), (3, .int (nI (by1 f p)))], [.int (nI (fi f E (se f E k))), .ref m0], M1) _
                    have hix_171 := fi_lt f E (se f E k)
                    refine pl_call (a := [.ref m0, .int (nI (fi f E (se f E k)))]) (rest := []) rfl rfl rfl (rd_symOf (n := n) (f := f) (tx := tx) (cN := cN) (A := A) (N := N) (mj := mj) (E := E) (k := (fi f E (se f E k))) hR1 hl51 hl52 hl53 hF1 hY1 hP1 (hEP) (hN) (hmj) (by omega)) (fun v192 M193 q194 => ?_)
                    obtain ⟨s195, q174_s, rfl, rfl⟩ := q194
                    show pl _ _ _ (177, [(0, .ref m0), (1, .int (nI k)), (2, .int (nI p)), (3, .int (nI (by1 f p)))], [.int (nI s195)], M1) _
                    have hsl_174 := q174_s.1
                    have htl_174 := hY1.1.2.2.1
                    refine ps_st (S' := (179, [(4, .int (nI s195)), (0, .ref m0), (1, .int (nI k)), (2, .int (nI p)), (3, .int (nI (by1 f p)))], [], M1)) rfl rfl rfl ?_
                    refine ps_st (S' := (180, [(4, .int (nI s195)), (0, .ref m0), (1, .int (nI k)), (2, .int (nI p)), (3, .int (nI (by1 f p)))], [.ref m0], M1)) rfl rfl rfl ?_
                    refine ps_st (S' := (181, [(4, .int (nI s195)), (0, .ref m0), (1, .int (nI k)), (2, .int (nI p)), (3, .int (nI (by1 f p)))], [.ref m0, .ref m0], M1)) rfl rfl rfl ?_
                    refine ps_st (S' := (182, [(4, .int (nI s195)), (0, .ref m0), (1, .int (nI k)), (2, .int (nI p)), (3, .int (nI (by1 f p)))], [.ref m0, .ref m0, .ref m0], M1)) rfl rfl rfl ?_
                    refine ps_st (S' := (183, [(4, .int (nI s195)), (0, .ref m0), (1, .int (nI k)), (2, .int (nI p)), (3, .int (nI (by1 f p)))], [.int (nI k), .ref m0, .ref m0, .ref m0], M1)) rfl rfl rfl ?_
                    refine ps_st (S' := (184, [(4, .int (nI s195)), (0, .ref m0), (1, .int (nI k)), (2, .int (nI p)), (3, .int (nI (by1 f p)))], [.int 3, .int (nI k), .ref m0, .ref m0, .ref m0], M1)) rfl rfl rfl ?_
                    refine pl_call (a := [.ref m0, .int (nI k), .int 3]) (rest := [.ref m0, .ref m0]) rfl rfl rfl (rd_idx3 (n := n) (f := f) (tx := tx) (cN := cN) (A := A) (N := N) (mj := mj) (E := E) (k := k) hR1 hl51 hl52 hl53 hF1 hY1 hP1 (hEP) (hN) (hmj) (by omega)) (fun v196 M197 q198 => ?_)
                    obtain ⟨rfl, rfl⟩ := q198
                    show pl _ _ _ (187, [(4, .int (nI s195)), (0, .ref m0), (1, .int (nI k)), (2, .int (nI p)), (3, .int (nI (by1 f p)))], [.int (nI (se f E k)), .ref m0, .ref m0], M1) _
                    have hix_184 := se_lt f E k
                    refine ps_st (S' := (188, [(4, .int (nI s195)), (0, .ref m0), (1, .int (nI k)), (2, .int (nI p)), (3, .int (nI (by1 f p)))], [.int 3, .int (nI (se f E k)), .ref m0, .ref m0], M1)) rfl rfl rfl ?_
                    refine pl_call (a := [.ref m0, .int (nI (se f E k)), .int 3]) (rest := [.ref m0]) rfl rfl rfl (rd_idx3 (n := n) (f := f) (tx := tx) (cN := cN) (A := A) (N := N) (mj := mj) (E := E) (k := (se f E k)) hR1 hl51 hl52 hl53 hF1 hY1 hP1 (hEP) (hN) (hmj) (by omega)) (fun v199 M200 q201 => ?_)
                    obtain ⟨rfl, rfl⟩ := q201
                    show pl _ _ _ (191, [(4, .int (nI s195)), (0, .ref m0), (1, .int (nI k)), (2, .int (nI p)), (3, .int (nI (by1 f p)))], [.int (nI (se f E (se f E k))), .ref m0], M1) _
                    have hix_188 := se_lt f E (se f E k)
                    refine pl_call (a := [.ref m0, .int (nI (se f E (se f E k)))]) (rest := []) rfl rfl rfl (rd_symOf (n := n) (f := f) (tx := tx) (cN := cN) (A := A) (N := N) (mj := mj) (E := E) (k := (se f E (se f E k))) hR1 hl51 hl52 hl53 hF1 hY1 hP1 (hEP) (hN) (hmj) (by omega)) (fun v202 M203 q204 => ?_)
                    obtain ⟨s205, q191_s, rfl, rfl⟩ := q204
                    show pl _ _ _ (194, [(4, .int (nI s195)), (0, .ref m0), (1, .int (nI k)), (2, .int (nI p)), (3, .int (nI (by1 f p)))], [.int (nI s205)], M1) _
                    have hsl_191 := q191_s.1
                    have htl_191 := hY1.1.2.2.1
                    refine ps_st (S' := (196, [(5, .int (nI s205)), (4, .int (nI s195)), (0, .ref m0), (1, .int (nI k)), (2, .int (nI p)), (3, .int (nI (by1 f p)))], [], M1)) rfl rfl rfl ?_
                    refine ps_st (S' := (197, [(5, .int (nI s205)), (4, .int (nI s195)), (0, .ref m0), (1, .int (nI k)), (2, .int (nI p)), (3, .int (nI (by1 f p)))], [.ref m0], M1)) rfl rfl rfl ?_
                    refine ps_st (S' := (199, [(5, .int (nI s205)), (4, .int (nI s195)), (0, .ref m0), (1, .int (nI k)), (2, .int (nI p)), (3, .int (nI (by1 f p)))], [.int (nI s195), .ref m0], M1)) rfl rfl rfl ?_
                    refine pl_call (a := [.ref m0, .int (nI s195)]) (rest := []) rfl rfl rfl (rd_angles (tx := tx) (cN := cN) (A := A) (s := s195) (l := (tX f n E (fi f E (se f E k)))) hR1 hY1 (q174_s)) (fun v206 M207 q208 => ?_)
                    obtain ⟨rfl, rfl⟩ := q208
                    show pl _ _ _ (202, [(5, .int (nI s205)), (4, .int (nI s195)), (0, .ref m0), (1, .int (nI k)), (2, .int (nI p)), (3, .int (nI (by1 f p)))], [.int (nI (angN (tX f n E (fi f E (se f E k)))))], M1) _
                    refine ps_st (S' := (204, [(6, .int (nI (angN (tX f n E (fi f E (se f E k)))))), (5, .int (nI s205)), (4, .int (nI s195)), (0, .ref m0), (1, .int (nI k)), (2, .int (nI p)), (3, .int (nI (by1 f p)))], [], M1)) rfl rfl rfl ?_
                    refine ps_st (S' := (205, [(6, .int (nI (angN (tX f n E (fi f E (se f E k)))))), (5, .int (nI s205)), (4, .int (nI s195)), (0, .ref m0), (1, .int (nI k)), (2, .int (nI p)), (3, .int (nI (by1 f p)))], [.int (nI (by1 f p))], M1)) rfl rfl rfl ?_
                    refine ps_st (S' := (207, [(6, .int (nI (angN (tX f n E (fi f E (se f E k)))))), (5, .int (nI s205)), (4, .int (nI s195)), (0, .ref m0), (1, .int (nI k)), (2, .int (nI p)), (3, .int (nI (by1 f p)))], [.int 9, .int (nI (by1 f p))], M1)) rfl rfl rfl ?_
                    refine ps_if2 (S1 := (219, [(6, .int (nI (angN (tX f n E (fi f E (se f E k)))))), (5, .int (nI s205)), (4, .int (nI s195)), (0, .ref m0), (1, .int (nI k)), (2, .int (nI p)), (3, .int (nI (by1 f p)))], [], M1)) (S2 := (210, [(6, .int (nI (angN (tX f n E (fi f E (se f E k)))))), (5, .int (nI s205)), (4, .int (nI s195)), (0, .ref m0), (1, .int (nI k)), (2, .int (nI p)), (3, .int (nI (by1 f p)))], [], M1)) rfl rfl rfl (fun c_207 => ?_) (fun c_207 => ?_)
                    · have c_207 : ¬ (nI (by1 f p)) = 9 := of_decide_eq_true c_207
                      have n_207 : ¬ (by1 f p = 9) := fun h9 => c_207 ((eq_nI (p := by1 f p) (n := 9) (Nat.lt_trans (by1_lt _ _) (by decide)) (by decide)).mpr h9)
                      refine ps_st (S' := (220, [(6, .int (nI (angN (tX f n E (fi f E (se f E k)))))), (5, .int (nI s205)), (4, .int (nI s195)), (0, .ref m0), (1, .int (nI k)), (2, .int (nI p)), (3, .int (nI (by1 f p)))], [.ref m0], M1)) rfl rfl rfl ?_
                      refine ps_st (S' := (222, [(6, .int (nI (angN (tX f n E (fi f E (se f E k)))))), (5, .int (nI s205)), (4, .int (nI s195)), (0, .ref m0), (1, .int (nI k)), (2, .int (nI p)), (3, .int (nI (by1 f p)))], [.int (nI s205), .ref m0], M1)) rfl rfl rfl ?_
                      refine pl_call (a := [.ref m0, .int (nI s205)]) (rest := []) rfl rfl rfl (rd_isMethod (tx := tx) (cN := cN) (A := A) (s := s205) (l := (tX f n E (se f E (se f E k)))) hR1 hY1 (q191_s)) (fun v209 M210 q211 => ?_)
                      obtain ⟨rfl, rfl⟩ := q211
                      show pl _ _ _ (225, [(6, .int (nI (angN (tX f n E (fi f E (se f E k)))))), (5, .int (nI s205)), (4, .int (nI s195)), (0, .ref m0), (1, .int (nI k)), (2, .int (nI p)), (3, .int (nI (by1 f p)))], [.int (nI (mthN (tX f n E (se f E (se f E k)))))], M1) _
                      refine ps_if (S1 := (261, [(0, .ref m0), (1, .int (nI k)), (2, .int (nI p)), (3, .int (nI (by1 f p)))], [], M1)) (S2 := (228, [(6, .int (nI (angN (tX f n E (fi f E (se f E k)))))), (5, .int (nI s205)), (4, .int (nI s195)), (0, .ref m0), (1, .int (nI k)), (2, .int (nI p)), (3, .int (nI (by1 f p)))], [], M1)) rfl rfl rfl (fun c_225 => ?_) (fun c_225 => ?_)
                      · have c_225 : (nI (mthN (tX f n E (se f E (se f E k))))) = 0 := of_decide_eq_true c_225
                        have n_225 : mthN (tX f n E (se f E (se f E k))) = 0 := (eq_nI (p := mthN (tX f n E (se f E (se f E k)))) (n := 0) (Nat.lt_trans (le1_mth _) (by decide)) (by decide)).mp c_225
                        refine ps_st (S' := (262, [(0, .ref m0), (1, .int (nI k)), (2, .int (nI p)), (3, .int (nI (by1 f p)))], [.int 0], M1)) rfl rfl rfl ?_
                        refine ps_st (S' := (264, [(7, .int 0), (0, .ref m0), (1, .int (nI k)), (2, .int (nI p)), (3, .int (nI (by1 f p)))], [], M1)) rfl rfl rfl ?_
                        refine ps_st (S' := (266, [(7, .int 0), (0, .ref m0), (1, .int (nI k)), (2, .int (nI p)), (3, .int (nI (by1 f p)))], [.int 0], M1)) rfl rfl rfl ?_
                        refine ps_if (S1 := (277, [(0, .ref m0), (1, .int (nI k)), (2, .int (nI p)), (3, .int (nI (by1 f p)))], [], M1)) (S2 := (269, [(7, .int 0), (0, .ref m0), (1, .int (nI k)), (2, .int (nI p)), (3, .int (nI (by1 f p)))], [], M1)) rfl rfl rfl (fun c_266 => ?_) (fun c_266 => ?_)
                        · exact absurd (of_decide_eq_true c_266) (by decide)
                        refine ps_st (S' := (270, [(7, .int 0), (0, .ref m0), (1, .int (nI k)), (2, .int (nI p)), (3, .int (nI (by1 f p)))], [.ref m0], M1)) rfl rfl rfl ?_
                        refine ps_st (S' := (272, [(7, .int 0), (0, .ref m0), (1, .int (nI k)), (2, .int (nI p)), (3, .int (nI (by1 f p)))], [.int 12, .ref m0], M1)) rfl rfl rfl ?_
                        refine ps_st (S' := (273, [(7, .int 0), (0, .ref m0), (1, .int (nI k)), (2, .int (nI p)), (3, .int (nI (by1 f p)))], [.int (nI p), .int 12, .ref m0], M1)) rfl rfl rfl ?_
                        refine pl_call (a := [.ref m0, .int 12, .int (nI p)]) (rest := []) rfl rfl rfl (rd_wrong (x1 := 12) (x2 := (nI p)) hR1) (fun v212 M213 q214 => ?_)
                        obtain ⟨I215, R216, rfl, hR217, hI218, hX219, hi220, hi221⟩ := q214
                        have hi222 := (hI218 51 (by decide)).trans hl51
                        have hi223 := (hI218 52 (by decide)).trans hl52
                        have hi224 := (hI218 53 (by decide)).trans hl53
                        have hi225 := (hI218 9 (by decide)).trans hl9
                        have hF_226 := hF1.mono (cIx hI218 (by decide)) (cRx hX219 (by decide))
                        have hY_227 := hY1.mono (cIx hI218 (by decide)) (cRx hX219 (by decide))
                        have hP_228 := hP1.mono (cIx hI218 (by decide)) (cRx hX219 (by decide))
                        have hEI229 := hEI1.tr hI218 (by decide)
                        have hER230 := hER1.tr hX219 (by decide)
                        show pl _ _ _ (276, [(7, .int 0), (0, .ref m0), (1, .int (nI k)), (2, .int (nI p)), (3, .int (nI (by1 f p)))], [.int 0], M213) _
                        exact ps_ret rfl rfl (Or.inr ⟨(12, p), I215, R216, by
                            have hb : brkN f n E mj k = 12 := by
                              have e12 := nwt_9 (f := f) (n := n) (E := E) (k := k)
                              have e13 := mrf_9 (f := f) (n := n) (E := E) (k := k)
                              unfold brkN
                              first | ((repeat first | rw [if_pos (by omega)] | rw [if_neg (by omega)]) <;> first | rfl | omega) | ((repeat' split) <;> first | rfl | (exfalso; omega) | omega)
                            rw [← hs, chkP_st (k := k) (by omega), if_neg (by omega), if_neg (by omega), hb, htp], rfl, hR217, hEI229, hER230, hi220, hi221⟩)
                      · have c_225 : ¬ ((nI (mthN (tX f n E (se f E (se f E k))))) = 0) := of_decide_eq_false c_225
                        have n_225 : ¬ (mthN (tX f n E (se f E (se f E k))) = 0) := fun h9 => c_225 ((eq_nI (p := mthN (tX f n E (se f E (se f E k)))) (n := 0) (Nat.lt_trans (le1_mth _) (by decide)) (by decide)).mpr h9)
                        refine ps_st (S' := (230, [(6, .int (nI (angN (tX f n E (fi f E (se f E k)))))), (5, .int (nI s205)), (4, .int (nI s195)), (0, .ref m0), (1, .int (nI k)), (2, .int (nI p)), (3, .int (nI (by1 f p)))], [.int (nI (angN (tX f n E (fi f E (se f E k)))))], M1)) rfl rfl rfl ?_
                        refine ps_if (S1 := (257, [(0, .ref m0), (1, .int (nI k)), (2, .int (nI p)), (3, .int (nI (by1 f p)))], [], M1)) (S2 := (233, [(6, .int (nI (angN (tX f n E (fi f E (se f E k)))))), (5, .int (nI s205)), (4, .int (nI s195)), (0, .ref m0), (1, .int (nI k)), (2, .int (nI p)), (3, .int (nI (by1 f p)))], [], M1)) rfl rfl rfl (fun c_230 => ?_) (fun c_230 => ?_)
                        · have c_230 : (nI (angN (tX f n E (fi f E (se f E k))))) = 0 := of_decide_eq_true c_230
                          have n_230 : angN (tX f n E (fi f E (se f E k))) = 0 := (eq_nI (p := angN (tX f n E (fi f E (se f E k)))) (n := 0) (Nat.lt_trans (le1_ang _) (by decide)) (by decide)).mp c_230
                          refine ps_st (S' := (258, [(0, .ref m0), (1, .int (nI k)), (2, .int (nI p)), (3, .int (nI (by1 f p)))], [.int 1], M1)) rfl rfl rfl ?_
                          refine ps_st (S' := (262, [(0, .ref m0), (1, .int (nI k)), (2, .int (nI p)), (3, .int (nI (by1 f p)))], [.int 1], M1)) rfl rfl rfl ?_
                          refine ps_st (S' := (264, [(7, .int 1), (0, .ref m0), (1, .int (nI k)), (2, .int (nI p)), (3, .int (nI (by1 f p)))], [], M1)) rfl rfl rfl ?_
                          refine ps_st (S' := (266, [(7, .int 1), (0, .ref m0), (1, .int (nI k)), (2, .int (nI p)), (3, .int (nI (by1 f p)))], [.int 1], M1)) rfl rfl rfl ?_
                          refine ps_if (S1 := (277, [(0, .ref m0), (1, .int (nI k)), (2, .int (nI p)), (3, .int (nI (by1 f p)))], [], M1)) (S2 := (269, [(7, .int 1), (0, .ref m0), (1, .int (nI k)), (2, .int (nI p)), (3, .int (nI (by1 f p)))], [], M1)) rfl rfl rfl (fun c_266 => ?_) (fun c_266 => ?_)
                          rotate_left
                          · exact absurd (by decide) (of_decide_eq_false c_266)
                          refine ps_st (S' := (278, [(0, .ref m0), (1, .int (nI k)), (2, .int (nI p)), (3, .int (nI (by1 f p)))], [.int (nI (by1 f p))], M1)) rfl rfl rfl ?_
                          refine ps_st (S' := (280, [(0, .ref m0), (1, .int (nI k)), (2, .int (nI p)), (3, .int (nI (by1 f p)))], [.int 15, .int (nI (by1 f p))], M1)) rfl rfl rfl ?_
                          refine ps_if2 (S1 := (299, [(0, .ref m0), (1, .int (nI k)), (2, .int (nI p)), (3, .int (nI (by1 f p)))], [], M1)) (S2 := (283, [(0, .ref m0), (1, .int (nI k)), (2, .int (nI p)), (3, .int (nI (by1 f p)))], [], M1)) rfl rfl rfl (fun c_280 => ?_) (fun c_280 => ?_)
                          rotate_left
                          · exact absurd (show ¬ ((nI (by1 f p)) = 15) from fun h9 => absurd ((eq_nI (p := by1 f p) (n := 15) (Nat.lt_trans (by1_lt _ _) (by decide)) (by decide)).mp h9) (by omega)) (of_decide_eq_false c_280)
                          refine ps_st (S' := (300, [(0, .ref m0), (1, .int (nI k)), (2, .int (nI p)), (3, .int (nI (by1 f p)))], [.int (nI (by1 f p))], M1)) rfl rfl rfl ?_
                          refine ps_st (S' := (302, [(0, .ref m0), (1, .int (nI k)), (2, .int (nI p)), (3, .int (nI (by1 f p)))], [.int 16, .int (nI (by1 f p))], M1)) rfl rfl rfl ?_
                          refine ps_if2 (S1 := (330, [(0, .ref m0), (1, .int (nI k)), (2, .int (nI p)), (3, .int (nI (by1 f p)))], [], M1)) (S2 := (305, [(0, .ref m0), (1, .int (nI k)), (2, .int (nI p)), (3, .int (nI (by1 f p)))], [], M1)) rfl rfl rfl (fun c_302 => ?_) (fun c_302 => ?_)
                          rotate_left
                          · exact absurd (show ¬ ((nI (by1 f p)) = 16) from fun h9 => absurd ((eq_nI (p := by1 f p) (n := 16) (Nat.lt_trans (by1_lt _ _) (by decide)) (by decide)).mp h9) (by omega)) (of_decide_eq_false c_302)
                          refine ps_st (S' := (331, [(0, .ref m0), (1, .int (nI k)), (2, .int (nI p)), (3, .int (nI (by1 f p)))], [.int (nI (by1 f p))], M1)) rfl rfl rfl ?_
                          refine ps_st (S' := (333, [(0, .ref m0), (1, .int (nI k)), (2, .int (nI p)), (3, .int (nI (by1 f p)))], [.int 17, .int (nI (by1 f p))], M1)) rfl rfl rfl ?_
                          refine ps_if2 (S1 := (342, [(0, .ref m0), (1, .int (nI k)), (2, .int (nI p)), (3, .int (nI (by1 f p)))], [], M1)) (S2 := (336, [(0, .ref m0), (1, .int (nI k)), (2, .int (nI p)), (3, .int (nI (by1 f p)))], [], M1)) rfl rfl rfl (fun c_333 => ?_) (fun c_333 => ?_)
                          · exact absurd (of_decide_eq_true c_333) (show ¬ ((nI (by1 f p)) = 17) from fun h9 => absurd ((eq_nI (p := by1 f p) (n := 17) (Nat.lt_trans (by1_lt _ _) (by decide)) (by decide)).mp h9) (by omega))
                          refine ps_st (S' := (337, [(0, .ref m0), (1, .int (nI k)), (2, .int (nI p)), (3, .int (nI (by1 f p)))], [.int (nI (by1 f p))], M1)) rfl rfl rfl ?_
                          refine ps_st (S' := (339, [(0, .ref m0), (1, .int (nI k)), (2, .int (nI p)), (3, .int (nI (by1 f p)))], [.int 18, .int (nI (by1 f p))], M1)) rfl rfl rfl ?_
                          refine ps_if2 (S1 := (420, [(0, .ref m0), (1, .int (nI k))], [], M1)) (S2 := (342, [(0, .ref m0), (1, .int (nI k)), (2, .int (nI p)), (3, .int (nI (by1 f p)))], [], M1)) rfl rfl rfl (fun c_339 => ?_) (fun c_339 => ?_)
                          rotate_left
                          · exact absurd (show ¬ ((nI (by1 f p)) = 18) from fun h9 => absurd ((eq_nI (p := by1 f p) (n := 18) (Nat.lt_trans (by1_lt _ _) (by decide)) (by decide)).mp h9) (by omega)) (of_decide_eq_false c_339)
                          refine ps_st (S' := (423, [(1, .int ((nI k) + 1)), (0, .ref m0)], [], M1)) rfl rfl rfl ?_
                          rw [nI_add1 (p := k) (k := 1) (x := 1) rfl (by omega)]
                          show pl _ _ _ (_, [(1, .int (nI (k + 1))), (0, .ref m0)], [], M1) _
                          refine ps_st (S' := (2, [(0, .ref m0), (1, .int (nI (k + 1)))], [], M1)) rfl rfl rfl ?_
                          exact ih (k + 1) M1 I1 R1 hR1 hEI1 hER1 hl51 hl52 hl53 hl9 hF1 hY1 hP1 (by omega) (by
                              have hb : brkN f n E mj k = 0 := by
                                have e12 := nwt_9 (f := f) (n := n) (E := E) (k := k)
                                have e13 := mrf_9 (f := f) (n := n) (E := E) (k := k)
                                unfold brkN
                                first | ((repeat first | rw [if_pos (by omega)] | rw [if_neg (by omega)]) <;> first | rfl | omega) | ((repeat' split) <;> first | rfl | (exfalso; omega) | omega)
                              rw [← hs, chkP_st (k := k) (by omega), if_neg (by omega), if_pos hb])
                        · have c_230 : ¬ ((nI (angN (tX f n E (fi f E (se f E k))))) = 0) := of_decide_eq_false c_230
                          have n_230 : ¬ (angN (tX f n E (fi f E (se f E k))) = 0) := fun h9 => c_230 ((eq_nI (p := angN (tX f n E (fi f E (se f E k)))) (n := 0) (Nat.lt_trans (le1_ang _) (by decide)) (by decide)).mpr h9)
                          refine ps_st (S' := (234, [(6, .int (nI (angN (tX f n E (fi f E (se f E k)))))), (5, .int (nI s205)), (4, .int (nI s195)), (0, .ref m0), (1, .int (nI k)), (2, .int (nI p)), (3, .int (nI (by1 f p)))], [.int (nI (by1 f p))], M1)) rfl rfl rfl ?_
                          refine ps_st (S' := (236, [(6, .int (nI (angN (tX f n E (fi f E (se f E k)))))), (5, .int (nI s205)), (4, .int (nI s195)), (0, .ref m0), (1, .int (nI k)), (2, .int (nI p)), (3, .int (nI (by1 f p)))], [.int 10, .int (nI (by1 f p))], M1)) rfl rfl rfl ?_
                          refine ps_if2 (S1 := (261, [(0, .ref m0), (1, .int (nI k)), (2, .int (nI p)), (3, .int (nI (by1 f p)))], [], M1)) (S2 := (239, [(6, .int (nI (angN (tX f n E (fi f E (se f E k)))))), (5, .int (nI s205)), (4, .int (nI s195)), (0, .ref m0), (1, .int (nI k)), (2, .int (nI p)), (3, .int (nI (by1 f p)))], [], M1)) rfl rfl rfl (fun c_236 => ?_) (fun c_236 => ?_)
                          · have c_236 : ¬ (nI (by1 f p)) = 10 := of_decide_eq_true c_236
                            have n_236 : ¬ (by1 f p = 10) := fun h9 => c_236 ((eq_nI (p := by1 f p) (n := 10) (Nat.lt_trans (by1_lt _ _) (by decide)) (by decide)).mpr h9)
                            refine ps_st (S' := (262, [(0, .ref m0), (1, .int (nI k)), (2, .int (nI p)), (3, .int (nI (by1 f p)))], [.int 0], M1)) rfl rfl rfl ?_
                            refine ps_st (S' := (264, [(7, .int 0), (0, .ref m0), (1, .int (nI k)), (2, .int (nI p)), (3, .int (nI (by1 f p)))], [], M1)) rfl rfl rfl ?_
                            refine ps_st (S' := (266, [(7, .int 0), (0, .ref m0), (1, .int (nI k)), (2, .int (nI p)), (3, .int (nI (by1 f p)))], [.int 0], M1)) rfl rfl rfl ?_
                            refine ps_if (S1 := (277, [(0, .ref m0), (1, .int (nI k)), (2, .int (nI p)), (3, .int (nI (by1 f p)))], [], M1)) (S2 := (269, [(7, .int 0), (0, .ref m0), (1, .int (nI k)), (2, .int (nI p)), (3, .int (nI (by1 f p)))], [], M1)) rfl rfl rfl (fun c_266 => ?_) (fun c_266 => ?_)
                            · exact absurd (of_decide_eq_true c_266) (by decide)
                            refine ps_st (S' := (270, [(7, .int 0), (0, .ref m0), (1, .int (nI k)), (2, .int (nI p)), (3, .int (nI (by1 f p)))], [.ref m0], M1)) rfl rfl rfl ?_
                            refine ps_st (S' := (272, [(7, .int 0), (0, .ref m0), (1, .int (nI k)), (2, .int (nI p)), (3, .int (nI (by1 f p)))], [.int 12, .ref m0], M1)) rfl rfl rfl ?_
                            refine ps_st (S' := (273, [(7, .int 0), (0, .ref m0), (1, .int (nI k)), (2, .int (nI p)), (3, .int (nI (by1 f p)))], [.int (nI p), .int 12, .ref m0], M1)) rfl rfl rfl ?_
                            refine pl_call (a := [.ref m0, .int 12, .int (nI p)]) (rest := []) rfl rfl rfl (rd_wrong (x1 := 12) (x2 := (nI p)) hR1) (fun v231 M232 q233 => ?_)
                            obtain ⟨I234, R235, rfl, hR236, hI237, hX238, hi239, hi240⟩ := q233
                            have hi241 := (hI237 51 (by decide)).trans hl51
                            have hi242 := (hI237 52 (by decide)).trans hl52
                            have hi243 := (hI237 53 (by decide)).trans hl53
                            have hi244 := (hI237 9 (by decide)).trans hl9
                            have hF_245 := hF1.mono (cIx hI237 (by decide)) (cRx hX238 (by decide))
                            have hY_246 := hY1.mono (cIx hI237 (by decide)) (cRx hX238 (by decide))
                            have hP_247 := hP1.mono (cIx hI237 (by decide)) (cRx hX238 (by decide))
                            have hEI248 := hEI1.tr hI237 (by decide)
                            have hER249 := hER1.tr hX238 (by decide)
                            show pl _ _ _ (276, [(7, .int 0), (0, .ref m0), (1, .int (nI k)), (2, .int (nI p)), (3, .int (nI (by1 f p)))], [.int 0], M232) _
                            exact ps_ret rfl rfl (Or.inr ⟨(12, p), I234, R235, by
                                have hb : brkN f n E mj k = 12 := by
                                  have e12 := nwt_9 (f := f) (n := n) (E := E) (k := k)
                                  have e13 := mrf_9 (f := f) (n := n) (E := E) (k := k)
                                  unfold brkN
                                  first | ((repeat first | rw [if_pos (by omega)] | rw [if_neg (by omega)]) <;> first | rfl | omega) | ((repeat' split) <;> first | rfl | (exfalso; omega) | omega)
                                rw [← hs, chkP_st (k := k) (by omega), if_neg (by omega), if_neg (by omega), hb, htp], rfl, hR236, hEI248, hER249, hi239, hi240⟩)
                          · have c_236 : ¬ (¬ (nI (by1 f p)) = 10) := of_decide_eq_false c_236
                            have n_236 : by1 f p = 10 := (eq_nI (p := by1 f p) (n := 10) (Nat.lt_trans (by1_lt _ _) (by decide)) (by decide)).mp (Decidable.not_not.mp c_236)
                            have he9 := sym_eq hY1 q174_s hs1
                            rw [lt_eq.1] at he9
                            refine ps_st (S' := (241, [(6, .int (nI (angN (tX f n E (fi f E (se f E k)))))), (5, .int (nI s205)), (4, .int (nI s195)), (0, .ref m0), (1, .int (nI k)), (2, .int (nI p)), (3, .int (nI (by1 f p)))], [.int (nI s195)], M1)) rfl rfl rfl ?_
                            refine ps_st (S' := (242, [(6, .int (nI (angN (tX f n E (fi f E (se f E k)))))), (5, .int (nI s205)), (4, .int (nI s195)), (0, .ref m0), (1, .int (nI k)), (2, .int (nI p)), (3, .int (nI (by1 f p)))], [.ref m0, .int (nI s195)], M1)) rfl rfl rfl ?_
                            refine pr_int (j := 9) (S' := (245, [(6, .int (nI (angN (tX f n E (fi f E (se f E k)))))), (5, .int (nI s205)), (4, .int (nI s195)), (0, .ref m0), (1, .int (nI k)), (2, .int (nI p)), (3, .int (nI (by1 f p)))], [.int (nI s1), .int (nI s195)], M1)) rfl hR1 rfl hl9 rfl ?_
                            refine ps_if2 (S1 := (261, [(0, .ref m0), (1, .int (nI k)), (2, .int (nI p)), (3, .int (nI (by1 f p)))], [], M1)) (S2 := (248, [(6, .int (nI (angN (tX f n E (fi f E (se f E k)))))), (5, .int (nI s205)), (4, .int (nI s195)), (0, .ref m0), (1, .int (nI k)), (2, .int (nI p)), (3, .int (nI (by1 f p)))], [], M1)) rfl rfl rfl (fun c_245 => ?_) (fun c_245 => ?_)
                            · have c_245 : ¬ (nI s195) = (nI s1) := of_decide_eq_true c_245
                              have n_245 : ¬ (s195 = s1) := fun h9 => c_245 ((eq_nI (p := s195) (n := s1) (by omega) (by omega)).mpr h9)
                              refine ps_st (S' := (262, [(0, .ref m0), (1, .int (nI k)), (2, .int (nI p)), (3, .int (nI (by1 f p)))], [.int 0], M1)) rfl rfl rfl ?_
                              refine ps_st (S' := (264, [(7, .int 0), (0, .ref m0), (1, .int (nI k)), (2, .int (nI p)), (3, .int (nI (by1 f p)))], [], M1)) rfl rfl rfl ?_
                              refine ps_st (S' := (266, [(7, .int 0), (0, .ref m0), (1, .int (nI k)), (2, .int (nI p)), (3, .int (nI (by1 f p)))], [.int 0], M1)) rfl rfl rfl ?_
                              refine ps_if (S1 := (277, [(0, .ref m0), (1, .int (nI k)), (2, .int (nI p)), (3, .int (nI (by1 f p)))], [], M1)) (S2 := (269, [(7, .int 0), (0, .ref m0), (1, .int (nI k)), (2, .int (nI p)), (3, .int (nI (by1 f p)))], [], M1)) rfl rfl rfl (fun c_266 => ?_) (fun c_266 => ?_)
                              · exact absurd (of_decide_eq_true c_266) (by decide)
                              refine ps_st (S' := (270, [(7, .int 0), (0, .ref m0), (1, .int (nI k)), (2, .int (nI p)), (3, .int (nI (by1 f p)))], [.ref m0], M1)) rfl rfl rfl ?_
                              refine ps_st (S' := (272, [(7, .int 0), (0, .ref m0), (1, .int (nI k)), (2, .int (nI p)), (3, .int (nI (by1 f p)))], [.int 12, .ref m0], M1)) rfl rfl rfl ?_
                              refine ps_st (S' := (273, [(7, .int 0), (0, .ref m0), (1, .int (nI k)), (2, .int (nI p)), (3, .int (nI (by1 f p)))], [.int (nI p), .int 12, .ref m0], M1)) rfl rfl rfl ?_
                              refine pl_call (a := [.ref m0, .int 12, .int (nI p)]) (rest := []) rfl rfl rfl (rd_wrong (x1 := 12) (x2 := (nI p)) hR1) (fun v250 M251 q252 => ?_)
                              obtain ⟨I253, R254, rfl, hR255, hI256, hX257, hi258, hi259⟩ := q252
                              have hi260 := (hI256 51 (by decide)).trans hl51
                              have hi261 := (hI256 52 (by decide)).trans hl52
                              have hi262 := (hI256 53 (by decide)).trans hl53
                              have hi263 := (hI256 9 (by decide)).trans hl9
                              have hF_264 := hF1.mono (cIx hI256 (by decide)) (cRx hX257 (by decide))
                              have hY_265 := hY1.mono (cIx hI256 (by decide)) (cRx hX257 (by decide))
                              have hP_266 := hP1.mono (cIx hI256 (by decide)) (cRx hX257 (by decide))
                              have hEI267 := hEI1.tr hI256 (by decide)
                              have hER268 := hER1.tr hX257 (by decide)
                              show pl _ _ _ (276, [(7, .int 0), (0, .ref m0), (1, .int (nI k)), (2, .int (nI p)), (3, .int (nI (by1 f p)))], [.int 0], M251) _
                              exact ps_ret rfl rfl (Or.inr ⟨(12, p), I253, R254, by
                                  have hb : brkN f n E mj k = 12 := by
                                    have e12 := nwt_9 (f := f) (n := n) (E := E) (k := k)
                                    have e13 := mrf_9 (f := f) (n := n) (E := E) (k := k)
                                    unfold brkN
                                    first | ((repeat first | rw [if_pos (by omega)] | rw [if_neg (by omega)]) <;> first | rfl | omega) | ((repeat' split) <;> first | rfl | (exfalso; omega) | omega)
                                  rw [← hs, chkP_st (k := k) (by omega), if_neg (by omega), if_neg (by omega), hb, htp], rfl, hR255, hEI267, hER268, hi258, hi259⟩)
                            · have c_245 : ¬ (¬ (nI s195) = (nI s1)) := of_decide_eq_false c_245
                              have n_245 : s195 = s1 := (eq_nI (p := s195) (n := s1) (by omega) (by omega)).mp (Decidable.not_not.mp c_245)
                              refine ps_st (S' := (249, [(6, .int (nI (angN (tX f n E (fi f E (se f E k)))))), (5, .int (nI s205)), (4, .int (nI s195)), (0, .ref m0), (1, .int (nI k)), (2, .int (nI p)), (3, .int (nI (by1 f p)))], [.ref m0], M1)) rfl rfl rfl ?_
                              refine ps_st (S' := (251, [(6, .int (nI (angN (tX f n E (fi f E (se f E k)))))), (5, .int (nI s205)), (4, .int (nI s195)), (0, .ref m0), (1, .int (nI k)), (2, .int (nI p)), (3, .int (nI (by1 f p)))], [.int (nI s205), .ref m0], M1)) rfl rfl rfl ?_
                              refine pl_call (a := [.ref m0, .int (nI s205)]) (rest := []) rfl rfl rfl (rd_endsV (tx := tx) (cN := cN) (A := A) (s := s205) (l := (tX f n E (se f E (se f E k)))) hR1 hY1 (q191_s) (by omega)) (fun v269 M270 q271 => ?_)
                              obtain ⟨rfl, rfl⟩ := q271
                              show pl _ _ _ (254, [(6, .int (nI (angN (tX f n E (fi f E (se f E k)))))), (5, .int (nI s205)), (4, .int (nI s195)), (0, .ref m0), (1, .int (nI k)), (2, .int (nI p)), (3, .int (nI (by1 f p)))], [.int (nI (nresN (tX f n E (se f E (se f E k)))))], M1) _
                              refine ps_if (S1 := (261, [(0, .ref m0), (1, .int (nI k)), (2, .int (nI p)), (3, .int (nI (by1 f p)))], [], M1)) (S2 := (257, [(0, .ref m0), (1, .int (nI k)), (2, .int (nI p)), (3, .int (nI (by1 f p)))], [], M1)) rfl rfl rfl (fun c_254 => ?_) (fun c_254 => ?_)
                              · have c_254 : (nI (nresN (tX f n E (se f E (se f E k))))) = 0 := of_decide_eq_true c_254
                                have n_254 : nresN (tX f n E (se f E (se f E k))) = 0 := (eq_nI (p := nresN (tX f n E (se f E (se f E k)))) (n := 0) (Nat.lt_trans (le1_nres _) (by decide)) (by decide)).mp c_254
                                refine ps_st (S' := (262, [(0, .ref m0), (1, .int (nI k)), (2, .int (nI p)), (3, .int (nI (by1 f p)))], [.int 0], M1)) rfl rfl rfl ?_
                                refine ps_st (S' := (264, [(7, .int 0), (0, .ref m0), (1, .int (nI k)), (2, .int (nI p)), (3, .int (nI (by1 f p)))], [], M1)) rfl rfl rfl ?_
                                refine ps_st (S' := (266, [(7, .int 0), (0, .ref m0), (1, .int (nI k)), (2, .int (nI p)), (3, .int (nI (by1 f p)))], [.int 0], M1)) rfl rfl rfl ?_
                                refine ps_if (S1 := (277, [(0, .ref m0), (1, .int (nI k)), (2, .int (nI p)), (3, .int (nI (by1 f p)))], [], M1)) (S2 := (269, [(7, .int 0), (0, .ref m0), (1, .int (nI k)), (2, .int (nI p)), (3, .int (nI (by1 f p)))], [], M1)) rfl rfl rfl (fun c_266 => ?_) (fun c_266 => ?_)
                                · exact absurd (of_decide_eq_true c_266) (by decide)
                                refine ps_st (S' := (270, [(7, .int 0), (0, .ref m0), (1, .int (nI k)), (2, .int (nI p)), (3, .int (nI (by1 f p)))], [.ref m0], M1)) rfl rfl rfl ?_
                                refine ps_st (S' := (272, [(7, .int 0), (0, .ref m0), (1, .int (nI k)), (2, .int (nI p)), (3, .int (nI (by1 f p)))], [.int 12, .ref m0], M1)) rfl rfl rfl ?_
                                refine ps_st (S' := (273, [(7, .int 0), (0, .ref m0), (1, .int (nI k)), (2, .int (nI p)), (3, .int (nI (by1 f p)))], [.int (nI p), .int 12, .ref m0], M1)) rfl rfl rfl ?_
                                refine pl_call (a := [.ref m0, .int 12, .int (nI p)]) (rest := []) rfl rfl rfl (rd_wrong (x1 := 12) (x2 := (nI p)) hR1) (fun v272 M273 q274 => ?_)
                                obtain ⟨I275, R276, rfl, hR277, hI278, hX279, hi280, hi281⟩ := q274
                                have hi282 := (hI278 51 (by decide)).trans hl51
                                have hi283 := (hI278 52 (by decide)).trans hl52
                                have hi284 := (hI278 53 (by decide)).trans hl53
                                have hi285 := (hI278 9 (by decide)).trans hl9
                                have hF_286 := hF1.mono (cIx hI278 (by decide)) (cRx hX279 (by decide))
                                have hY_287 := hY1.mono (cIx hI278 (by decide)) (cRx hX279 (by decide))
                                have hP_288 := hP1.mono (cIx hI278 (by decide)) (cRx hX279 (by decide))
                                have hEI289 := hEI1.tr hI278 (by decide)
                                have hER290 := hER1.tr hX279 (by decide)
                                show pl _ _ _ (276, [(7, .int 0), (0, .ref m0), (1, .int (nI k)), (2, .int (nI p)), (3, .int (nI (by1 f p)))], [.int 0], M273) _
                                exact ps_ret rfl rfl (Or.inr ⟨(12, p), I275, R276, by
                                    have hb : brkN f n E mj k = 12 := by
                                      have e12 := nwt_9 (f := f) (n := n) (E := E) (k := k)
                                      have e13 := mrf_9 (f := f) (n := n) (E := E) (k := k)
                                      unfold brkN
                                      first | ((repeat first | rw [if_pos (by omega)] | rw [if_neg (by omega)]) <;> first | rfl | omega) | ((repeat' split) <;> first | rfl | (exfalso; omega) | omega)
                                    rw [← hs, chkP_st (k := k) (by omega), if_neg (by omega), if_neg (by omega), hb, htp], rfl, hR277, hEI289, hER290, hi280, hi281⟩)
                              · have c_254 : ¬ ((nI (nresN (tX f n E (se f E (se f E k))))) = 0) := of_decide_eq_false c_254
                                have n_254 : ¬ (nresN (tX f n E (se f E (se f E k))) = 0) := fun h9 => c_254 ((eq_nI (p := nresN (tX f n E (se f E (se f E k)))) (n := 0) (Nat.lt_trans (le1_nres _) (by decide)) (by decide)).mpr h9)
                                refine ps_st (S' := (258, [(0, .ref m0), (1, .int (nI k)), (2, .int (nI p)), (3, .int (nI (by1 f p)))], [.int 1], M1)) rfl rfl rfl ?_
                                refine ps_st (S' := (262, [(0, .ref m0), (1, .int (nI k)), (2, .int (nI p)), (3, .int (nI (by1 f p)))], [.int 1], M1)) rfl rfl rfl ?_
                                refine ps_st (S' := (264, [(7, .int 1), (0, .ref m0), (1, .int (nI k)), (2, .int (nI p)), (3, .int (nI (by1 f p)))], [], M1)) rfl rfl rfl ?_
                                refine ps_st (S' := (266, [(7, .int 1), (0, .ref m0), (1, .int (nI k)), (2, .int (nI p)), (3, .int (nI (by1 f p)))], [.int 1], M1)) rfl rfl rfl ?_
                                refine ps_if (S1 := (277, [(0, .ref m0), (1, .int (nI k)), (2, .int (nI p)), (3, .int (nI (by1 f p)))], [], M1)) (S2 := (269, [(7, .int 1), (0, .ref m0), (1, .int (nI k)), (2, .int (nI p)), (3, .int (nI (by1 f p)))], [], M1)) rfl rfl rfl (fun c_266 => ?_) (fun c_266 => ?_)
                                rotate_left
                                · exact absurd (by decide) (of_decide_eq_false c_266)
                                refine ps_st (S' := (278, [(0, .ref m0), (1, .int (nI k)), (2, .int (nI p)), (3, .int (nI (by1 f p)))], [.int (nI (by1 f p))], M1)) rfl rfl rfl ?_
                                refine ps_st (S' := (280, [(0, .ref m0), (1, .int (nI k)), (2, .int (nI p)), (3, .int (nI (by1 f p)))], [.int 15, .int (nI (by1 f p))], M1)) rfl rfl rfl ?_
                                refine ps_if2 (S1 := (299, [(0, .ref m0), (1, .int (nI k)), (2, .int (nI p)), (3, .int (nI (by1 f p)))], [], M1)) (S2 := (283, [(0, .ref m0), (1, .int (nI k)), (2, .int (nI p)), (3, .int (nI (by1 f p)))], [], M1)) rfl rfl rfl (fun c_280 => ?_) (fun c_280 => ?_)
                                rotate_left
                                · exact absurd (show ¬ ((nI (by1 f p)) = 15) from fun h9 => absurd ((eq_nI (p := by1 f p) (n := 15) (Nat.lt_trans (by1_lt _ _) (by decide)) (by decide)).mp h9) (by omega)) (of_decide_eq_false c_280)
                                refine ps_st (S' := (300, [(0, .ref m0), (1, .int (nI k)), (2, .int (nI p)), (3, .int (nI (by1 f p)))], [.int (nI (by1 f p))], M1)) rfl rfl rfl ?_
                                refine ps_st (S' := (302, [(0, .ref m0), (1, .int (nI k)), (2, .int (nI p)), (3, .int (nI (by1 f p)))], [.int 16, .int (nI (by1 f p))], M1)) rfl rfl rfl ?_
                                refine ps_if2 (S1 := (330, [(0, .ref m0), (1, .int (nI k)), (2, .int (nI p)), (3, .int (nI (by1 f p)))], [], M1)) (S2 := (305, [(0, .ref m0), (1, .int (nI k)), (2, .int (nI p)), (3, .int (nI (by1 f p)))], [], M1)) rfl rfl rfl (fun c_302 => ?_) (fun c_302 => ?_)
                                rotate_left
                                · exact absurd (show ¬ ((nI (by1 f p)) = 16) from fun h9 => absurd ((eq_nI (p := by1 f p) (n := 16) (Nat.lt_trans (by1_lt _ _) (by decide)) (by decide)).mp h9) (by omega)) (of_decide_eq_false c_302)
                                refine ps_st (S' := (331, [(0, .ref m0), (1, .int (nI k)), (2, .int (nI p)), (3, .int (nI (by1 f p)))], [.int (nI (by1 f p))], M1)) rfl rfl rfl ?_
                                refine ps_st (S' := (333, [(0, .ref m0), (1, .int (nI k)), (2, .int (nI p)), (3, .int (nI (by1 f p)))], [.int 17, .int (nI (by1 f p))], M1)) rfl rfl rfl ?_
                                refine ps_if2 (S1 := (342, [(0, .ref m0), (1, .int (nI k)), (2, .int (nI p)), (3, .int (nI (by1 f p)))], [], M1)) (S2 := (336, [(0, .ref m0), (1, .int (nI k)), (2, .int (nI p)), (3, .int (nI (by1 f p)))], [], M1)) rfl rfl rfl (fun c_333 => ?_) (fun c_333 => ?_)
                                · exact absurd (of_decide_eq_true c_333) (show ¬ ((nI (by1 f p)) = 17) from fun h9 => absurd ((eq_nI (p := by1 f p) (n := 17) (Nat.lt_trans (by1_lt _ _) (by decide)) (by decide)).mp h9) (by omega))
                                refine ps_st (S' := (337, [(0, .ref m0), (1, .int (nI k)), (2, .int (nI p)), (3, .int (nI (by1 f p)))], [.int (nI (by1 f p))], M1)) rfl rfl rfl ?_
                                refine ps_st (S' := (339, [(0, .ref m0), (1, .int (nI k)), (2, .int (nI p)), (3, .int (nI (by1 f p)))], [.int 18, .int (nI (by1 f p))], M1)) rfl rfl rfl ?_
                                refine ps_if2 (S1 := (420, [(0, .ref m0), (1, .int (nI k))], [], M1)) (S2 := (342, [(0, .ref m0), (1, .int (nI k)), (2, .int (nI p)), (3, .int (nI (by1 f p)))], [], M1)) rfl rfl rfl (fun c_339 => ?_) (fun c_339 => ?_)
                                rotate_left
                                · exact absurd (show ¬ ((nI (by1 f p)) = 18) from fun h9 => absurd ((eq_nI (p := by1 f p) (n := 18) (Nat.lt_trans (by1_lt _ _) (by decide)) (by decide)).mp h9) (by omega)) (of_decide_eq_false c_339)
                                refine ps_st (S' := (423, [(1, .int ((nI k) + 1)), (0, .ref m0)], [], M1)) rfl rfl rfl ?_
                                rw [nI_add1 (p := k) (k := 1) (x := 1) rfl (by omega)]
                                show pl _ _ _ (_, [(1, .int (nI (k + 1))), (0, .ref m0)], [], M1) _
                                refine ps_st (S' := (2, [(0, .ref m0), (1, .int (nI (k + 1)))], [], M1)) rfl rfl rfl ?_
                                exact ih (k + 1) M1 I1 R1 hR1 hEI1 hER1 hl51 hl52 hl53 hl9 hF1 hY1 hP1 (by omega) (by
                                    have hb : brkN f n E mj k = 0 := by
                                      have e12 := nwt_9 (f := f) (n := n) (E := E) (k := k)
                                      have e13 := mrf_9 (f := f) (n := n) (E := E) (k := k)
                                      unfold brkN
                                      first | ((repeat first | rw [if_pos (by omega)] | rw [if_neg (by omega)]) <;> first | rfl | omega) | ((repeat' split) <;> first | rfl | (exfalso; omega) | omega)
                                    rw [← hs, chkP_st (k := k) (by omega), if_neg (by omega), if_pos hb])
                    · have c_207 : ¬ (¬ (nI (by1 f p)) = 9) := of_decide_eq_false c_207
                      have n_207 : by1 f p = 9 := (eq_nI (p := by1 f p) (n := 9) (Nat.lt_trans (by1_lt _ _) (by decide)) (by decide)).mp (Decidable.not_not.mp c_207)
                      refine ps_st (S' := (211, [(6, .int (nI (angN (tX f n E (fi f E (se f E k)))))), (5, .int (nI s205)), (4, .int (nI s195)), (0, .ref m0), (1, .int (nI k)), (2, .int (nI p)), (3, .int (nI (by1 f p)))], [.ref m0], M1)) rfl rfl rfl ?_
                      refine ps_st (S' := (213, [(6, .int (nI (angN (tX f n E (fi f E (se f E k)))))), (5, .int (nI s205)), (4, .int (nI s195)), (0, .ref m0), (1, .int (nI k)), (2, .int (nI p)), (3, .int (nI (by1 f p)))], [.int (nI s205), .ref m0], M1)) rfl rfl rfl ?_
                      refine pl_call (a := [.ref m0, .int (nI s205)]) (rest := []) rfl rfl rfl (rd_isField (tx := tx) (cN := cN) (A := A) (s := s205) (l := (tX f n E (se f E (se f E k)))) hR1 hY1 (q191_s)) (fun v291 M292 q293 => ?_)
                      obtain ⟨rfl, rfl⟩ := q293
                      show pl _ _ _ (216, [(6, .int (nI (angN (tX f n E (fi f E (se f E k)))))), (5, .int (nI s205)), (4, .int (nI s195)), (0, .ref m0), (1, .int (nI k)), (2, .int (nI p)), (3, .int (nI (by1 f p)))], [.int (nI (fldN (tX f n E (se f E (se f E k)))))], M1) _
                      refine ps_st (S' := (262, [(0, .ref m0), (1, .int (nI k)), (2, .int (nI p)), (3, .int (nI (by1 f p)))], [.int (nI (fldN (tX f n E (se f E (se f E k)))))], M1)) rfl rfl rfl ?_
                      refine ps_st (S' := (264, [(7, .int (nI (fldN (tX f n E (se f E (se f E k)))))), (0, .ref m0), (1, .int (nI k)), (2, .int (nI p)), (3, .int (nI (by1 f p)))], [], M1)) rfl rfl rfl ?_
                      refine ps_st (S' := (266, [(7, .int (nI (fldN (tX f n E (se f E (se f E k)))))), (0, .ref m0), (1, .int (nI k)), (2, .int (nI p)), (3, .int (nI (by1 f p)))], [.int (nI (fldN (tX f n E (se f E (se f E k)))))], M1)) rfl rfl rfl ?_
                      refine ps_if (S1 := (277, [(0, .ref m0), (1, .int (nI k)), (2, .int (nI p)), (3, .int (nI (by1 f p)))], [], M1)) (S2 := (269, [(7, .int (nI (fldN (tX f n E (se f E (se f E k)))))), (0, .ref m0), (1, .int (nI k)), (2, .int (nI p)), (3, .int (nI (by1 f p)))], [], M1)) rfl rfl rfl (fun c_266 => ?_) (fun c_266 => ?_)
                      · have c_266 : ¬ (nI (fldN (tX f n E (se f E (se f E k))))) = 0 := of_decide_eq_true c_266
                        have n_266 : ¬ (fldN (tX f n E (se f E (se f E k))) = 0) := fun h9 => c_266 ((eq_nI (p := fldN (tX f n E (se f E (se f E k)))) (n := 0) (Nat.lt_trans (le1_fld _) (by decide)) (by decide)).mpr h9)
                        refine ps_st (S' := (278, [(0, .ref m0), (1, .int (nI k)), (2, .int (nI p)), (3, .int (nI (by1 f p)))], [.int (nI (by1 f p))], M1)) rfl rfl rfl ?_
                        refine ps_st (S' := (280, [(0, .ref m0), (1, .int (nI k)), (2, .int (nI p)), (3, .int (nI (by1 f p)))], [.int 15, .int (nI (by1 f p))], M1)) rfl rfl rfl ?_
                        refine ps_if2 (S1 := (299, [(0, .ref m0), (1, .int (nI k)), (2, .int (nI p)), (3, .int (nI (by1 f p)))], [], M1)) (S2 := (283, [(0, .ref m0), (1, .int (nI k)), (2, .int (nI p)), (3, .int (nI (by1 f p)))], [], M1)) rfl rfl rfl (fun c_280 => ?_) (fun c_280 => ?_)
                        rotate_left
                        · exact absurd (show ¬ ((nI (by1 f p)) = 15) from fun h9 => absurd ((eq_nI (p := by1 f p) (n := 15) (Nat.lt_trans (by1_lt _ _) (by decide)) (by decide)).mp h9) (by omega)) (of_decide_eq_false c_280)
                        refine ps_st (S' := (300, [(0, .ref m0), (1, .int (nI k)), (2, .int (nI p)), (3, .int (nI (by1 f p)))], [.int (nI (by1 f p))], M1)) rfl rfl rfl ?_
                        refine ps_st (S' := (302, [(0, .ref m0), (1, .int (nI k)), (2, .int (nI p)), (3, .int (nI (by1 f p)))], [.int 16, .int (nI (by1 f p))], M1)) rfl rfl rfl ?_
                        refine ps_if2 (S1 := (330, [(0, .ref m0), (1, .int (nI k)), (2, .int (nI p)), (3, .int (nI (by1 f p)))], [], M1)) (S2 := (305, [(0, .ref m0), (1, .int (nI k)), (2, .int (nI p)), (3, .int (nI (by1 f p)))], [], M1)) rfl rfl rfl (fun c_302 => ?_) (fun c_302 => ?_)
                        rotate_left
                        · exact absurd (show ¬ ((nI (by1 f p)) = 16) from fun h9 => absurd ((eq_nI (p := by1 f p) (n := 16) (Nat.lt_trans (by1_lt _ _) (by decide)) (by decide)).mp h9) (by omega)) (of_decide_eq_false c_302)
                        refine ps_st (S' := (331, [(0, .ref m0), (1, .int (nI k)), (2, .int (nI p)), (3, .int (nI (by1 f p)))], [.int (nI (by1 f p))], M1)) rfl rfl rfl ?_
                        refine ps_st (S' := (333, [(0, .ref m0), (1, .int (nI k)), (2, .int (nI p)), (3, .int (nI (by1 f p)))], [.int 17, .int (nI (by1 f p))], M1)) rfl rfl rfl ?_
                        refine ps_if2 (S1 := (342, [(0, .ref m0), (1, .int (nI k)), (2, .int (nI p)), (3, .int (nI (by1 f p)))], [], M1)) (S2 := (336, [(0, .ref m0), (1, .int (nI k)), (2, .int (nI p)), (3, .int (nI (by1 f p)))], [], M1)) rfl rfl rfl (fun c_333 => ?_) (fun c_333 => ?_)
                        · exact absurd (of_decide_eq_true c_333) (show ¬ ((nI (by1 f p)) = 17) from fun h9 => absurd ((eq_nI (p := by1 f p) (n := 17) (Nat.lt_trans (by1_lt _ _) (by decide)) (by decide)).mp h9) (by omega))
                        refine ps_st (S' := (337, [(0, .ref m0), (1, .int (nI k)), (2, .int (nI p)), (3, .int (nI (by1 f p)))], [.int (nI (by1 f p))], M1)) rfl rfl rfl ?_
                        refine ps_st (S' := (339, [(0, .ref m0), (1, .int (nI k)), (2, .int (nI p)), (3, .int (nI (by1 f p)))], [.int 18, .int (nI (by1 f p))], M1)) rfl rfl rfl ?_
                        refine ps_if2 (S1 := (420, [(0, .ref m0), (1, .int (nI k))], [], M1)) (S2 := (342, [(0, .ref m0), (1, .int (nI k)), (2, .int (nI p)), (3, .int (nI (by1 f p)))], [], M1)) rfl rfl rfl (fun c_339 => ?_) (fun c_339 => ?_)
                        rotate_left
                        · exact absurd (show ¬ ((nI (by1 f p)) = 18) from fun h9 => absurd ((eq_nI (p := by1 f p) (n := 18) (Nat.lt_trans (by1_lt _ _) (by decide)) (by decide)).mp h9) (by omega)) (of_decide_eq_false c_339)
                        refine ps_st (S' := (423, [(1, .int ((nI k) + 1)), (0, .ref m0)], [], M1)) rfl rfl rfl ?_
                        rw [nI_add1 (p := k) (k := 1) (x := 1) rfl (by omega)]
                        show pl _ _ _ (_, [(1, .int (nI (k + 1))), (0, .ref m0)], [], M1) _
                        refine ps_st (S' := (2, [(0, .ref m0), (1, .int (nI (k + 1)))], [], M1)) rfl rfl rfl ?_
                        exact ih (k + 1) M1 I1 R1 hR1 hEI1 hER1 hl51 hl52 hl53 hl9 hF1 hY1 hP1 (by omega) (by
                            have hb : brkN f n E mj k = 0 := by
                              have e12 := nwt_9 (f := f) (n := n) (E := E) (k := k)
                              have e13 := mrf_9 (f := f) (n := n) (E := E) (k := k)
                              unfold brkN
                              first | ((repeat first | rw [if_pos (by omega)] | rw [if_neg (by omega)]) <;> first | rfl | omega) | ((repeat' split) <;> first | rfl | (exfalso; omega) | omega)
                            rw [← hs, chkP_st (k := k) (by omega), if_neg (by omega), if_pos hb])
                      · have c_266 : ¬ (¬ (nI (fldN (tX f n E (se f E (se f E k))))) = 0) := of_decide_eq_false c_266
                        have n_266 : fldN (tX f n E (se f E (se f E k))) = 0 := (eq_nI (p := fldN (tX f n E (se f E (se f E k)))) (n := 0) (Nat.lt_trans (le1_fld _) (by decide)) (by decide)).mp (Decidable.not_not.mp c_266)
                        refine ps_st (S' := (270, [(7, .int (nI (fldN (tX f n E (se f E (se f E k)))))), (0, .ref m0), (1, .int (nI k)), (2, .int (nI p)), (3, .int (nI (by1 f p)))], [.ref m0], M1)) rfl rfl rfl ?_
                        refine ps_st (S' := (272, [(7, .int (nI (fldN (tX f n E (se f E (se f E k)))))), (0, .ref m0), (1, .int (nI k)), (2, .int (nI p)), (3, .int (nI (by1 f p)))], [.int 12, .ref m0], M1)) rfl rfl rfl ?_
                        refine ps_st (S' := (273, [(7, .int (nI (fldN (tX f n E (se f E (se f E k)))))), (0, .ref m0), (1, .int (nI k)), (2, .int (nI p)), (3, .int (nI (by1 f p)))], [.int (nI p), .int 12, .ref m0], M1)) rfl rfl rfl ?_
                        refine pl_call (a := [.ref m0, .int 12, .int (nI p)]) (rest := []) rfl rfl rfl (rd_wrong (x1 := 12) (x2 := (nI p)) hR1) (fun v294 M295 q296 => ?_)
                        obtain ⟨I297, R298, rfl, hR299, hI300, hX301, hi302, hi303⟩ := q296
                        have hi304 := (hI300 51 (by decide)).trans hl51
                        have hi305 := (hI300 52 (by decide)).trans hl52
                        have hi306 := (hI300 53 (by decide)).trans hl53
                        have hi307 := (hI300 9 (by decide)).trans hl9
                        have hF_308 := hF1.mono (cIx hI300 (by decide)) (cRx hX301 (by decide))
                        have hY_309 := hY1.mono (cIx hI300 (by decide)) (cRx hX301 (by decide))
                        have hP_310 := hP1.mono (cIx hI300 (by decide)) (cRx hX301 (by decide))
                        have hEI311 := hEI1.tr hI300 (by decide)
                        have hER312 := hER1.tr hX301 (by decide)
                        show pl _ _ _ (276, [(7, .int (nI (fldN (tX f n E (se f E (se f E k)))))), (0, .ref m0), (1, .int (nI k)), (2, .int (nI p)), (3, .int (nI (by1 f p)))], [.int 0], M295) _
                        exact ps_ret rfl rfl (Or.inr ⟨(12, p), I297, R298, by
                            have hb : brkN f n E mj k = 12 := by
                              have e12 := nwt_9 (f := f) (n := n) (E := E) (k := k)
                              have e13 := mrf_9 (f := f) (n := n) (E := E) (k := k)
                              unfold brkN
                              first | ((repeat first | rw [if_pos (by omega)] | rw [if_neg (by omega)]) <;> first | rfl | omega) | ((repeat' split) <;> first | rfl | (exfalso; omega) | omega)
                            rw [← hs, chkP_st (k := k) (by omega), if_neg (by omega), if_neg (by omega), hb, htp], rfl, hR299, hEI311, hER312, hi302, hi303⟩)
              · have c_87 : ¬ (¬ (nI (by1 f p)) = 12) := of_decide_eq_false c_87
                have n_87 : by1 f p = 12 := (eq_nI (p := by1 f p) (n := 12) (Nat.lt_trans (by1_lt _ _) (by decide)) (by decide)).mp (Decidable.not_not.mp c_87)
                refine ps_st (S' := (91, [(0, .ref m0), (1, .int (nI k)), (2, .int (nI p)), (3, .int (nI (by1 f p)))], [.ref m0], M1)) rfl rfl rfl ?_
                refine ps_st (S' := (92, [(0, .ref m0), (1, .int (nI k)), (2, .int (nI p)), (3, .int (nI (by1 f p)))], [.ref m0, .ref m0], M1)) rfl rfl rfl ?_
                refine ps_st (S' := (93, [(0, .ref m0), (1, .int (nI k)), (2, .int (nI p)), (3, .int (nI (by1 f p)))], [.ref m0, .ref m0, .ref m0], M1)) rfl rfl rfl ?_
                refine ps_st (S' := (94, [(0, .ref m0), (1, .int (nI k)), (2, .int (nI p)), (3, .int (nI (by1 f p)))], [.int (nI k), .ref m0, .ref m0, .ref m0], M1)) rfl rfl rfl ?_
                refine ps_st (S' := (95, [(0, .ref m0), (1, .int (nI k)), (2, .int (nI p)), (3, .int (nI (by1 f p)))], [.int 1, .int (nI k), .ref m0, .ref m0, .ref m0], M1)) rfl rfl rfl ?_
                refine pl_call (a := [.ref m0, .int (nI k), .int 1]) (rest := [.ref m0, .ref m0]) rfl rfl rfl (rd_idx1 (n := n) (f := f) (tx := tx) (cN := cN) (A := A) (N := N) (mj := mj) (E := E) (k := k) hR1 hl51 hl52 hl53 hF1 hY1 hP1 (hEP) (hN) (hmj) (by omega)) (fun v313 M314 q315 => ?_)
                obtain ⟨rfl, rfl⟩ := q315
                show pl _ _ _ (98, [(0, .ref m0), (1, .int (nI k)), (2, .int (nI p)), (3, .int (nI (by1 f p)))], [.int (nI (fi f E k)), .ref m0, .ref m0], M1) _
                have hix_95 := fi_lt f E k
                refine pl_call (a := [.ref m0, .int (nI (fi f E k))]) (rest := [.ref m0]) rfl rfl rfl (rd_symOf (n := n) (f := f) (tx := tx) (cN := cN) (A := A) (N := N) (mj := mj) (E := E) (k := (fi f E k)) hR1 hl51 hl52 hl53 hF1 hY1 hP1 (hEP) (hN) (hmj) (by omega)) (fun v316 M317 q318 => ?_)
                obtain ⟨s319, q98_s, rfl, rfl⟩ := q318
                show pl _ _ _ (101, [(0, .ref m0), (1, .int (nI k)), (2, .int (nI p)), (3, .int (nI (by1 f p)))], [.int (nI s319), .ref m0], M1) _
                have hsl_98 := q98_s.1
                have htl_98 := hY1.1.2.2.1
                refine ps_st (S' := (102, [(0, .ref m0), (1, .int (nI k)), (2, .int (nI p)), (3, .int (nI (by1 f p)))], [.int 1, .int (nI s319), .ref m0], M1)) rfl rfl rfl ?_
                refine pl_call (a := [.ref m0, .int (nI s319), .int 1]) (rest := []) rfl rfl rfl (rd_unq1 (tx := tx) (cN := cN) (A := A) (s := s319) (l := (tX f n E (fi f E k))) hR1 hY1 (q98_s)) (fun v320 M321 q322 => ?_)
                obtain ⟨rfl, rfl⟩ := q322
                show pl _ _ _ (105, [(0, .ref m0), (1, .int (nI k)), (2, .int (nI p)), (3, .int (nI (by1 f p)))], [.int (nI (unqN (tX f n E (fi f E k))))], M1) _
                refine ps_if (S1 := (142, [(0, .ref m0), (2, .int (nI p))], [], M1)) (S2 := (108, [(0, .ref m0), (1, .int (nI k)), (2, .int (nI p)), (3, .int (nI (by1 f p)))], [], M1)) rfl rfl rfl (fun c_105 => ?_) (fun c_105 => ?_)
                · have c_105 : (nI (unqN (tX f n E (fi f E k)))) = 0 := of_decide_eq_true c_105
                  have n_105 : unqN (tX f n E (fi f E k)) = 0 := (eq_nI (p := unqN (tX f n E (fi f E k))) (n := 0) (Nat.lt_trans (le1_unq _) (by decide)) (by decide)).mp c_105
                  refine ps_st (S' := (143, [(0, .ref m0), (2, .int (nI p))], [.ref m0], M1)) rfl rfl rfl ?_
                  refine ps_st (S' := (145, [(0, .ref m0), (2, .int (nI p))], [.int 11, .ref m0], M1)) rfl rfl rfl ?_
                  refine ps_st (S' := (146, [(0, .ref m0), (2, .int (nI p))], [.int (nI p), .int 11, .ref m0], M1)) rfl rfl rfl ?_
                  refine pl_call (a := [.ref m0, .int 11, .int (nI p)]) (rest := []) rfl rfl rfl (rd_wrong (x1 := 11) (x2 := (nI p)) hR1) (fun v323 M324 q325 => ?_)
                  obtain ⟨I326, R327, rfl, hR328, hI329, hX330, hi331, hi332⟩ := q325
                  have hi333 := (hI329 51 (by decide)).trans hl51
                  have hi334 := (hI329 52 (by decide)).trans hl52
                  have hi335 := (hI329 53 (by decide)).trans hl53
                  have hi336 := (hI329 9 (by decide)).trans hl9
                  have hF_337 := hF1.mono (cIx hI329 (by decide)) (cRx hX330 (by decide))
                  have hY_338 := hY1.mono (cIx hI329 (by decide)) (cRx hX330 (by decide))
                  have hP_339 := hP1.mono (cIx hI329 (by decide)) (cRx hX330 (by decide))
                  have hEI340 := hEI1.tr hI329 (by decide)
                  have hER341 := hER1.tr hX330 (by decide)
                  show pl _ _ _ (149, [(0, .ref m0), (2, .int (nI p))], [.int 0], M324) _
                  exact ps_ret rfl rfl (Or.inr ⟨(11, p), I326, R327, by
                      have hb : brkN f n E mj k = 11 := by
                        have e12 := nwt_9 (f := f) (n := n) (E := E) (k := k)
                        have e13 := mrf_9 (f := f) (n := n) (E := E) (k := k)
                        unfold brkN
                        first | ((repeat first | rw [if_pos (by omega)] | rw [if_neg (by omega)]) <;> first | rfl | omega) | ((repeat' split) <;> first | rfl | (exfalso; omega) | omega)
                      rw [← hs, chkP_st (k := k) (by omega), if_neg (by omega), if_neg (by omega), hb, htp], rfl, hR328, hEI340, hER341, hi331, hi332⟩)
                · have c_105 : ¬ ((nI (unqN (tX f n E (fi f E k)))) = 0) := of_decide_eq_false c_105
                  have n_105 : ¬ (unqN (tX f n E (fi f E k)) = 0) := fun h9 => c_105 ((eq_nI (p := unqN (tX f n E (fi f E k))) (n := 0) (Nat.lt_trans (le1_unq _) (by decide)) (by decide)).mpr h9)
                  refine ps_st (S' := (109, [(0, .ref m0), (1, .int (nI k)), (2, .int (nI p)), (3, .int (nI (by1 f p)))], [.ref m0], M1)) rfl rfl rfl ?_
                  refine ps_st (S' := (110, [(0, .ref m0), (1, .int (nI k)), (2, .int (nI p)), (3, .int (nI (by1 f p)))], [.ref m0, .ref m0], M1)) rfl rfl rfl ?_
                  refine ps_st (S' := (111, [(0, .ref m0), (1, .int (nI k)), (2, .int (nI p)), (3, .int (nI (by1 f p)))], [.ref m0, .ref m0, .ref m0], M1)) rfl rfl rfl ?_
                  refine ps_st (S' := (112, [(0, .ref m0), (1, .int (nI k)), (2, .int (nI p)), (3, .int (nI (by1 f p)))], [.int (nI k), .ref m0, .ref m0, .ref m0], M1)) rfl rfl rfl ?_
                  refine ps_st (S' := (113, [(0, .ref m0), (1, .int (nI k)), (2, .int (nI p)), (3, .int (nI (by1 f p)))], [.int 3, .int (nI k), .ref m0, .ref m0, .ref m0], M1)) rfl rfl rfl ?_
                  refine pl_call (a := [.ref m0, .int (nI k), .int 3]) (rest := [.ref m0, .ref m0]) rfl rfl rfl (rd_idx3 (n := n) (f := f) (tx := tx) (cN := cN) (A := A) (N := N) (mj := mj) (E := E) (k := k) hR1 hl51 hl52 hl53 hF1 hY1 hP1 (hEP) (hN) (hmj) (by omega)) (fun v342 M343 q344 => ?_)
                  obtain ⟨rfl, rfl⟩ := q344
                  show pl _ _ _ (116, [(0, .ref m0), (1, .int (nI k)), (2, .int (nI p)), (3, .int (nI (by1 f p)))], [.int (nI (se f E k)), .ref m0, .ref m0], M1) _
                  have hix_113 := se_lt f E k
                  refine pl_call (a := [.ref m0, .int (nI (se f E k))]) (rest := [.ref m0]) rfl rfl rfl (rd_symOf (n := n) (f := f) (tx := tx) (cN := cN) (A := A) (N := N) (mj := mj) (E := E) (k := (se f E k)) hR1 hl51 hl52 hl53 hF1 hY1 hP1 (hEP) (hN) (hmj) (by omega)) (fun v345 M346 q347 => ?_)
                  obtain ⟨s348, q116_s, rfl, rfl⟩ := q347
                  show pl _ _ _ (119, [(0, .ref m0), (1, .int (nI k)), (2, .int (nI p)), (3, .int (nI (by1 f p)))], [.int (nI s348), .ref m0], M1) _
                  have hsl_116 := q116_s.1
                  have htl_116 := hY1.1.2.2.1
                  refine pl_call (a := [.ref m0, .int (nI s348)]) (rest := []) rfl rfl rfl (rd_isField (tx := tx) (cN := cN) (A := A) (s := s348) (l := (tX f n E (se f E k))) hR1 hY1 (q116_s)) (fun v349 M350 q351 => ?_)
                  obtain ⟨rfl, rfl⟩ := q351
                  show pl _ _ _ (122, [(0, .ref m0), (1, .int (nI k)), (2, .int (nI p)), (3, .int (nI (by1 f p)))], [.int (nI (fldN (tX f n E (se f E k))))], M1) _
                  refine ps_if (S1 := (150, [(0, .ref m0), (1, .int (nI k)), (2, .int (nI p)), (3, .int (nI (by1 f p)))], [], M1)) (S2 := (125, [(0, .ref m0), (1, .int (nI k)), (2, .int (nI p)), (3, .int (nI (by1 f p)))], [], M1)) rfl rfl rfl (fun c_122 => ?_) (fun c_122 => ?_)
                  · have c_122 : ¬ (nI (fldN (tX f n E (se f E k)))) = 0 := of_decide_eq_true c_122
                    have n_122 : ¬ (fldN (tX f n E (se f E k)) = 0) := fun h9 => c_122 ((eq_nI (p := fldN (tX f n E (se f E k))) (n := 0) (Nat.lt_trans (le1_fld _) (by decide)) (by decide)).mpr h9)
                    refine ps_st (S' := (151, [(0, .ref m0), (1, .int (nI k)), (2, .int (nI p)), (3, .int (nI (by1 f p)))], [.int (nI (by1 f p))], M1)) rfl rfl rfl ?_
                    refine ps_st (S' := (153, [(0, .ref m0), (1, .int (nI k)), (2, .int (nI p)), (3, .int (nI (by1 f p)))], [.int 9, .int (nI (by1 f p))], M1)) rfl rfl rfl ?_
                    refine ps_if2 (S1 := (277, [(0, .ref m0), (1, .int (nI k)), (2, .int (nI p)), (3, .int (nI (by1 f p)))], [], M1)) (S2 := (156, [(0, .ref m0), (1, .int (nI k)), (2, .int (nI p)), (3, .int (nI (by1 f p)))], [], M1)) rfl rfl rfl (fun c_153 => ?_) (fun c_153 => ?_)
                    · exact absurd (of_decide_eq_true c_153) (show ¬ ((nI (by1 f p)) < 9) from fun h9 => absurd ((lt_nI (p := by1 f p) (n := 9) (Nat.lt_trans (by1_lt _ _) (by decide)) (by decide)).mp h9) (by omega))
                    refine ps_st (S' := (157, [(0, .ref m0), (1, .int (nI k)), (2, .int (nI p)), (3, .int (nI (by1 f p)))], [.int (nI (by1 f p))], M1)) rfl rfl rfl ?_
                    refine ps_st (S' := (159, [(0, .ref m0), (1, .int (nI k)), (2, .int (nI p)), (3, .int (nI (by1 f p)))], [.int 11, .int (nI (by1 f p))], M1)) rfl rfl rfl ?_
                    refine ps_if2 (S1 := (277, [(0, .ref m0), (1, .int (nI k)), (2, .int (nI p)), (3, .int (nI (by1 f p)))], [], M1)) (S2 := (162, [(0, .ref m0), (1, .int (nI k)), (2, .int (nI p)), (3, .int (nI (by1 f p)))], [], M1)) rfl rfl rfl (fun c_159 => ?_) (fun c_159 => ?_)
                    rotate_left
                    · exact absurd ((lt_nI (p := 11) (n := by1 f p) (by decide) (Nat.lt_trans (by1_lt _ _) (by decide))).mpr (by omega)) (of_decide_eq_false c_159)
                    refine ps_st (S' := (278, [(0, .ref m0), (1, .int (nI k)), (2, .int (nI p)), (3, .int (nI (by1 f p)))], [.int (nI (by1 f p))], M1)) rfl rfl rfl ?_
                    refine ps_st (S' := (280, [(0, .ref m0), (1, .int (nI k)), (2, .int (nI p)), (3, .int (nI (by1 f p)))], [.int 15, .int (nI (by1 f p))], M1)) rfl rfl rfl ?_
                    refine ps_if2 (S1 := (299, [(0, .ref m0), (1, .int (nI k)), (2, .int (nI p)), (3, .int (nI (by1 f p)))], [], M1)) (S2 := (283, [(0, .ref m0), (1, .int (nI k)), (2, .int (nI p)), (3, .int (nI (by1 f p)))], [], M1)) rfl rfl rfl (fun c_280 => ?_) (fun c_280 => ?_)
                    rotate_left
                    · exact absurd (show ¬ ((nI (by1 f p)) = 15) from fun h9 => absurd ((eq_nI (p := by1 f p) (n := 15) (Nat.lt_trans (by1_lt _ _) (by decide)) (by decide)).mp h9) (by omega)) (of_decide_eq_false c_280)
                    refine ps_st (S' := (300, [(0, .ref m0), (1, .int (nI k)), (2, .int (nI p)), (3, .int (nI (by1 f p)))], [.int (nI (by1 f p))], M1)) rfl rfl rfl ?_
                    refine ps_st (S' := (302, [(0, .ref m0), (1, .int (nI k)), (2, .int (nI p)), (3, .int (nI (by1 f p)))], [.int 16, .int (nI (by1 f p))], M1)) rfl rfl rfl ?_
                    refine ps_if2 (S1 := (330, [(0, .ref m0), (1, .int (nI k)), (2, .int (nI p)), (3, .int (nI (by1 f p)))], [], M1)) (S2 := (305, [(0, .ref m0), (1, .int (nI k)), (2, .int (nI p)), (3, .int (nI (by1 f p)))], [], M1)) rfl rfl rfl (fun c_302 => ?_) (fun c_302 => ?_)
                    rotate_left
                    · exact absurd (show ¬ ((nI (by1 f p)) = 16) from fun h9 => absurd ((eq_nI (p := by1 f p) (n := 16) (Nat.lt_trans (by1_lt _ _) (by decide)) (by decide)).mp h9) (by omega)) (of_decide_eq_false c_302)
                    refine ps_st (S' := (331, [(0, .ref m0), (1, .int (nI k)), (2, .int (nI p)), (3, .int (nI (by1 f p)))], [.int (nI (by1 f p))], M1)) rfl rfl rfl ?_
                    refine ps_st (S' := (333, [(0, .ref m0), (1, .int (nI k)), (2, .int (nI p)), (3, .int (nI (by1 f p)))], [.int 17, .int (nI (by1 f p))], M1)) rfl rfl rfl ?_
                    refine ps_if2 (S1 := (342, [(0, .ref m0), (1, .int (nI k)), (2, .int (nI p)), (3, .int (nI (by1 f p)))], [], M1)) (S2 := (336, [(0, .ref m0), (1, .int (nI k)), (2, .int (nI p)), (3, .int (nI (by1 f p)))], [], M1)) rfl rfl rfl (fun c_333 => ?_) (fun c_333 => ?_)
                    · exact absurd (of_decide_eq_true c_333) (show ¬ ((nI (by1 f p)) = 17) from fun h9 => absurd ((eq_nI (p := by1 f p) (n := 17) (Nat.lt_trans (by1_lt _ _) (by decide)) (by decide)).mp h9) (by omega))
                    refine ps_st (S' := (337, [(0, .ref m0), (1, .int (nI k)), (2, .int (nI p)), (3, .int (nI (by1 f p)))], [.int (nI (by1 f p))], M1)) rfl rfl rfl ?_
                    refine ps_st (S' := (339, [(0, .ref m0), (1, .int (nI k)), (2, .int (nI p)), (3, .int (nI (by1 f p)))], [.int 18, .int (nI (by1 f p))], M1)) rfl rfl rfl ?_
                    refine ps_if2 (S1 := (420, [(0, .ref m0), (1, .int (nI k))], [], M1)) (S2 := (342, [(0, .ref m0), (1, .int (nI k)), (2, .int (nI p)), (3, .int (nI (by1 f p)))], [], M1)) rfl rfl rfl (fun c_339 => ?_) (fun c_339 => ?_)
                    rotate_left
                    · exact absurd (show ¬ ((nI (by1 f p)) = 18) from fun h9 => absurd ((eq_nI (p := by1 f p) (n := 18) (Nat.lt_trans (by1_lt _ _) (by decide)) (by decide)).mp h9) (by omega)) (of_decide_eq_false c_339)
                    refine ps_st (S' := (423, [(1, .int ((nI k) + 1)), (0, .ref m0)], [], M1)) rfl rfl rfl ?_
                    rw [nI_add1 (p := k) (k := 1) (x := 1) rfl (by omega)]
                    show pl _ _ _ (_, [(1, .int (nI (k + 1))), (0, .ref m0)], [], M1) _
                    refine ps_st (S' := (2, [(0, .ref m0), (1, .int (nI (k + 1)))], [], M1)) rfl rfl rfl ?_
                    exact ih (k + 1) M1 I1 R1 hR1 hEI1 hER1 hl51 hl52 hl53 hl9 hF1 hY1 hP1 (by omega) (by
                        have hb : brkN f n E mj k = 0 := by
                          have e12 := nwt_9 (f := f) (n := n) (E := E) (k := k)
                          have e13 := mrf_9 (f := f) (n := n) (E := E) (k := k)
                          unfold brkN
                          first | ((repeat first | rw [if_pos (by omega)] | rw [if_neg (by omega)]) <;> first | rfl | omega) | ((repeat' split) <;> first | rfl | (exfalso; omega) | omega)
                        rw [← hs, chkP_st (k := k) (by omega), if_neg (by omega), if_pos hb])
                  · have c_122 : ¬ (¬ (nI (fldN (tX f n E (se f E k)))) = 0) := of_decide_eq_false c_122
                    have n_122 : fldN (tX f n E (se f E k)) = 0 := (eq_nI (p := fldN (tX f n E (se f E k))) (n := 0) (Nat.lt_trans (le1_fld _) (by decide)) (by decide)).mp (Decidable.not_not.mp c_122)
                    refine ps_st (S' := (126, [(0, .ref m0), (1, .int (nI k)), (2, .int (nI p)), (3, .int (nI (by1 f p)))], [.ref m0], M1)) rfl rfl rfl ?_
                    refine ps_st (S' := (127, [(0, .ref m0), (1, .int (nI k)), (2, .int (nI p)), (3, .int (nI (by1 f p)))], [.ref m0, .ref m0], M1)) rfl rfl rfl ?_
                    refine ps_st (S' := (128, [(0, .ref m0), (1, .int (nI k)), (2, .int (nI p)), (3, .int (nI (by1 f p)))], [.ref m0, .ref m0, .ref m0], M1)) rfl rfl rfl ?_
                    refine ps_st (S' := (129, [(0, .ref m0), (1, .int (nI k)), (2, .int (nI p)), (3, .int (nI (by1 f p)))], [.int (nI k), .ref m0, .ref m0, .ref m0], M1)) rfl rfl rfl ?_
                    refine ps_st (S' := (130, [(0, .ref m0), (1, .int (nI k)), (2, .int (nI p)), (3, .int (nI (by1 f p)))], [.int 3, .int (nI k), .ref m0, .ref m0, .ref m0], M1)) rfl rfl rfl ?_
                    refine pl_call (a := [.ref m0, .int (nI k), .int 3]) (rest := [.ref m0, .ref m0]) rfl rfl rfl (rd_idx3 (n := n) (f := f) (tx := tx) (cN := cN) (A := A) (N := N) (mj := mj) (E := E) (k := k) hR1 hl51 hl52 hl53 hF1 hY1 hP1 (hEP) (hN) (hmj) (by omega)) (fun v352 M353 q354 => ?_)
                    obtain ⟨rfl, rfl⟩ := q354
                    show pl _ _ _ (133, [(0, .ref m0), (1, .int (nI k)), (2, .int (nI p)), (3, .int (nI (by1 f p)))], [.int (nI (se f E k)), .ref m0, .ref m0], M1) _
                    have hix_130 := se_lt f E k
                    refine pl_call (a := [.ref m0, .int (nI (se f E k))]) (rest := [.ref m0]) rfl rfl rfl (rd_symOf (n := n) (f := f) (tx := tx) (cN := cN) (A := A) (N := N) (mj := mj) (E := E) (k := (se f E k)) hR1 hl51 hl52 hl53 hF1 hY1 hP1 (hEP) (hN) (hmj) (by omega)) (fun v355 M356 q357 => ?_)
                    obtain ⟨s358, q133_s, rfl, rfl⟩ := q357
                    show pl _ _ _ (136, [(0, .ref m0), (1, .int (nI k)), (2, .int (nI p)), (3, .int (nI (by1 f p)))], [.int (nI s358), .ref m0], M1) _
                    have hsl_133 := q133_s.1
                    have htl_133 := hY1.1.2.2.1
                    refine pl_call (a := [.ref m0, .int (nI s358)]) (rest := []) rfl rfl rfl (rd_isMethod (tx := tx) (cN := cN) (A := A) (s := s358) (l := (tX f n E (se f E k))) hR1 hY1 (q133_s)) (fun v359 M360 q361 => ?_)
                    obtain ⟨rfl, rfl⟩ := q361
                    show pl _ _ _ (139, [(0, .ref m0), (1, .int (nI k)), (2, .int (nI p)), (3, .int (nI (by1 f p)))], [.int (nI (mthN (tX f n E (se f E k))))], M1) _
                    refine ps_if (S1 := (150, [(0, .ref m0), (1, .int (nI k)), (2, .int (nI p)), (3, .int (nI (by1 f p)))], [], M1)) (S2 := (142, [(0, .ref m0), (2, .int (nI p))], [], M1)) rfl rfl rfl (fun c_139 => ?_) (fun c_139 => ?_)
                    · have c_139 : ¬ (nI (mthN (tX f n E (se f E k)))) = 0 := of_decide_eq_true c_139
                      have n_139 : ¬ (mthN (tX f n E (se f E k)) = 0) := fun h9 => c_139 ((eq_nI (p := mthN (tX f n E (se f E k))) (n := 0) (Nat.lt_trans (le1_mth _) (by decide)) (by decide)).mpr h9)
                      refine ps_st (S' := (151, [(0, .ref m0), (1, .int (nI k)), (2, .int (nI p)), (3, .int (nI (by1 f p)))], [.int (nI (by1 f p))], M1)) rfl rfl rfl ?_
                      refine ps_st (S' := (153, [(0, .ref m0), (1, .int (nI k)), (2, .int (nI p)), (3, .int (nI (by1 f p)))], [.int 9, .int (nI (by1 f p))], M1)) rfl rfl rfl ?_
                      refine ps_if2 (S1 := (277, [(0, .ref m0), (1, .int (nI k)), (2, .int (nI p)), (3, .int (nI (by1 f p)))], [], M1)) (S2 := (156, [(0, .ref m0), (1, .int (nI k)), (2, .int (nI p)), (3, .int (nI (by1 f p)))], [], M1)) rfl rfl rfl (fun c_153 => ?_) (fun c_153 => ?_)
                      · exact absurd (of_decide_eq_true c_153) (show ¬ ((nI (by1 f p)) < 9) from fun h9 => absurd ((lt_nI (p := by1 f p) (n := 9) (Nat.lt_trans (by1_lt _ _) (by decide)) (by decide)).mp h9) (by omega))
                      refine ps_st (S' := (157, [(0, .ref m0), (1, .int (nI k)), (2, .int (nI p)), (3, .int (nI (by1 f p)))], [.int (nI (by1 f p))], M1)) rfl rfl rfl ?_
                      refine ps_st (S' := (159, [(0, .ref m0), (1, .int (nI k)), (2, .int (nI p)), (3, .int (nI (by1 f p)))], [.int 11, .int (nI (by1 f p))], M1)) rfl rfl rfl ?_
                      refine ps_if2 (S1 := (277, [(0, .ref m0), (1, .int (nI k)), (2, .int (nI p)), (3, .int (nI (by1 f p)))], [], M1)) (S2 := (162, [(0, .ref m0), (1, .int (nI k)), (2, .int (nI p)), (3, .int (nI (by1 f p)))], [], M1)) rfl rfl rfl (fun c_159 => ?_) (fun c_159 => ?_)
                      rotate_left
                      · exact absurd ((lt_nI (p := 11) (n := by1 f p) (by decide) (Nat.lt_trans (by1_lt _ _) (by decide))).mpr (by omega)) (of_decide_eq_false c_159)
                      refine ps_st (S' := (278, [(0, .ref m0), (1, .int (nI k)), (2, .int (nI p)), (3, .int (nI (by1 f p)))], [.int (nI (by1 f p))], M1)) rfl rfl rfl ?_
                      refine ps_st (S' := (280, [(0, .ref m0), (1, .int (nI k)), (2, .int (nI p)), (3, .int (nI (by1 f p)))], [.int 15, .int (nI (by1 f p))], M1)) rfl rfl rfl ?_
                      refine ps_if2 (S1 := (299, [(0, .ref m0), (1, .int (nI k)), (2, .int (nI p)), (3, .int (nI (by1 f p)))], [], M1)) (S2 := (283, [(0, .ref m0), (1, .int (nI k)), (2, .int (nI p)), (3, .int (nI (by1 f p)))], [], M1)) rfl rfl rfl (fun c_280 => ?_) (fun c_280 => ?_)
                      rotate_left
                      · exact absurd (show ¬ ((nI (by1 f p)) = 15) from fun h9 => absurd ((eq_nI (p := by1 f p) (n := 15) (Nat.lt_trans (by1_lt _ _) (by decide)) (by decide)).mp h9) (by omega)) (of_decide_eq_false c_280)
                      refine ps_st (S' := (300, [(0, .ref m0), (1, .int (nI k)), (2, .int (nI p)), (3, .int (nI (by1 f p)))], [.int (nI (by1 f p))], M1)) rfl rfl rfl ?_
                      refine ps_st (S' := (302, [(0, .ref m0), (1, .int (nI k)), (2, .int (nI p)), (3, .int (nI (by1 f p)))], [.int 16, .int (nI (by1 f p))], M1)) rfl rfl rfl ?_
                      refine ps_if2 (S1 := (330, [(0, .ref m0), (1, .int (nI k)), (2, .int (nI p)), (3, .int (nI (by1 f p)))], [], M1)) (S2 := (305, [(0, .ref m0), (1, .int (nI k)), (2, .int (nI p)), (3, .int (nI (by1 f p)))], [], M1)) rfl rfl rfl (fun c_302 => ?_) (fun c_302 => ?_)
                      rotate_left
                      · exact absurd (show ¬ ((nI (by1 f p)) = 16) from fun h9 => absurd ((eq_nI (p := by1 f p) (n := 16) (Nat.lt_trans (by1_lt _ _) (by decide)) (by decide)).mp h9) (by omega)) (of_decide_eq_false c_302)
                      refine ps_st (S' := (331, [(0, .ref m0), (1, .int (nI k)), (2, .int (nI p)), (3, .int (nI (by1 f p)))], [.int (nI (by1 f p))], M1)) rfl rfl rfl ?_
                      refine ps_st (S' := (333, [(0, .ref m0), (1, .int (nI k)), (2, .int (nI p)), (3, .int (nI (by1 f p)))], [.int 17, .int (nI (by1 f p))], M1)) rfl rfl rfl ?_
                      refine ps_if2 (S1 := (342, [(0, .ref m0), (1, .int (nI k)), (2, .int (nI p)), (3, .int (nI (by1 f p)))], [], M1)) (S2 := (336, [(0, .ref m0), (1, .int (nI k)), (2, .int (nI p)), (3, .int (nI (by1 f p)))], [], M1)) rfl rfl rfl (fun c_333 => ?_) (fun c_333 => ?_)
                      · exact absurd (of_decide_eq_true c_333) (show ¬ ((nI (by1 f p)) = 17) from fun h9 => absurd ((eq_nI (p := by1 f p) (n := 17) (Nat.lt_trans (by1_lt _ _) (by decide)) (by decide)).mp h9) (by omega))
                      refine ps_st (S' := (337, [(0, .ref m0), (1, .int (nI k)), (2, .int (nI p)), (3, .int (nI (by1 f p)))], [.int (nI (by1 f p))], M1)) rfl rfl rfl ?_
                      refine ps_st (S' := (339, [(0, .ref m0), (1, .int (nI k)), (2, .int (nI p)), (3, .int (nI (by1 f p)))], [.int 18, .int (nI (by1 f p))], M1)) rfl rfl rfl ?_
                      refine ps_if2 (S1 := (420, [(0, .ref m0), (1, .int (nI k))], [], M1)) (S2 := (342, [(0, .ref m0), (1, .int (nI k)), (2, .int (nI p)), (3, .int (nI (by1 f p)))], [], M1)) rfl rfl rfl (fun c_339 => ?_) (fun c_339 => ?_)
                      rotate_left
                      · exact absurd (show ¬ ((nI (by1 f p)) = 18) from fun h9 => absurd ((eq_nI (p := by1 f p) (n := 18) (Nat.lt_trans (by1_lt _ _) (by decide)) (by decide)).mp h9) (by omega)) (of_decide_eq_false c_339)
                      refine ps_st (S' := (423, [(1, .int ((nI k) + 1)), (0, .ref m0)], [], M1)) rfl rfl rfl ?_
                      rw [nI_add1 (p := k) (k := 1) (x := 1) rfl (by omega)]
                      show pl _ _ _ (_, [(1, .int (nI (k + 1))), (0, .ref m0)], [], M1) _
                      refine ps_st (S' := (2, [(0, .ref m0), (1, .int (nI (k + 1)))], [], M1)) rfl rfl rfl ?_
                      exact ih (k + 1) M1 I1 R1 hR1 hEI1 hER1 hl51 hl52 hl53 hl9 hF1 hY1 hP1 (by omega) (by
                          have hb : brkN f n E mj k = 0 := by
                            have e12 := nwt_9 (f := f) (n := n) (E := E) (k := k)
                            have e13 := mrf_9 (f := f) (n := n) (E := E) (k := k)
                            unfold brkN
                            first | ((repeat first | rw [if_pos (by omega)] | rw [if_neg (by omega)]) <;> first | rfl | omega) | ((repeat' split) <;> first | rfl | (exfalso; omega) | omega)
                          rw [← hs, chkP_st (k := k) (by omega), if_neg (by omega), if_pos hb])
                    · have c_139 : ¬ (¬ (nI (mthN (tX f n E (se f E k)))) = 0) := of_decide_eq_false c_139
                      have n_139 : mthN (tX f n E (se f E k)) = 0 := (eq_nI (p := mthN (tX f n E (se f E k))) (n := 0) (Nat.lt_trans (le1_mth _) (by decide)) (by decide)).mp (Decidable.not_not.mp c_139)
                      refine ps_st (S' := (143, [(0, .ref m0), (2, .int (nI p))], [.ref m0], M1)) rfl rfl rfl ?_
                      refine ps_st (S' := (145, [(0, .ref m0), (2, .int (nI p))], [.int 11, .ref m0], M1)) rfl rfl rfl ?_
                      refine ps_st (S' := (146, [(0, .ref m0), (2, .int (nI p))], [.int (nI p), .int 11, .ref m0], M1)) rfl rfl rfl ?_
                      refine pl_call (a := [.ref m0, .int 11, .int (nI p)]) (rest := []) rfl rfl rfl (rd_wrong (x1 := 11) (x2 := (nI p)) hR1) (fun v362 M363 q364 => ?_)
                      obtain ⟨I365, R366, rfl, hR367, hI368, hX369, hi370, hi371⟩ := q364
                      have hi372 := (hI368 51 (by decide)).trans hl51
                      have hi373 := (hI368 52 (by decide)).trans hl52
                      have hi374 := (hI368 53 (by decide)).trans hl53
                      have hi375 := (hI368 9 (by decide)).trans hl9
                      have hF_376 := hF1.mono (cIx hI368 (by decide)) (cRx hX369 (by decide))
                      have hY_377 := hY1.mono (cIx hI368 (by decide)) (cRx hX369 (by decide))
                      have hP_378 := hP1.mono (cIx hI368 (by decide)) (cRx hX369 (by decide))
                      have hEI379 := hEI1.tr hI368 (by decide)
                      have hER380 := hER1.tr hX369 (by decide)
                      show pl _ _ _ (149, [(0, .ref m0), (2, .int (nI p))], [.int 0], M363) _
                      exact ps_ret rfl rfl (Or.inr ⟨(11, p), I365, R366, by
                          have hb : brkN f n E mj k = 11 := by
                            have e12 := nwt_9 (f := f) (n := n) (E := E) (k := k)
                            have e13 := mrf_9 (f := f) (n := n) (E := E) (k := k)
                            unfold brkN
                            first | ((repeat first | rw [if_pos (by omega)] | rw [if_neg (by omega)]) <;> first | rfl | omega) | ((repeat' split) <;> first | rfl | (exfalso; omega) | omega)
                          rw [← hs, chkP_st (k := k) (by omega), if_neg (by omega), if_neg (by omega), hb, htp], rfl, hR367, hEI379, hER380, hi370, hi371⟩)
            · have c_56 : ¬ (¬ (nI (by1 f p)) = 7) := of_decide_eq_false c_56
              have n_56 : by1 f p = 7 := (eq_nI (p := by1 f p) (n := 7) (Nat.lt_trans (by1_lt _ _) (by decide)) (by decide)).mp (Decidable.not_not.mp c_56)
              refine ps_st (S' := (60, [(3, .int (nI (by1 f p))), (2, .int (nI p)), (0, .ref m0), (1, .int (nI k))], [.ref m0], M1)) rfl rfl rfl ?_
              refine ps_st (S' := (61, [(3, .int (nI (by1 f p))), (2, .int (nI p)), (0, .ref m0), (1, .int (nI k))], [.ref m0, .ref m0], M1)) rfl rfl rfl ?_
              refine ps_st (S' := (62, [(3, .int (nI (by1 f p))), (2, .int (nI p)), (0, .ref m0), (1, .int (nI k))], [.ref m0, .ref m0, .ref m0], M1)) rfl rfl rfl ?_
              refine ps_st (S' := (63, [(3, .int (nI (by1 f p))), (2, .int (nI p)), (0, .ref m0), (1, .int (nI k))], [.int (nI k), .ref m0, .ref m0, .ref m0], M1)) rfl rfl rfl ?_
              refine ps_st (S' := (64, [(3, .int (nI (by1 f p))), (2, .int (nI p)), (0, .ref m0), (1, .int (nI k))], [.int 1, .int (nI k), .ref m0, .ref m0, .ref m0], M1)) rfl rfl rfl ?_
              refine pl_call (a := [.ref m0, .int (nI k), .int 1]) (rest := [.ref m0, .ref m0]) rfl rfl rfl (rd_idx1 (n := n) (f := f) (tx := tx) (cN := cN) (A := A) (N := N) (mj := mj) (E := E) (k := k) hR1 hl51 hl52 hl53 hF1 hY1 hP1 (hEP) (hN) (hmj) (by omega)) (fun v381 M382 q383 => ?_)
              obtain ⟨rfl, rfl⟩ := q383
              show pl _ _ _ (67, [(3, .int (nI (by1 f p))), (2, .int (nI p)), (0, .ref m0), (1, .int (nI k))], [.int (nI (fi f E k)), .ref m0, .ref m0], M1) _
              have hix_64 := fi_lt f E k
              refine pl_call (a := [.ref m0, .int (nI (fi f E k))]) (rest := [.ref m0]) rfl rfl rfl (rd_symOf (n := n) (f := f) (tx := tx) (cN := cN) (A := A) (N := N) (mj := mj) (E := E) (k := (fi f E k)) hR1 hl51 hl52 hl53 hF1 hY1 hP1 (hEP) (hN) (hmj) (by omega)) (fun v384 M385 q386 => ?_)
              obtain ⟨s387, q67_s, rfl, rfl⟩ := q386
              show pl _ _ _ (70, [(3, .int (nI (by1 f p))), (2, .int (nI p)), (0, .ref m0), (1, .int (nI k))], [.int (nI s387), .ref m0], M1) _
              have hsl_67 := q67_s.1
              have htl_67 := hY1.1.2.2.1
              refine pl_call (a := [.ref m0, .int (nI s387)]) (rest := []) rfl rfl rfl (rd_classText (tx := tx) (cN := cN) (A := A) (s := s387) (l := (tX f n E (fi f E k))) hR1 hY1 (q67_s)) (fun v388 M389 q390 => ?_)
              obtain ⟨rfl, rfl⟩ := q390
              show pl _ _ _ (73, [(3, .int (nI (by1 f p))), (2, .int (nI p)), (0, .ref m0), (1, .int (nI k))], [.int (nI (clsN (tX f n E (fi f E k))))], M1) _
              refine ps_if (S1 := (84, [(0, .ref m0), (1, .int (nI k)), (2, .int (nI p)), (3, .int (nI (by1 f p)))], [], M1)) (S2 := (76, [(3, .int (nI (by1 f p))), (2, .int (nI p)), (0, .ref m0), (1, .int (nI k))], [], M1)) rfl rfl rfl (fun c_73 => ?_) (fun c_73 => ?_)
              · have c_73 : ¬ (nI (clsN (tX f n E (fi f E k)))) = 0 := of_decide_eq_true c_73
                have n_73 : ¬ (clsN (tX f n E (fi f E k)) = 0) := fun h9 => c_73 ((eq_nI (p := clsN (tX f n E (fi f E k))) (n := 0) (Nat.lt_trans (le1_cls _) (by decide)) (by decide)).mpr h9)
                refine ps_st (S' := (85, [(0, .ref m0), (1, .int (nI k)), (2, .int (nI p)), (3, .int (nI (by1 f p)))], [.int (nI (by1 f p))], M1)) rfl rfl rfl ?_
                refine ps_st (S' := (87, [(0, .ref m0), (1, .int (nI k)), (2, .int (nI p)), (3, .int (nI (by1 f p)))], [.int 12, .int (nI (by1 f p))], M1)) rfl rfl rfl ?_
                refine ps_if2 (S1 := (150, [(0, .ref m0), (1, .int (nI k)), (2, .int (nI p)), (3, .int (nI (by1 f p)))], [], M1)) (S2 := (90, [(0, .ref m0), (1, .int (nI k)), (2, .int (nI p)), (3, .int (nI (by1 f p)))], [], M1)) rfl rfl rfl (fun c_87 => ?_) (fun c_87 => ?_)
                rotate_left
                · exact absurd (show ¬ ((nI (by1 f p)) = 12) from fun h9 => absurd ((eq_nI (p := by1 f p) (n := 12) (Nat.lt_trans (by1_lt _ _) (by decide)) (by decide)).mp h9) (by omega)) (of_decide_eq_false c_87)
                refine ps_st (S' := (151, [(0, .ref m0), (1, .int (nI k)), (2, .int (nI p)), (3, .int (nI (by1 f p)))], [.int (nI (by1 f p))], M1)) rfl rfl rfl ?_
                refine ps_st (S' := (153, [(0, .ref m0), (1, .int (nI k)), (2, .int (nI p)), (3, .int (nI (by1 f p)))], [.int 9, .int (nI (by1 f p))], M1)) rfl rfl rfl ?_
                refine ps_if2 (S1 := (277, [(0, .ref m0), (1, .int (nI k)), (2, .int (nI p)), (3, .int (nI (by1 f p)))], [], M1)) (S2 := (156, [(0, .ref m0), (1, .int (nI k)), (2, .int (nI p)), (3, .int (nI (by1 f p)))], [], M1)) rfl rfl rfl (fun c_153 => ?_) (fun c_153 => ?_)
                rotate_left
                · exact absurd ((lt_nI (p := by1 f p) (n := 9) (Nat.lt_trans (by1_lt _ _) (by decide)) (by decide)).mpr (by omega)) (of_decide_eq_false c_153)
                refine ps_st (S' := (278, [(0, .ref m0), (1, .int (nI k)), (2, .int (nI p)), (3, .int (nI (by1 f p)))], [.int (nI (by1 f p))], M1)) rfl rfl rfl ?_
                refine ps_st (S' := (280, [(0, .ref m0), (1, .int (nI k)), (2, .int (nI p)), (3, .int (nI (by1 f p)))], [.int 15, .int (nI (by1 f p))], M1)) rfl rfl rfl ?_
                refine ps_if2 (S1 := (299, [(0, .ref m0), (1, .int (nI k)), (2, .int (nI p)), (3, .int (nI (by1 f p)))], [], M1)) (S2 := (283, [(0, .ref m0), (1, .int (nI k)), (2, .int (nI p)), (3, .int (nI (by1 f p)))], [], M1)) rfl rfl rfl (fun c_280 => ?_) (fun c_280 => ?_)
                rotate_left
                · exact absurd (show ¬ ((nI (by1 f p)) = 15) from fun h9 => absurd ((eq_nI (p := by1 f p) (n := 15) (Nat.lt_trans (by1_lt _ _) (by decide)) (by decide)).mp h9) (by omega)) (of_decide_eq_false c_280)
                refine ps_st (S' := (300, [(0, .ref m0), (1, .int (nI k)), (2, .int (nI p)), (3, .int (nI (by1 f p)))], [.int (nI (by1 f p))], M1)) rfl rfl rfl ?_
                refine ps_st (S' := (302, [(0, .ref m0), (1, .int (nI k)), (2, .int (nI p)), (3, .int (nI (by1 f p)))], [.int 16, .int (nI (by1 f p))], M1)) rfl rfl rfl ?_
                refine ps_if2 (S1 := (330, [(0, .ref m0), (1, .int (nI k)), (2, .int (nI p)), (3, .int (nI (by1 f p)))], [], M1)) (S2 := (305, [(0, .ref m0), (1, .int (nI k)), (2, .int (nI p)), (3, .int (nI (by1 f p)))], [], M1)) rfl rfl rfl (fun c_302 => ?_) (fun c_302 => ?_)
                rotate_left
                · exact absurd (show ¬ ((nI (by1 f p)) = 16) from fun h9 => absurd ((eq_nI (p := by1 f p) (n := 16) (Nat.lt_trans (by1_lt _ _) (by decide)) (by decide)).mp h9) (by omega)) (of_decide_eq_false c_302)
                refine ps_st (S' := (331, [(0, .ref m0), (1, .int (nI k)), (2, .int (nI p)), (3, .int (nI (by1 f p)))], [.int (nI (by1 f p))], M1)) rfl rfl rfl ?_
                refine ps_st (S' := (333, [(0, .ref m0), (1, .int (nI k)), (2, .int (nI p)), (3, .int (nI (by1 f p)))], [.int 17, .int (nI (by1 f p))], M1)) rfl rfl rfl ?_
                refine ps_if2 (S1 := (342, [(0, .ref m0), (1, .int (nI k)), (2, .int (nI p)), (3, .int (nI (by1 f p)))], [], M1)) (S2 := (336, [(0, .ref m0), (1, .int (nI k)), (2, .int (nI p)), (3, .int (nI (by1 f p)))], [], M1)) rfl rfl rfl (fun c_333 => ?_) (fun c_333 => ?_)
                · exact absurd (of_decide_eq_true c_333) (show ¬ ((nI (by1 f p)) = 17) from fun h9 => absurd ((eq_nI (p := by1 f p) (n := 17) (Nat.lt_trans (by1_lt _ _) (by decide)) (by decide)).mp h9) (by omega))
                refine ps_st (S' := (337, [(0, .ref m0), (1, .int (nI k)), (2, .int (nI p)), (3, .int (nI (by1 f p)))], [.int (nI (by1 f p))], M1)) rfl rfl rfl ?_
                refine ps_st (S' := (339, [(0, .ref m0), (1, .int (nI k)), (2, .int (nI p)), (3, .int (nI (by1 f p)))], [.int 18, .int (nI (by1 f p))], M1)) rfl rfl rfl ?_
                refine ps_if2 (S1 := (420, [(0, .ref m0), (1, .int (nI k))], [], M1)) (S2 := (342, [(0, .ref m0), (1, .int (nI k)), (2, .int (nI p)), (3, .int (nI (by1 f p)))], [], M1)) rfl rfl rfl (fun c_339 => ?_) (fun c_339 => ?_)
                rotate_left
                · exact absurd (show ¬ ((nI (by1 f p)) = 18) from fun h9 => absurd ((eq_nI (p := by1 f p) (n := 18) (Nat.lt_trans (by1_lt _ _) (by decide)) (by decide)).mp h9) (by omega)) (of_decide_eq_false c_339)
                refine ps_st (S' := (423, [(1, .int ((nI k) + 1)), (0, .ref m0)], [], M1)) rfl rfl rfl ?_
                rw [nI_add1 (p := k) (k := 1) (x := 1) rfl (by omega)]
                show pl _ _ _ (_, [(1, .int (nI (k + 1))), (0, .ref m0)], [], M1) _
                refine ps_st (S' := (2, [(0, .ref m0), (1, .int (nI (k + 1)))], [], M1)) rfl rfl rfl ?_
                exact ih (k + 1) M1 I1 R1 hR1 hEI1 hER1 hl51 hl52 hl53 hl9 hF1 hY1 hP1 (by omega) (by
                    have hb : brkN f n E mj k = 0 := by
                      have e12 := nwt_9 (f := f) (n := n) (E := E) (k := k)
                      have e13 := mrf_9 (f := f) (n := n) (E := E) (k := k)
                      unfold brkN
                      first | ((repeat first | rw [if_pos (by omega)] | rw [if_neg (by omega)]) <;> first | rfl | omega) | ((repeat' split) <;> first | rfl | (exfalso; omega) | omega)
                    rw [← hs, chkP_st (k := k) (by omega), if_neg (by omega), if_pos hb])
              · have c_73 : ¬ (¬ (nI (clsN (tX f n E (fi f E k)))) = 0) := of_decide_eq_false c_73
                have n_73 : clsN (tX f n E (fi f E k)) = 0 := (eq_nI (p := clsN (tX f n E (fi f E k))) (n := 0) (Nat.lt_trans (le1_cls _) (by decide)) (by decide)).mp (Decidable.not_not.mp c_73)
                refine ps_st (S' := (77, [(3, .int (nI (by1 f p))), (2, .int (nI p)), (0, .ref m0), (1, .int (nI k))], [.ref m0], M1)) rfl rfl rfl ?_
                refine ps_st (S' := (79, [(3, .int (nI (by1 f p))), (2, .int (nI p)), (0, .ref m0), (1, .int (nI k))], [.int 10, .ref m0], M1)) rfl rfl rfl ?_
                refine ps_st (S' := (80, [(3, .int (nI (by1 f p))), (2, .int (nI p)), (0, .ref m0), (1, .int (nI k))], [.int (nI p), .int 10, .ref m0], M1)) rfl rfl rfl ?_
                refine pl_call (a := [.ref m0, .int 10, .int (nI p)]) (rest := []) rfl rfl rfl (rd_wrong (x1 := 10) (x2 := (nI p)) hR1) (fun v391 M392 q393 => ?_)
                obtain ⟨I394, R395, rfl, hR396, hI397, hX398, hi399, hi400⟩ := q393
                have hi401 := (hI397 51 (by decide)).trans hl51
                have hi402 := (hI397 52 (by decide)).trans hl52
                have hi403 := (hI397 53 (by decide)).trans hl53
                have hi404 := (hI397 9 (by decide)).trans hl9
                have hF_405 := hF1.mono (cIx hI397 (by decide)) (cRx hX398 (by decide))
                have hY_406 := hY1.mono (cIx hI397 (by decide)) (cRx hX398 (by decide))
                have hP_407 := hP1.mono (cIx hI397 (by decide)) (cRx hX398 (by decide))
                have hEI408 := hEI1.tr hI397 (by decide)
                have hER409 := hER1.tr hX398 (by decide)
                show pl _ _ _ (83, [(3, .int (nI (by1 f p))), (2, .int (nI p)), (0, .ref m0), (1, .int (nI k))], [.int 0], M392) _
                exact ps_ret rfl rfl (Or.inr ⟨(10, p), I394, R395, by
                    have hb : brkN f n E mj k = 10 := by
                      have e12 := nwt_9 (f := f) (n := n) (E := E) (k := k)
                      have e13 := mrf_9 (f := f) (n := n) (E := E) (k := k)
                      unfold brkN
                      first | ((repeat first | rw [if_pos (by omega)] | rw [if_neg (by omega)]) <;> first | rfl | omega) | ((repeat' split) <;> first | rfl | (exfalso; omega) | omega)
                    rw [← hs, chkP_st (k := k) (by omega), if_neg (by omega), if_neg (by omega), hb, htp], rfl, hR396, hEI408, hER409, hi399, hi400⟩)
          · have c_42 : ¬ (¬ (nI (lnkN f E k)) = 0) := of_decide_eq_false c_42
            have n_42 : lnkN f E k = 0 := (eq_nI (p := lnkN f E k) (n := 0) (Nat.lt_trans (le1_lnk _ _ _) (by decide)) (by decide)).mp (Decidable.not_not.mp c_42)
            refine ps_st (S' := (46, [(3, .int (nI (by1 f p))), (2, .int (nI p)), (0, .ref m0), (1, .int (nI k))], [.ref m0], M1)) rfl rfl rfl ?_
            refine ps_st (S' := (48, [(3, .int (nI (by1 f p))), (2, .int (nI p)), (0, .ref m0), (1, .int (nI k))], [.int 9, .ref m0], M1)) rfl rfl rfl ?_
            refine ps_st (S' := (49, [(3, .int (nI (by1 f p))), (2, .int (nI p)), (0, .ref m0), (1, .int (nI k))], [.int (nI p), .int 9, .ref m0], M1)) rfl rfl rfl ?_
            refine pl_call (a := [.ref m0, .int 9, .int (nI p)]) (rest := []) rfl rfl rfl (rd_wrong (x1 := 9) (x2 := (nI p)) hR1) (fun v410 M411 q412 => ?_)
            obtain ⟨I413, R414, rfl, hR415, hI416, hX417, hi418, hi419⟩ := q412
            have hi420 := (hI416 51 (by decide)).trans hl51
            have hi421 := (hI416 52 (by decide)).trans hl52
            have hi422 := (hI416 53 (by decide)).trans hl53
            have hi423 := (hI416 9 (by decide)).trans hl9
            have hF_424 := hF1.mono (cIx hI416 (by decide)) (cRx hX417 (by decide))
            have hY_425 := hY1.mono (cIx hI416 (by decide)) (cRx hX417 (by decide))
            have hP_426 := hP1.mono (cIx hI416 (by decide)) (cRx hX417 (by decide))
            have hEI427 := hEI1.tr hI416 (by decide)
            have hER428 := hER1.tr hX417 (by decide)
            show pl _ _ _ (52, [(3, .int (nI (by1 f p))), (2, .int (nI p)), (0, .ref m0), (1, .int (nI k))], [.int 0], M411) _
            exact ps_ret rfl rfl (Or.inr ⟨(9, p), I413, R414, by
                rw [← hs, chkP_st (k := k) (by omega), if_pos (by omega), htp], rfl, hR415, hEI427, hER428, hi418, hi419⟩)
        · have c_23 : ¬ (0 ≤ (plI (lk E k))) := of_decide_eq_false c_23
          have hk9 := plI_none (fun p hp => by have := (hEP k p hp).1; omega) (by assumption)
          have hsk := chk_skip (f := f) (n := n) (E := E) (mj := mj) (tg_none (f := f) hk9)
          refine ps_st (S' := (420, [(0, .ref m0), (1, .int (nI k))], [], M1)) rfl rfl rfl ?_
          refine ps_st (S' := (423, [(1, .int ((nI k) + 1)), (0, .ref m0)], [], M1)) rfl rfl rfl ?_
          rw [nI_add1 (p := k) (k := 1) (x := 1) rfl (by omega)]
          show pl _ _ _ (_, [(1, .int (nI (k + 1))), (0, .ref m0)], [], M1) _
          refine ps_st (S' := (2, [(0, .ref m0), (1, .int (nI (k + 1)))], [], M1)) rfl rfl rfl ?_
          exact ih (k + 1) M1 I1 R1 hR1 hEI1 hER1 hl51 hl52 hl53 hl9 hF1 hY1 hP1 (by omega) (by
              rw [← hs, chkP_st (k := k) (by omega), if_neg (by omega), if_pos (by omega)])
  refine ps_st (S' := (1, [(0, .ref m0)], [.int 1], M)) rfl rfl rfl ?_
  refine ps_st (S' := (2, [(0, .ref m0), (1, .int 1)], [], M)) rfl rfl rfl ?_
  exact (LL kf) (1) M I R hR hEI hER hi51 hi52 hi53 hi9 hF hY hP (by omega) (rfl)
end
section
/-! flags (my own text) -/
section FLA
theorem an_pow (x i : Nat) : aN x (2 ^ i) = 0 ∨ aN x (2 ^ i) = 2 ^ i := by
  unfold aN
  cases h : x.testBit i with
  | false =>
    left
    apply Nat.eq_of_testBit_eq
    intro j
    rw [Nat.testBit_and, Nat.testBit_two_pow]
    by_cases e : i = j
    · subst e
      simp [h]
    · simp [e]
  | true =>
    right
    apply Nat.eq_of_testBit_eq
    intro j
    rw [Nat.testBit_and, Nat.testBit_two_pow]
    by_cases e : i = j
    · subst e
      simp [h]
    · simp [e]
theorem an_or (x a b : Nat) : aN x (a ||| b) = aN x a ||| aN x b := Nat.and_or_distrib_left x a b
theorem an_an (x a b : Nat) : aN (aN x a) b = aN x (a &&& b) := Nat.and_assoc x a b
theorem hall_1040 (x : Nat) : hallN x 1040 = 0 ↔ ¬ (¬ aN x 16 = 0 ∧ ¬ aN x 1024 = 0) := by
  have h1 : aN x 16 = 0 ∨ aN x 16 = 16 := an_pow x 4
  have h2 : aN x 1024 = 0 ∨ aN x 1024 = 1024 := an_pow x 10
  have h3 : aN x 1040 = aN x 16 ||| aN x 1024 := an_or x 16 1024
  unfold hallN
  rw [h3]
  rcases h1 with h1 | h1 <;> rcases h2 with h2 | h2 <;> rw [h1, h2] <;> decide
theorem hall_80 (x : Nat) : hallN x 80 = 0 ↔ ¬ (¬ aN x 16 = 0 ∧ ¬ aN x 64 = 0) := by
  have h1 : aN x 16 = 0 ∨ aN x 16 = 16 := an_pow x 4
  have h2 : aN x 64 = 0 ∨ aN x 64 = 64 := an_pow x 6
  have h3 : aN x 80 = aN x 16 ||| aN x 64 := an_or x 16 64
  unfold hallN
  rw [h3]
  rcases h1 with h1 | h1 <;> rcases h2 with h2 | h2 <;> rw [h1, h2] <;> decide
theorem hall_1025 (x : Nat) : hallN x 1025 = 0 ↔ ¬ (¬ aN x 1 = 0 ∧ ¬ aN x 1024 = 0) := by
  have h1 : aN x 1 = 0 ∨ aN x 1 = 1 := an_pow x 0
  have h2 : aN x 1024 = 0 ∨ aN x 1024 = 1024 := an_pow x 10
  have h3 : aN x 1025 = aN x 1 ||| aN x 1024 := an_or x 1 1024
  unfold hallN
  rw [h3]
  rcases h1 with h1 | h1 <;> rcases h2 with h2 | h2 <;> rw [h1, h2] <;> decide
theorem one_7 (x : Nat) : oneN x = 0 ↔ (¬ aN x 1 = 0 ∧ ¬ aN x 2 = 0) ∨ (¬ aN x 1 = 0 ∧ ¬ aN x 4 = 0) ∨ (¬ aN x 2 = 0 ∧ ¬ aN x 4 = 0) := by
  have h1 : aN x 1 = 0 ∨ aN x 1 = 1 := an_pow x 0
  have h2 : aN x 2 = 0 ∨ aN x 2 = 2 := an_pow x 1
  have h4 : aN x 4 = 0 ∨ aN x 4 = 4 := an_pow x 2
  have h3 : aN x 7 = (aN x 1 ||| aN x 2) ||| aN x 4 := by
    rw [← an_or, ← an_or]
    rfl
  unfold oneN
  rw [h3]
  rcases h1 with h1 | h1 <;> rcases h2 with h2 | h2 <;> rcases h4 with h4 | h4 <;> rw [h1, h2, h4] <;> decide
theorem has_0 (x w : Nat) : hasN x w = 0 ↔ aN x w = 0 := by
  unfold hasN
  split <;> omega
theorem ffl_25 (x : Nat) (h : aN x 16607 = 25) : ¬ oneN x = 0 ∧ hallN x 80 = 0 := by
  have e1 : aN (aN x 16607) 1 = aN x 1 := an_an x 16607 1
  have e2 : aN (aN x 16607) 2 = aN x 2 := an_an x 16607 2
  have e4 : aN (aN x 16607) 4 = aN x 4 := an_an x 16607 4
  have e6 : aN (aN x 16607) 64 = aN x 64 := an_an x 16607 64
  rw [h] at e1 e2 e4 e6
  rw [one_7, hall_80, ← e1, ← e2, ← e4, ← e6]
  exact ⟨by decide, fun h9 => h9.2 (by decide)⟩
def sevN (x : Nat) : Nat := if oneN x = 0 then 1 else 0
theorem le1_sev (x : Nat) : sevN x < 2 := by unfold sevN; split <;> decide
theorem sev_0 (x : Nat) : sevN x = 0 ↔ ¬ oneN x = 0 := by
  unfold sevN
  split <;> omega
theorem cfl_0 (x : Nat) : cflN x = 0 ↔ (¬ aN x 32768 = 0 ∨ (¬ aN x 512 = 0 ∧ (aN x 1024 = 0 ∨ ¬ aN x 16432 = 0)) ∨ (aN x 512 = 0 ∧ (¬ aN x 8192 = 0 ∨ (¬ aN x 16 = 0 ∧ ¬ aN x 1024 = 0)))) := by
  have h := hall_1040 x
  unfold cflN
  repeat' split
  all_goals omega
/-- whether a method's flags fit, its name being neither <clinit> -/
def fitN (mj c x i : Nat) : Nat := if ¬ i = 0 then (if ¬ oneN x = 0 ∧ hasN x 1400 = 0 then 1 else 0) else
  if ¬ hasN x 1024 = 0 ∧ absN mj x = 0 then 0 else if ¬ hasN c 512 = 0 then imhN mj x else oneN x
theorem abs_0 (mj x : Nat) : absN mj x = 0 ↔ (¬ aN x 314 = 0 ∨ (46 ≤ mj ∧ mj ≤ 60 ∧ ¬ aN x 2048 = 0)) := by
  have h1 := has_0 x 314
  have h2 := has_0 x 2048
  unfold absN
  repeat' split
  all_goals omega
theorem imh_0 (mj x : Nat) : imhN mj x = 0 ↔ (¬ aN x 308 = 0 ∨ (mj < 52 ∧ (aN x 1 = 0 ∨ aN x 1024 = 0 ∨ ¬ aN x 8 = 0)) ∨ (52 ≤ mj ∧ (aN x 1 = 0 ↔ aN x 2 = 0))) := by
  have h1 := has_0 x 308
  have h2 := has_0 x 8
  have h3 := has_0 x 1
  have h4 := has_0 x 2
  have b3 := le1_has x 1
  have b4 := le1_has x 2
  have h5 := hall_1025 x
  unfold imhN
  repeat' split
  all_goals omega
end FLA

theorem le1_fit (mj c x i : Nat) : fitN mj c x i < 2 := by
  have h1 := le1_imh mj x
  have h2 := le1_one x
  unfold fitN
  repeat' split
  all_goals omega
section FLB
variable {f : Nat → Int32} {n : Nat} {E : List (Nat × Nat)} {k m : Nat}
/-- head and interfaces -/
def ccS (f : Nat → Int32) (n : Nat) (E : List (Nat × Nat)) (h : Nat) : Option (Nat × Nat) := match hdS f n E h with
  | some e => some e
  | none => ifS f n E (h + 8) (by2 f (h + 6)) 0
theorem pln_in (h : ¬ plnN f n E k = 0) : tg f E k = 7 ∧ ¬ (tX f n E (fi f E k)).getD 0 0 = 91 := by
  unfold plnN at h
  split at h
  · assumption
  · exact absurd rfl h
theorem sm_sym {tx : List (List Nat)} {cN : Nat} {A : Nat → Nat} {I : rI} {R : rR} {s t : Nat} (h : SYT tx cN A I R) (hs : s < tx.length ∧ tx.getD s [] = tX f n E k) (ht : t < tx.length ∧ tx.getD t [] = tX f n E m) (hk : tg f E k = 1) (hm : tg f E m = 1) : s = t ↔ ¬ smN f n E k m = 0 := by
  rw [sym_eq h hs ht]
  unfold eqN smN
  by_cases e : tX f n E k = tX f n E m
  · rw [if_pos e, if_pos (Or.inr ⟨hk, hm, e⟩)]
  · rw [if_neg e, if_neg]
    rintro (h9 | h9)
    · exact e (by rw [h9])
    · exact e h9.2.2
end FLB
set_option maxHeartbeats 1000000 in
theorem rd_several {g : xe_G} {M : mi_H} {x : Nat}    : pt (mT g) 242 [.int (nI x), .int 1, .int 2, .int 4] M (fun v M' => (v = some (.int (nI (sevN x))) ∧ M = M')) := by
  refine pt_in (b := mb_242 g) rfl (fun kf => ?_)
  show pl (mT g) kf (mb_242 g).2 (0, [(0, .int (nI x)), (1, .int 1), (2, .int 2), (3, .int 4)], [], M) _
  refine ps_st (S' := (1, [(0, .int (nI x)), (1, .int 1), (2, .int 2), (3, .int 4)], [.int (nI x)], M)) rfl rfl rfl ?_
  refine ps_st (S' := (2, [(0, .int (nI x)), (1, .int 1), (2, .int 2), (3, .int 4)], [.int 1, .int (nI x)], M)) rfl rfl rfl ?_
  refine ps_st (S' := (3, [(0, .int (nI x)), (1, .int 1), (2, .int 2), (3, .int 4)], [.int ((nI x) &&& 1)], M)) rfl rfl rfl ?_
  rw [nI_an (p := x) (k := 1) (x := 1) rfl]
  show pl _ _ _ (_, [(0, .int (nI x)), (1, .int 1), (2, .int 2), (3, .int 4)], [.int (nI (aN x 1))], M) _
  refine ps_if (S1 := (10, [(0, .int (nI x)), (1, .int 1), (2, .int 2), (3, .int 4)], [], M)) (S2 := (6, [(0, .int (nI x)), (1, .int 1), (2, .int 2), (3, .int 4)], [], M)) rfl rfl rfl (fun c_3 => ?_) (fun c_3 => ?_)
  · have c_3 : (nI (aN x 1)) = 0 := of_decide_eq_true c_3
    have n_3 : aN x 1 = 0 := (eq_nI (p := aN x 1) (n := 0) (Nat.lt_of_le_of_lt (an_le _ _) (by decide)) (by decide)).mp c_3
    refine ps_st (S' := (11, [(0, .int (nI x)), (2, .int 2), (3, .int 4)], [.int 0], M)) rfl rfl rfl ?_
    refine ps_st (S' := (12, [(0, .int (nI x)), (2, .int 2), (3, .int 4)], [.int (nI x), .int 0], M)) rfl rfl rfl ?_
    refine ps_st (S' := (13, [(0, .int (nI x)), (2, .int 2), (3, .int 4)], [.int 2, .int (nI x), .int 0], M)) rfl rfl rfl ?_
    refine ps_st (S' := (14, [(0, .int (nI x)), (2, .int 2), (3, .int 4)], [.int ((nI x) &&& 2), .int 0], M)) rfl rfl rfl ?_
    rw [nI_an (p := x) (k := 2) (x := 2) rfl]
    show pl _ _ _ (_, [(0, .int (nI x)), (2, .int 2), (3, .int 4)], [.int (nI (aN x 2)), .int 0], M) _
    refine ps_if (S1 := (21, [(0, .int (nI x)), (2, .int 2), (3, .int 4)], [.int 0], M)) (S2 := (17, [(0, .int (nI x)), (2, .int 2), (3, .int 4)], [.int 0], M)) rfl rfl rfl (fun c_14 => ?_) (fun c_14 => ?_)
    · have c_14 : (nI (aN x 2)) = 0 := of_decide_eq_true c_14
      have n_14 : aN x 2 = 0 := (eq_nI (p := aN x 2) (n := 0) (Nat.lt_of_le_of_lt (an_le _ _) (by decide)) (by decide)).mp c_14
      refine ps_st (S' := (22, [(0, .int (nI x)), (3, .int 4)], [.int 0, .int 0], M)) rfl rfl rfl ?_
      refine ps_st (S' := (23, [(0, .int (nI x)), (3, .int 4)], [.int (0 + 0)], M)) rfl rfl rfl ?_
      refine ps_st (S' := (24, [(0, .int (nI x)), (3, .int 4)], [.int (nI x), .int (0 + 0)], M)) rfl rfl rfl ?_
      refine ps_st (S' := (25, [(0, .int (nI x)), (3, .int 4)], [.int 4, .int (nI x), .int (0 + 0)], M)) rfl rfl rfl ?_
      refine ps_st (S' := (26, [(0, .int (nI x)), (3, .int 4)], [.int ((nI x) &&& 4), .int (0 + 0)], M)) rfl rfl rfl ?_
      rw [nI_an (p := x) (k := 4) (x := 4) rfl]
      show pl _ _ _ (_, [(0, .int (nI x)), (3, .int 4)], [.int (nI (aN x 4)), .int (0 + 0)], M) _
      refine ps_if (S1 := (33, [(0, .int (nI x)), (3, .int 4)], [.int (0 + 0)], M)) (S2 := (29, [(0, .int (nI x)), (3, .int 4)], [.int (0 + 0)], M)) rfl rfl rfl (fun c_26 => ?_) (fun c_26 => ?_)
      · have c_26 : (nI (aN x 4)) = 0 := of_decide_eq_true c_26
        have n_26 : aN x 4 = 0 := (eq_nI (p := aN x 4) (n := 0) (Nat.lt_of_le_of_lt (an_le _ _) (by decide)) (by decide)).mp c_26
        refine ps_st (S' := (34, [], [.int 0, .int (0 + 0)], M)) rfl rfl rfl ?_
        refine ps_st (S' := (35, [], [.int ((0 + 0) + 0)], M)) rfl rfl rfl ?_
        refine ps_st (S' := (36, [], [.int 1, .int ((0 + 0) + 0)], M)) rfl rfl rfl ?_
        refine ps_if2 (S1 := (43, [], [], M)) (S2 := (39, [], [], M)) rfl rfl rfl (fun c_36 => ?_) (fun c_36 => ?_)
        · have c_36 : ((0 + 0) + 0) ≤ 1 := of_decide_eq_true c_36
          refine ps_st (S' := (44, [], [.int 0], M)) rfl rfl rfl ?_
          exact ps_ret rfl rfl (⟨congrArg (fun x => some (Value.int (nI x))) (show 0 = sevN x from by
              have e1 := one_7 x
              have e2 := sev_0 x
              have e3 := le1_sev x
              omega), rfl⟩)
        · have c_36 : ¬ (((0 + 0) + 0) ≤ 1) := of_decide_eq_false c_36
          refine ps_st (S' := (40, [], [.int 1], M)) rfl rfl rfl ?_
          refine ps_st (S' := (44, [], [.int 1], M)) rfl rfl rfl ?_
          exact ps_ret rfl rfl (⟨congrArg (fun x => some (Value.int (nI x))) (show 1 = sevN x from by
              have e1 := one_7 x
              have e2 := sev_0 x
              have e3 := le1_sev x
              omega), rfl⟩)
      · have c_26 : ¬ ((nI (aN x 4)) = 0) := of_decide_eq_false c_26
        have n_26 : ¬ (aN x 4 = 0) := fun h9 => c_26 ((eq_nI (p := aN x 4) (n := 0) (Nat.lt_of_le_of_lt (an_le _ _) (by decide)) (by decide)).mpr h9)
        refine ps_st (S' := (30, [(0, .int (nI x)), (3, .int 4)], [.int 1, .int (0 + 0)], M)) rfl rfl rfl ?_
        refine ps_st (S' := (34, [], [.int 1, .int (0 + 0)], M)) rfl rfl rfl ?_
        refine ps_st (S' := (35, [], [.int ((0 + 0) + 1)], M)) rfl rfl rfl ?_
        refine ps_st (S' := (36, [], [.int 1, .int ((0 + 0) + 1)], M)) rfl rfl rfl ?_
        refine ps_if2 (S1 := (43, [], [], M)) (S2 := (39, [], [], M)) rfl rfl rfl (fun c_36 => ?_) (fun c_36 => ?_)
        · have c_36 : ((0 + 0) + 1) ≤ 1 := of_decide_eq_true c_36
          refine ps_st (S' := (44, [], [.int 0], M)) rfl rfl rfl ?_
          exact ps_ret rfl rfl (⟨congrArg (fun x => some (Value.int (nI x))) (show 0 = sevN x from by
              have e1 := one_7 x
              have e2 := sev_0 x
              have e3 := le1_sev x
              omega), rfl⟩)
        · have c_36 : ¬ (((0 + 0) + 1) ≤ 1) := of_decide_eq_false c_36
          refine ps_st (S' := (40, [], [.int 1], M)) rfl rfl rfl ?_
          refine ps_st (S' := (44, [], [.int 1], M)) rfl rfl rfl ?_
          exact ps_ret rfl rfl (⟨congrArg (fun x => some (Value.int (nI x))) (show 1 = sevN x from by
              have e1 := one_7 x
              have e2 := sev_0 x
              have e3 := le1_sev x
              omega), rfl⟩)
    · have c_14 : ¬ ((nI (aN x 2)) = 0) := of_decide_eq_false c_14
      have n_14 : ¬ (aN x 2 = 0) := fun h9 => c_14 ((eq_nI (p := aN x 2) (n := 0) (Nat.lt_of_le_of_lt (an_le _ _) (by decide)) (by decide)).mpr h9)
      refine ps_st (S' := (18, [(0, .int (nI x)), (2, .int 2), (3, .int 4)], [.int 1, .int 0], M)) rfl rfl rfl ?_
      refine ps_st (S' := (22, [(0, .int (nI x)), (3, .int 4)], [.int 1, .int 0], M)) rfl rfl rfl ?_
      refine ps_st (S' := (23, [(0, .int (nI x)), (3, .int 4)], [.int (0 + 1)], M)) rfl rfl rfl ?_
      refine ps_st (S' := (24, [(0, .int (nI x)), (3, .int 4)], [.int (nI x), .int (0 + 1)], M)) rfl rfl rfl ?_
      refine ps_st (S' := (25, [(0, .int (nI x)), (3, .int 4)], [.int 4, .int (nI x), .int (0 + 1)], M)) rfl rfl rfl ?_
      refine ps_st (S' := (26, [(0, .int (nI x)), (3, .int 4)], [.int ((nI x) &&& 4), .int (0 + 1)], M)) rfl rfl rfl ?_
      rw [nI_an (p := x) (k := 4) (x := 4) rfl]
      show pl _ _ _ (_, [(0, .int (nI x)), (3, .int 4)], [.int (nI (aN x 4)), .int (0 + 1)], M) _
      refine ps_if (S1 := (33, [(0, .int (nI x)), (3, .int 4)], [.int (0 + 1)], M)) (S2 := (29, [(0, .int (nI x)), (3, .int 4)], [.int (0 + 1)], M)) rfl rfl rfl (fun c_26 => ?_) (fun c_26 => ?_)
      · have c_26 : (nI (aN x 4)) = 0 := of_decide_eq_true c_26
        have n_26 : aN x 4 = 0 := (eq_nI (p := aN x 4) (n := 0) (Nat.lt_of_le_of_lt (an_le _ _) (by decide)) (by decide)).mp c_26
        refine ps_st (S' := (34, [], [.int 0, .int (0 + 1)], M)) rfl rfl rfl ?_
        refine ps_st (S' := (35, [], [.int ((0 + 1) + 0)], M)) rfl rfl rfl ?_
        refine ps_st (S' := (36, [], [.int 1, .int ((0 + 1) + 0)], M)) rfl rfl rfl ?_
        refine ps_if2 (S1 := (43, [], [], M)) (S2 := (39, [], [], M)) rfl rfl rfl (fun c_36 => ?_) (fun c_36 => ?_)
        · have c_36 : ((0 + 1) + 0) ≤ 1 := of_decide_eq_true c_36
          refine ps_st (S' := (44, [], [.int 0], M)) rfl rfl rfl ?_
          exact ps_ret rfl rfl (⟨congrArg (fun x => some (Value.int (nI x))) (show 0 = sevN x from by
              have e1 := one_7 x
              have e2 := sev_0 x
              have e3 := le1_sev x
              omega), rfl⟩)
        · have c_36 : ¬ (((0 + 1) + 0) ≤ 1) := of_decide_eq_false c_36
          refine ps_st (S' := (40, [], [.int 1], M)) rfl rfl rfl ?_
          refine ps_st (S' := (44, [], [.int 1], M)) rfl rfl rfl ?_
          exact ps_ret rfl rfl (⟨congrArg (fun x => some (Value.int (nI x))) (show 1 = sevN x from by
              have e1 := one_7 x
              have e2 := sev_0 x
              have e3 := le1_sev x
              omega), rfl⟩)
      · have c_26 : ¬ ((nI (aN x 4)) = 0) := of_decide_eq_false c_26
        have n_26 : ¬ (aN x 4 = 0) := fun h9 => c_26 ((eq_nI (p := aN x 4) (n := 0) (Nat.lt_of_le_of_lt (an_le _ _) (by decide)) (by decide)).mpr h9)
        refine ps_st (S' := (30, [(0, .int (nI x)), (3, .int 4)], [.int 1, .int (0 + 1)], M)) rfl rfl rfl ?_
        refine ps_st (S' := (34, [], [.int 1, .int (0 + 1)], M)) rfl rfl rfl ?_
        refine ps_st (S' := (35, [], [.int ((0 + 1) + 1)], M)) rfl rfl rfl ?_
        refine ps_st (S' := (36, [], [.int 1, .int ((0 + 1) + 1)], M)) rfl rfl rfl ?_
        refine ps_if2 (S1 := (43, [], [], M)) (S2 := (39, [], [], M)) rfl rfl rfl (fun c_36 => ?_) (fun c_36 => ?_)
        · have c_36 : ((0 + 1) + 1) ≤ 1 := of_decide_eq_true c_36
          refine ps_st (S' := (44, [], [.int 0], M)) rfl rfl rfl ?_
          exact ps_ret rfl rfl (⟨congrArg (fun x => some (Value.int (nI x))) (show 0 = sevN x from by
              have e1 := one_7 x
              have e2 := sev_0 x
              have e3 := le1_sev x
              omega), rfl⟩)
        · have c_36 : ¬ (((0 + 1) + 1) ≤ 1) := of_decide_eq_false c_36
          refine ps_st (S' := (40, [], [.int 1], M)) rfl rfl rfl ?_
          refine ps_st (S' := (44, [], [.int 1], M)) rfl rfl rfl ?_
          exact ps_ret rfl rfl (⟨congrArg (fun x => some (Value.int (nI x))) (show 1 = sevN x from by
              have e1 := one_7 x
              have e2 := sev_0 x
              have e3 := le1_sev x
              omega), rfl⟩)
  · have c_3 : ¬ ((nI (aN x 1)) = 0) := of_decide_eq_false c_3
    have n_3 : ¬ (aN x 1 = 0) := fun h9 => c_3 ((eq_nI (p := aN x 1) (n := 0) (Nat.lt_of_le_of_lt (an_le _ _) (by decide)) (by decide)).mpr h9)
    refine ps_st (S' := (7, [(0, .int (nI x)), (1, .int 1), (2, .int 2), (3, .int 4)], [.int 1], M)) rfl rfl rfl ?_
    refine ps_st (S' := (11, [(0, .int (nI x)), (2, .int 2), (3, .int 4)], [.int 1], M)) rfl rfl rfl ?_
    refine ps_st (S' := (12, [(0, .int (nI x)), (2, .int 2), (3, .int 4)], [.int (nI x), .int 1], M)) rfl rfl rfl ?_
    refine ps_st (S' := (13, [(0, .int (nI x)), (2, .int 2), (3, .int 4)], [.int 2, .int (nI x), .int 1], M)) rfl rfl rfl ?_
    refine ps_st (S' := (14, [(0, .int (nI x)), (2, .int 2), (3, .int 4)], [.int ((nI x) &&& 2), .int 1], M)) rfl rfl rfl ?_
    rw [nI_an (p := x) (k := 2) (x := 2) rfl]
    show pl _ _ _ (_, [(0, .int (nI x)), (2, .int 2), (3, .int 4)], [.int (nI (aN x 2)), .int 1], M) _
    refine ps_if (S1 := (21, [(0, .int (nI x)), (2, .int 2), (3, .int 4)], [.int 1], M)) (S2 := (17, [(0, .int (nI x)), (2, .int 2), (3, .int 4)], [.int 1], M)) rfl rfl rfl (fun c_14 => ?_) (fun c_14 => ?_)
    · have c_14 : (nI (aN x 2)) = 0 := of_decide_eq_true c_14
      have n_14 : aN x 2 = 0 := (eq_nI (p := aN x 2) (n := 0) (Nat.lt_of_le_of_lt (an_le _ _) (by decide)) (by decide)).mp c_14
      refine ps_st (S' := (22, [(0, .int (nI x)), (3, .int 4)], [.int 0, .int 1], M)) rfl rfl rfl ?_
      refine ps_st (S' := (23, [(0, .int (nI x)), (3, .int 4)], [.int (1 + 0)], M)) rfl rfl rfl ?_
      refine ps_st (S' := (24, [(0, .int (nI x)), (3, .int 4)], [.int (nI x), .int (1 + 0)], M)) rfl rfl rfl ?_
      refine ps_st (S' := (25, [(0, .int (nI x)), (3, .int 4)], [.int 4, .int (nI x), .int (1 + 0)], M)) rfl rfl rfl ?_
      refine ps_st (S' := (26, [(0, .int (nI x)), (3, .int 4)], [.int ((nI x) &&& 4), .int (1 + 0)], M)) rfl rfl rfl ?_
      rw [nI_an (p := x) (k := 4) (x := 4) rfl]
      show pl _ _ _ (_, [(0, .int (nI x)), (3, .int 4)], [.int (nI (aN x 4)), .int (1 + 0)], M) _
      refine ps_if (S1 := (33, [(0, .int (nI x)), (3, .int 4)], [.int (1 + 0)], M)) (S2 := (29, [(0, .int (nI x)), (3, .int 4)], [.int (1 + 0)], M)) rfl rfl rfl (fun c_26 => ?_) (fun c_26 => ?_)
      · have c_26 : (nI (aN x 4)) = 0 := of_decide_eq_true c_26
        have n_26 : aN x 4 = 0 := (eq_nI (p := aN x 4) (n := 0) (Nat.lt_of_le_of_lt (an_le _ _) (by decide)) (by decide)).mp c_26
        refine ps_st (S' := (34, [], [.int 0, .int (1 + 0)], M)) rfl rfl rfl ?_
        refine ps_st (S' := (35, [], [.int ((1 + 0) + 0)], M)) rfl rfl rfl ?_
        refine ps_st (S' := (36, [], [.int 1, .int ((1 + 0) + 0)], M)) rfl rfl rfl ?_
        refine ps_if2 (S1 := (43, [], [], M)) (S2 := (39, [], [], M)) rfl rfl rfl (fun c_36 => ?_) (fun c_36 => ?_)
        · have c_36 : ((1 + 0) + 0) ≤ 1 := of_decide_eq_true c_36
          refine ps_st (S' := (44, [], [.int 0], M)) rfl rfl rfl ?_
          exact ps_ret rfl rfl (⟨congrArg (fun x => some (Value.int (nI x))) (show 0 = sevN x from by
              have e1 := one_7 x
              have e2 := sev_0 x
              have e3 := le1_sev x
              omega), rfl⟩)
        · have c_36 : ¬ (((1 + 0) + 0) ≤ 1) := of_decide_eq_false c_36
          refine ps_st (S' := (40, [], [.int 1], M)) rfl rfl rfl ?_
          refine ps_st (S' := (44, [], [.int 1], M)) rfl rfl rfl ?_
          exact ps_ret rfl rfl (⟨congrArg (fun x => some (Value.int (nI x))) (show 1 = sevN x from by
              have e1 := one_7 x
              have e2 := sev_0 x
              have e3 := le1_sev x
              omega), rfl⟩)
      · have c_26 : ¬ ((nI (aN x 4)) = 0) := of_decide_eq_false c_26
        have n_26 : ¬ (aN x 4 = 0) := fun h9 => c_26 ((eq_nI (p := aN x 4) (n := 0) (Nat.lt_of_le_of_lt (an_le _ _) (by decide)) (by decide)).mpr h9)
        refine ps_st (S' := (30, [(0, .int (nI x)), (3, .int 4)], [.int 1, .int (1 + 0)], M)) rfl rfl rfl ?_
        refine ps_st (S' := (34, [], [.int 1, .int (1 + 0)], M)) rfl rfl rfl ?_
        refine ps_st (S' := (35, [], [.int ((1 + 0) + 1)], M)) rfl rfl rfl ?_
        refine ps_st (S' := (36, [], [.int 1, .int ((1 + 0) + 1)], M)) rfl rfl rfl ?_
        refine ps_if2 (S1 := (43, [], [], M)) (S2 := (39, [], [], M)) rfl rfl rfl (fun c_36 => ?_) (fun c_36 => ?_)
        · have c_36 : ((1 + 0) + 1) ≤ 1 := of_decide_eq_true c_36
          refine ps_st (S' := (44, [], [.int 0], M)) rfl rfl rfl ?_
          exact ps_ret rfl rfl (⟨congrArg (fun x => some (Value.int (nI x))) (show 0 = sevN x from by
              have e1 := one_7 x
              have e2 := sev_0 x
              have e3 := le1_sev x
              omega), rfl⟩)
        · have c_36 : ¬ (((1 + 0) + 1) ≤ 1) := of_decide_eq_false c_36
          refine ps_st (S' := (40, [], [.int 1], M)) rfl rfl rfl ?_
          refine ps_st (S' := (44, [], [.int 1], M)) rfl rfl rfl ?_
          exact ps_ret rfl rfl (⟨congrArg (fun x => some (Value.int (nI x))) (show 1 = sevN x from by
              have e1 := one_7 x
              have e2 := sev_0 x
              have e3 := le1_sev x
              omega), rfl⟩)
    · have c_14 : ¬ ((nI (aN x 2)) = 0) := of_decide_eq_false c_14
      have n_14 : ¬ (aN x 2 = 0) := fun h9 => c_14 ((eq_nI (p := aN x 2) (n := 0) (Nat.lt_of_le_of_lt (an_le _ _) (by decide)) (by decide)).mpr h9)
      refine ps_st (S' := (18, [(0, .int (nI x)), (2, .int 2), (3, .int 4)], [.int 1, .int 1], M)) rfl rfl rfl ?_
      refine ps_st (S' := (22, [(0, .int (nI x)), (3, .int 4)], [.int 1, .int 1], M)) rfl rfl rfl ?_
      refine ps_st (S' := (23, [(0, .int (nI x)), (3, .int 4)], [.int (1 + 1)], M)) rfl rfl rfl ?_
      refine ps_st (S' := (24, [(0, .int (nI x)), (3, .int 4)], [.int (nI x), .int (1 + 1)], M)) rfl rfl rfl ?_
      refine ps_st (S' := (25, [(0, .int (nI x)), (3, .int 4)], [.int 4, .int (nI x), .int (1 + 1)], M)) rfl rfl rfl ?_
      refine ps_st (S' := (26, [(0, .int (nI x)), (3, .int 4)], [.int ((nI x) &&& 4), .int (1 + 1)], M)) rfl rfl rfl ?_
      rw [nI_an (p := x) (k := 4) (x := 4) rfl]
      show pl _ _ _ (_, [(0, .int (nI x)), (3, .int 4)], [.int (nI (aN x 4)), .int (1 + 1)], M) _
      refine ps_if (S1 := (33, [(0, .int (nI x)), (3, .int 4)], [.int (1 + 1)], M)) (S2 := (29, [(0, .int (nI x)), (3, .int 4)], [.int (1 + 1)], M)) rfl rfl rfl (fun c_26 => ?_) (fun c_26 => ?_)
      · have c_26 : (nI (aN x 4)) = 0 := of_decide_eq_true c_26
        have n_26 : aN x 4 = 0 := (eq_nI (p := aN x 4) (n := 0) (Nat.lt_of_le_of_lt (an_le _ _) (by decide)) (by decide)).mp c_26
        refine ps_st (S' := (34, [], [.int 0, .int (1 + 1)], M)) rfl rfl rfl ?_
        refine ps_st (S' := (35, [], [.int ((1 + 1) + 0)], M)) rfl rfl rfl ?_
        refine ps_st (S' := (36, [], [.int 1, .int ((1 + 1) + 0)], M)) rfl rfl rfl ?_
        refine ps_if2 (S1 := (43, [], [], M)) (S2 := (39, [], [], M)) rfl rfl rfl (fun c_36 => ?_) (fun c_36 => ?_)
        · have c_36 : ((1 + 1) + 0) ≤ 1 := of_decide_eq_true c_36
          refine ps_st (S' := (44, [], [.int 0], M)) rfl rfl rfl ?_
          exact ps_ret rfl rfl (⟨congrArg (fun x => some (Value.int (nI x))) (show 0 = sevN x from by
              have e1 := one_7 x
              have e2 := sev_0 x
              have e3 := le1_sev x
              omega), rfl⟩)
        · have c_36 : ¬ (((1 + 1) + 0) ≤ 1) := of_decide_eq_false c_36
          refine ps_st (S' := (40, [], [.int 1], M)) rfl rfl rfl ?_
          refine ps_st (S' := (44, [], [.int 1], M)) rfl rfl rfl ?_
          exact ps_ret rfl rfl (⟨congrArg (fun x => some (Value.int (nI x))) (show 1 = sevN x from by
              have e1 := one_7 x
              have e2 := sev_0 x
              have e3 := le1_sev x
              omega), rfl⟩)
      · have c_26 : ¬ ((nI (aN x 4)) = 0) := of_decide_eq_false c_26
        have n_26 : ¬ (aN x 4 = 0) := fun h9 => c_26 ((eq_nI (p := aN x 4) (n := 0) (Nat.lt_of_le_of_lt (an_le _ _) (by decide)) (by decide)).mpr h9)
        refine ps_st (S' := (30, [(0, .int (nI x)), (3, .int 4)], [.int 1, .int (1 + 1)], M)) rfl rfl rfl ?_
        refine ps_st (S' := (34, [], [.int 1, .int (1 + 1)], M)) rfl rfl rfl ?_
        refine ps_st (S' := (35, [], [.int ((1 + 1) + 1)], M)) rfl rfl rfl ?_
        refine ps_st (S' := (36, [], [.int 1, .int ((1 + 1) + 1)], M)) rfl rfl rfl ?_
        refine ps_if2 (S1 := (43, [], [], M)) (S2 := (39, [], [], M)) rfl rfl rfl (fun c_36 => ?_) (fun c_36 => ?_)
        · have c_36 : ((1 + 1) + 1) ≤ 1 := of_decide_eq_true c_36
          refine ps_st (S' := (44, [], [.int 0], M)) rfl rfl rfl ?_
          exact ps_ret rfl rfl (⟨congrArg (fun x => some (Value.int (nI x))) (show 0 = sevN x from by
              have e1 := one_7 x
              have e2 := sev_0 x
              have e3 := le1_sev x
              omega), rfl⟩)
        · have c_36 : ¬ (((1 + 1) + 1) ≤ 1) := of_decide_eq_false c_36
          refine ps_st (S' := (40, [], [.int 1], M)) rfl rfl rfl ?_
          refine ps_st (S' := (44, [], [.int 1], M)) rfl rfl rfl ?_
          exact ps_ret rfl rfl (⟨congrArg (fun x => some (Value.int (nI x))) (show 1 = sevN x from by
              have e1 := one_7 x
              have e2 := sev_0 x
              have e3 := le1_sev x
              omega), rfl⟩)
set_option maxHeartbeats 8000000 in
theorem rd_fit00 {g : xe_G} {m0 : Nat} {q : Nat → Nat} {z : Nat × Nat} {I : rI} {R : rR} {M : mi_H} {mj x c : Nat} (hR : RS g m0 q z I R M) (hi53 : I 53 = some (nI mj))  (hmj : mj < 65536) (hx : x < 65536) (hc : aN c 512 = 0) : pt (mT g) 209 [.ref m0, .int (nI x), .int 0, .int 0] M (fun v M' => (v = some (.int (nI (fitN mj c x 0))) ∧ M = M')) := by
  refine pt_in (b := mb_209 g) rfl (fun kf => ?_)
  show pl (mT g) kf (mb_209 g).2 (0, [(0, .ref m0), (1, .int (nI x)), (2, .int 0), (3, .int 0)], [], M) _
  refine ps_st (S' := (1, [(0, .ref m0), (1, .int (nI x)), (2, .int 0), (3, .int 0)], [.int 0], M)) rfl rfl rfl ?_
  refine ps_if (S1 := (28, [(0, .ref m0), (1, .int (nI x)), (2, .int 0), (3, .int 0)], [], M)) (S2 := (4, [(0, .ref m0), (1, .int (nI x)), (2, .int 0), (3, .int 0)], [], M)) rfl rfl rfl (fun c_1 => ?_) (fun c_1 => ?_)
  rotate_left
  · exact absurd (by decide) (of_decide_eq_false c_1)
  refine ps_st (S' := (29, [(0, .ref m0), (1, .int (nI x)), (2, .int 0), (3, .int 0)], [.int (nI x)], M)) rfl rfl rfl ?_
  refine ps_st (S' := (32, [(0, .ref m0), (1, .int (nI x)), (2, .int 0), (3, .int 0)], [.int 1024, .int (nI x)], M)) rfl rfl rfl ?_
  refine ps_st (S' := (33, [(0, .ref m0), (1, .int (nI x)), (2, .int 0), (3, .int 0)], [.int ((nI x) &&& 1024)], M)) rfl rfl rfl ?_
  rw [nI_an (p := x) (k := 1024) (x := 1024) rfl]
  show pl _ _ _ (_, [(0, .ref m0), (1, .int (nI x)), (2, .int 0), (3, .int 0)], [.int (nI (aN x 1024))], M) _
  refine ps_if (S1 := (74, [(0, .ref m0), (1, .int (nI x)), (3, .int 0)], [], M)) (S2 := (36, [(0, .ref m0), (1, .int (nI x)), (2, .int 0), (3, .int 0)], [], M)) rfl rfl rfl (fun c_33 => ?_) (fun c_33 => ?_)
  · have c_33 : (nI (aN x 1024)) = 0 := of_decide_eq_true c_33
    have n_33 : aN x 1024 = 0 := (eq_nI (p := aN x 1024) (n := 0) (Nat.lt_of_le_of_lt (an_le _ _) (by decide)) (by decide)).mp c_33
    refine ps_st (S' := (75, [(0, .ref m0), (1, .int (nI x)), (3, .int 0)], [.int 0], M)) rfl rfl rfl ?_
    refine ps_st (S' := (77, [(4, .int 0), (0, .ref m0), (1, .int (nI x)), (3, .int 0)], [], M)) rfl rfl rfl ?_
    refine ps_st (S' := (78, [(4, .int 0), (0, .ref m0), (1, .int (nI x)), (3, .int 0)], [.int 0], M)) rfl rfl rfl ?_
    refine ps_if (S1 := (102, [(4, .int 0), (0, .ref m0), (1, .int (nI x)), (3, .int 0)], [], M)) (S2 := (81, [(4, .int 0), (0, .ref m0), (1, .int (nI x)), (3, .int 0)], [], M)) rfl rfl rfl (fun c_78 => ?_) (fun c_78 => ?_)
    · exact absurd (of_decide_eq_true c_78) (by decide)
    refine ps_st (S' := (82, [(4, .int 0), (0, .ref m0), (1, .int (nI x)), (3, .int 0)], [.int (nI x)], M)) rfl rfl rfl ?_
    refine ps_st (S' := (83, [(4, .int 0), (0, .ref m0), (1, .int (nI x)), (3, .int 0)], [.int 1, .int (nI x)], M)) rfl rfl rfl ?_
    refine ps_st (S' := (84, [(4, .int 0), (0, .ref m0), (1, .int (nI x)), (3, .int 0)], [.int 2, .int 1, .int (nI x)], M)) rfl rfl rfl ?_
    refine ps_st (S' := (85, [(4, .int 0), (0, .ref m0), (1, .int (nI x)), (3, .int 0)], [.int 4, .int 2, .int 1, .int (nI x)], M)) rfl rfl rfl ?_
    refine pl_call (a := [.int (nI x), .int 1, .int 2, .int 4]) (rest := []) rfl rfl rfl (rd_several (x := x)) (fun v1 M2 q3 => ?_)
    obtain ⟨rfl, rfl⟩ := q3
    show pl _ _ _ (88, [(4, .int 0), (0, .ref m0), (1, .int (nI x)), (3, .int 0)], [.int (nI (sevN x))], M) _
    refine ps_if (S1 := (100, [], [], M)) (S2 := (91, [(4, .int 0), (0, .ref m0), (1, .int (nI x)), (3, .int 0)], [], M)) rfl rfl rfl (fun c_88 => ?_) (fun c_88 => ?_)
    · have c_88 : ¬ (nI (sevN x)) = 0 := of_decide_eq_true c_88
      have n_88 : ¬ (sevN x = 0) := fun h9 => c_88 ((eq_nI (p := sevN x) (n := 0) (Nat.lt_trans (le1_sev _) (by decide)) (by decide)).mpr h9)
      refine ps_st (S' := (101, [], [.int 0], M)) rfl rfl rfl ?_
      exact ps_ret rfl rfl (⟨congrArg (fun x => some (Value.int (nI x))) (show 0 = fitN mj c x 0 from by
          have e3 := has_0 x 1400
          have e4 := has_0 x 1024
          have e5 := has_0 c 512
          have e2 := sev_0 x
          have b1 := le1_one x
          unfold fitN
          first | ((repeat first | rw [if_pos (by omega)] | rw [if_neg (by omega)]) <;> first | rfl | omega) | ((repeat' split) <;> first | rfl | (exfalso; omega) | omega)), rfl⟩)
    · have c_88 : ¬ (¬ (nI (sevN x)) = 0) := of_decide_eq_false c_88
      have n_88 : sevN x = 0 := (eq_nI (p := sevN x) (n := 0) (Nat.lt_trans (le1_sev _) (by decide)) (by decide)).mp (Decidable.not_not.mp c_88)
      refine ps_st (S' := (93, [(4, .int 0), (0, .ref m0), (1, .int (nI x)), (3, .int 0)], [.int 0], M)) rfl rfl rfl ?_
      refine ps_if (S1 := (100, [], [], M)) (S2 := (96, [(4, .int 0), (0, .ref m0), (1, .int (nI x)), (3, .int 0)], [], M)) rfl rfl rfl (fun c_93 => ?_) (fun c_93 => ?_)
      · exact absurd (of_decide_eq_true c_93) (by decide)
      refine ps_st (S' := (97, [(4, .int 0), (0, .ref m0), (1, .int (nI x)), (3, .int 0)], [.int 1], M)) rfl rfl rfl ?_
      refine ps_st (S' := (101, [], [.int 1], M)) rfl rfl rfl ?_
      exact ps_ret rfl rfl (⟨congrArg (fun x => some (Value.int (nI x))) (show 1 = fitN mj c x 0 from by
          have e3 := has_0 x 1400
          have e4 := has_0 x 1024
          have e5 := has_0 c 512
          have e2 := sev_0 x
          have b1 := le1_one x
          unfold fitN
          first | ((repeat first | rw [if_pos (by omega)] | rw [if_neg (by omega)]) <;> first | rfl | omega) | ((repeat' split) <;> first | rfl | (exfalso; omega) | omega)), rfl⟩)
  · have c_33 : ¬ ((nI (aN x 1024)) = 0) := of_decide_eq_false c_33
    have n_33 : ¬ (aN x 1024 = 0) := fun h9 => c_33 ((eq_nI (p := aN x 1024) (n := 0) (Nat.lt_of_le_of_lt (an_le _ _) (by decide)) (by decide)).mpr h9)
    refine ps_st (S' := (37, [(0, .ref m0), (1, .int (nI x)), (2, .int 0), (3, .int 0)], [.int (nI x)], M)) rfl rfl rfl ?_
    refine ps_st (S' := (40, [(0, .ref m0), (1, .int (nI x)), (2, .int 0), (3, .int 0)], [.int 314, .int (nI x)], M)) rfl rfl rfl ?_
    refine ps_st (S' := (41, [(0, .ref m0), (1, .int (nI x)), (2, .int 0), (3, .int 0)], [.int ((nI x) &&& 314)], M)) rfl rfl rfl ?_
    rw [nI_an (p := x) (k := 314) (x := 314) rfl]
    show pl _ _ _ (_, [(0, .ref m0), (1, .int (nI x)), (2, .int 0), (3, .int 0)], [.int (nI (aN x 314))], M) _
    refine ps_if (S1 := (70, [(0, .ref m0), (1, .int (nI x)), (3, .int 0)], [], M)) (S2 := (44, [(0, .ref m0), (1, .int (nI x)), (2, .int 0), (3, .int 0)], [], M)) rfl rfl rfl (fun c_41 => ?_) (fun c_41 => ?_)
    · have c_41 : ¬ (nI (aN x 314)) = 0 := of_decide_eq_true c_41
      have n_41 : ¬ (aN x 314 = 0) := fun h9 => c_41 ((eq_nI (p := aN x 314) (n := 0) (Nat.lt_of_le_of_lt (an_le _ _) (by decide)) (by decide)).mpr h9)
      refine ps_st (S' := (71, [(0, .ref m0), (1, .int (nI x)), (3, .int 0)], [.int 1], M)) rfl rfl rfl ?_
      refine ps_st (S' := (75, [(0, .ref m0), (1, .int (nI x)), (3, .int 0)], [.int 1], M)) rfl rfl rfl ?_
      refine ps_st (S' := (77, [(4, .int 1), (0, .ref m0), (1, .int (nI x)), (3, .int 0)], [], M)) rfl rfl rfl ?_
      refine ps_st (S' := (78, [(4, .int 1), (0, .ref m0), (1, .int (nI x)), (3, .int 0)], [.int 0], M)) rfl rfl rfl ?_
      refine ps_if (S1 := (102, [(4, .int 1), (0, .ref m0), (1, .int (nI x)), (3, .int 0)], [], M)) (S2 := (81, [(4, .int 1), (0, .ref m0), (1, .int (nI x)), (3, .int 0)], [], M)) rfl rfl rfl (fun c_78 => ?_) (fun c_78 => ?_)
      · exact absurd (of_decide_eq_true c_78) (by decide)
      refine ps_st (S' := (82, [(4, .int 1), (0, .ref m0), (1, .int (nI x)), (3, .int 0)], [.int (nI x)], M)) rfl rfl rfl ?_
      refine ps_st (S' := (83, [(4, .int 1), (0, .ref m0), (1, .int (nI x)), (3, .int 0)], [.int 1, .int (nI x)], M)) rfl rfl rfl ?_
      refine ps_st (S' := (84, [(4, .int 1), (0, .ref m0), (1, .int (nI x)), (3, .int 0)], [.int 2, .int 1, .int (nI x)], M)) rfl rfl rfl ?_
      refine ps_st (S' := (85, [(4, .int 1), (0, .ref m0), (1, .int (nI x)), (3, .int 0)], [.int 4, .int 2, .int 1, .int (nI x)], M)) rfl rfl rfl ?_
      refine pl_call (a := [.int (nI x), .int 1, .int 2, .int 4]) (rest := []) rfl rfl rfl (rd_several (x := x)) (fun v4 M5 q6 => ?_)
      obtain ⟨rfl, rfl⟩ := q6
      show pl _ _ _ (88, [(4, .int 1), (0, .ref m0), (1, .int (nI x)), (3, .int 0)], [.int (nI (sevN x))], M) _
      refine ps_if (S1 := (100, [], [], M)) (S2 := (91, [(4, .int 1), (0, .ref m0), (1, .int (nI x)), (3, .int 0)], [], M)) rfl rfl rfl (fun c_88 => ?_) (fun c_88 => ?_)
      · have c_88 : ¬ (nI (sevN x)) = 0 := of_decide_eq_true c_88
        have n_88 : ¬ (sevN x = 0) := fun h9 => c_88 ((eq_nI (p := sevN x) (n := 0) (Nat.lt_trans (le1_sev _) (by decide)) (by decide)).mpr h9)
        refine ps_st (S' := (101, [], [.int 0], M)) rfl rfl rfl ?_
        exact ps_ret rfl rfl (⟨congrArg (fun x => some (Value.int (nI x))) (show 0 = fitN mj c x 0 from by
            have e3 := has_0 x 1400
            have e4 := has_0 x 1024
            have e5 := has_0 c 512
            have e2 := sev_0 x
            have b1 := le1_one x
            have ha : absN mj x = 0 := (abs_0 mj x).mpr (by omega)
            unfold fitN
            first | ((repeat first | rw [if_pos (by omega)] | rw [if_neg (by omega)]) <;> first | rfl | omega) | ((repeat' split) <;> first | rfl | (exfalso; omega) | omega)), rfl⟩)
      · have c_88 : ¬ (¬ (nI (sevN x)) = 0) := of_decide_eq_false c_88
        have n_88 : sevN x = 0 := (eq_nI (p := sevN x) (n := 0) (Nat.lt_trans (le1_sev _) (by decide)) (by decide)).mp (Decidable.not_not.mp c_88)
        refine ps_st (S' := (93, [(4, .int 1), (0, .ref m0), (1, .int (nI x)), (3, .int 0)], [.int 1], M)) rfl rfl rfl ?_
        refine ps_if (S1 := (100, [], [], M)) (S2 := (96, [(4, .int 1), (0, .ref m0), (1, .int (nI x)), (3, .int 0)], [], M)) rfl rfl rfl (fun c_93 => ?_) (fun c_93 => ?_)
        rotate_left
        · exact absurd (by decide) (of_decide_eq_false c_93)
        refine ps_st (S' := (101, [], [.int 0], M)) rfl rfl rfl ?_
        exact ps_ret rfl rfl (⟨congrArg (fun x => some (Value.int (nI x))) (show 0 = fitN mj c x 0 from by
            have e3 := has_0 x 1400
            have e4 := has_0 x 1024
            have e5 := has_0 c 512
            have e2 := sev_0 x
            have b1 := le1_one x
            have ha : absN mj x = 0 := (abs_0 mj x).mpr (by omega)
            unfold fitN
            first | ((repeat first | rw [if_pos (by omega)] | rw [if_neg (by omega)]) <;> first | rfl | omega) | ((repeat' split) <;> first | rfl | (exfalso; omega) | omega)), rfl⟩)
    · have c_41 : ¬ (¬ (nI (aN x 314)) = 0) := of_decide_eq_false c_41
      have n_41 : aN x 314 = 0 := (eq_nI (p := aN x 314) (n := 0) (Nat.lt_of_le_of_lt (an_le _ _) (by decide)) (by decide)).mp (Decidable.not_not.mp c_41)
      refine ps_st (S' := (45, [(0, .ref m0), (1, .int (nI x)), (2, .int 0), (3, .int 0)], [.ref m0], M)) rfl rfl rfl ?_
      refine pr_int (j := 53) (S' := (48, [(0, .ref m0), (1, .int (nI x)), (2, .int 0), (3, .int 0)], [.int (nI mj)], M)) rfl hR rfl hi53 rfl ?_
      refine ps_st (S' := (50, [(0, .ref m0), (1, .int (nI x)), (2, .int 0), (3, .int 0)], [.int 46, .int (nI mj)], M)) rfl rfl rfl ?_
      refine ps_if2 (S1 := (74, [(0, .ref m0), (1, .int (nI x)), (3, .int 0)], [], M)) (S2 := (53, [(0, .ref m0), (1, .int (nI x)), (2, .int 0), (3, .int 0)], [], M)) rfl rfl rfl (fun c_50 => ?_) (fun c_50 => ?_)
      · have c_50 : (nI mj) < 46 := of_decide_eq_true c_50
        have n_50 : mj < 46 := (lt_nI (p := mj) (n := 46) (by omega) (by decide)).mp c_50
        refine ps_st (S' := (75, [(0, .ref m0), (1, .int (nI x)), (3, .int 0)], [.int 0], M)) rfl rfl rfl ?_
        refine ps_st (S' := (77, [(4, .int 0), (0, .ref m0), (1, .int (nI x)), (3, .int 0)], [], M)) rfl rfl rfl ?_
        refine ps_st (S' := (78, [(4, .int 0), (0, .ref m0), (1, .int (nI x)), (3, .int 0)], [.int 0], M)) rfl rfl rfl ?_
        refine ps_if (S1 := (102, [(4, .int 0), (0, .ref m0), (1, .int (nI x)), (3, .int 0)], [], M)) (S2 := (81, [(4, .int 0), (0, .ref m0), (1, .int (nI x)), (3, .int 0)], [], M)) rfl rfl rfl (fun c_78 => ?_) (fun c_78 => ?_)
        · exact absurd (of_decide_eq_true c_78) (by decide)
        refine ps_st (S' := (82, [(4, .int 0), (0, .ref m0), (1, .int (nI x)), (3, .int 0)], [.int (nI x)], M)) rfl rfl rfl ?_
        refine ps_st (S' := (83, [(4, .int 0), (0, .ref m0), (1, .int (nI x)), (3, .int 0)], [.int 1, .int (nI x)], M)) rfl rfl rfl ?_
        refine ps_st (S' := (84, [(4, .int 0), (0, .ref m0), (1, .int (nI x)), (3, .int 0)], [.int 2, .int 1, .int (nI x)], M)) rfl rfl rfl ?_
        refine ps_st (S' := (85, [(4, .int 0), (0, .ref m0), (1, .int (nI x)), (3, .int 0)], [.int 4, .int 2, .int 1, .int (nI x)], M)) rfl rfl rfl ?_
        refine pl_call (a := [.int (nI x), .int 1, .int 2, .int 4]) (rest := []) rfl rfl rfl (rd_several (x := x)) (fun v7 M8 q9 => ?_)
        obtain ⟨rfl, rfl⟩ := q9
        show pl _ _ _ (88, [(4, .int 0), (0, .ref m0), (1, .int (nI x)), (3, .int 0)], [.int (nI (sevN x))], M) _
        refine ps_if (S1 := (100, [], [], M)) (S2 := (91, [(4, .int 0), (0, .ref m0), (1, .int (nI x)), (3, .int 0)], [], M)) rfl rfl rfl (fun c_88 => ?_) (fun c_88 => ?_)
        · have c_88 : ¬ (nI (sevN x)) = 0 := of_decide_eq_true c_88
          have n_88 : ¬ (sevN x = 0) := fun h9 => c_88 ((eq_nI (p := sevN x) (n := 0) (Nat.lt_trans (le1_sev _) (by decide)) (by decide)).mpr h9)
          refine ps_st (S' := (101, [], [.int 0], M)) rfl rfl rfl ?_
          exact ps_ret rfl rfl (⟨congrArg (fun x => some (Value.int (nI x))) (show 0 = fitN mj c x 0 from by
              have e3 := has_0 x 1400
              have e4 := has_0 x 1024
              have e5 := has_0 c 512
              have e2 := sev_0 x
              have b1 := le1_one x
              have ha : ¬ absN mj x = 0 := fun h => absurd ((abs_0 mj x).mp h) (by omega)
              unfold fitN
              first | ((repeat first | rw [if_pos (by omega)] | rw [if_neg (by omega)]) <;> first | rfl | omega) | ((repeat' split) <;> first | rfl | (exfalso; omega) | omega)), rfl⟩)
        · have c_88 : ¬ (¬ (nI (sevN x)) = 0) := of_decide_eq_false c_88
          have n_88 : sevN x = 0 := (eq_nI (p := sevN x) (n := 0) (Nat.lt_trans (le1_sev _) (by decide)) (by decide)).mp (Decidable.not_not.mp c_88)
          refine ps_st (S' := (93, [(4, .int 0), (0, .ref m0), (1, .int (nI x)), (3, .int 0)], [.int 0], M)) rfl rfl rfl ?_
          refine ps_if (S1 := (100, [], [], M)) (S2 := (96, [(4, .int 0), (0, .ref m0), (1, .int (nI x)), (3, .int 0)], [], M)) rfl rfl rfl (fun c_93 => ?_) (fun c_93 => ?_)
          · exact absurd (of_decide_eq_true c_93) (by decide)
          refine ps_st (S' := (97, [(4, .int 0), (0, .ref m0), (1, .int (nI x)), (3, .int 0)], [.int 1], M)) rfl rfl rfl ?_
          refine ps_st (S' := (101, [], [.int 1], M)) rfl rfl rfl ?_
          exact ps_ret rfl rfl (⟨congrArg (fun x => some (Value.int (nI x))) (show 1 = fitN mj c x 0 from by
              have e3 := has_0 x 1400
              have e4 := has_0 x 1024
              have e5 := has_0 c 512
              have e2 := sev_0 x
              have b1 := le1_one x
              have ha : ¬ absN mj x = 0 := fun h => absurd ((abs_0 mj x).mp h) (by omega)
              unfold fitN
              first | ((repeat first | rw [if_pos (by omega)] | rw [if_neg (by omega)]) <;> first | rfl | omega) | ((repeat' split) <;> first | rfl | (exfalso; omega) | omega)), rfl⟩)
      · have c_50 : ¬ ((nI mj) < 46) := of_decide_eq_false c_50
        have n_50 : ¬ (mj < 46) := fun h9 => c_50 ((lt_nI (p := mj) (n := 46) (by omega) (by decide)).mpr h9)
        refine ps_st (S' := (54, [(0, .ref m0), (1, .int (nI x)), (2, .int 0), (3, .int 0)], [.ref m0], M)) rfl rfl rfl ?_
        refine pr_int (j := 53) (S' := (57, [(0, .ref m0), (1, .int (nI x)), (2, .int 0), (3, .int 0)], [.int (nI mj)], M)) rfl hR rfl hi53 rfl ?_
        refine ps_st (S' := (59, [(0, .ref m0), (1, .int (nI x)), (2, .int 0), (3, .int 0)], [.int 60, .int (nI mj)], M)) rfl rfl rfl ?_
        refine ps_if2 (S1 := (74, [(0, .ref m0), (1, .int (nI x)), (3, .int 0)], [], M)) (S2 := (62, [(0, .ref m0), (1, .int (nI x)), (2, .int 0), (3, .int 0)], [], M)) rfl rfl rfl (fun c_59 => ?_) (fun c_59 => ?_)
        · have c_59 : 60 < (nI mj) := of_decide_eq_true c_59
          have n_59 : 60 < mj := (lt_nI (p := 60) (n := mj) (by decide) (by omega)).mp c_59
          refine ps_st (S' := (75, [(0, .ref m0), (1, .int (nI x)), (3, .int 0)], [.int 0], M)) rfl rfl rfl ?_
          refine ps_st (S' := (77, [(4, .int 0), (0, .ref m0), (1, .int (nI x)), (3, .int 0)], [], M)) rfl rfl rfl ?_
          refine ps_st (S' := (78, [(4, .int 0), (0, .ref m0), (1, .int (nI x)), (3, .int 0)], [.int 0], M)) rfl rfl rfl ?_
          refine ps_if (S1 := (102, [(4, .int 0), (0, .ref m0), (1, .int (nI x)), (3, .int 0)], [], M)) (S2 := (81, [(4, .int 0), (0, .ref m0), (1, .int (nI x)), (3, .int 0)], [], M)) rfl rfl rfl (fun c_78 => ?_) (fun c_78 => ?_)
          · exact absurd (of_decide_eq_true c_78) (by decide)
          refine ps_st (S' := (82, [(4, .int 0), (0, .ref m0), (1, .int (nI x)), (3, .int 0)], [.int (nI x)], M)) rfl rfl rfl ?_
          refine ps_st (S' := (83, [(4, .int 0), (0, .ref m0), (1, .int (nI x)), (3, .int 0)], [.int 1, .int (nI x)], M)) rfl rfl rfl ?_
          refine ps_st (S' := (84, [(4, .int 0), (0, .ref m0), (1, .int (nI x)), (3, .int 0)], [.int 2, .int 1, .int (nI x)], M)) rfl rfl rfl ?_
          refine ps_st (S' := (85, [(4, .int 0), (0, .ref m0), (1, .int (nI x)), (3, .int 0)], [.int 4, .int 2, .int 1, .int (nI x)], M)) rfl rfl rfl ?_
          refine pl_call (a := [.int (nI x), .int 1, .int 2, .int 4]) (rest := []) rfl rfl rfl (rd_several (x := x)) (fun v10 M11 q12 => ?_)
          obtain ⟨rfl, rfl⟩ := q12
          show pl _ _ _ (88, [(4, .int 0), (0, .ref m0), (1, .int (nI x)), (3, .int 0)], [.int (nI (sevN x))], M) _
          refine ps_if (S1 := (100, [], [], M)) (S2 := (91, [(4, .int 0), (0, .ref m0), (1, .int (nI x)), (3, .int 0)], [], M)) rfl rfl rfl (fun c_88 => ?_) (fun c_88 => ?_)
          · have c_88 : ¬ (nI (sevN x)) = 0 := of_decide_eq_true c_88
            have n_88 : ¬ (sevN x = 0) := fun h9 => c_88 ((eq_nI (p := sevN x) (n := 0) (Nat.lt_trans (le1_sev _) (by decide)) (by decide)).mpr h9)
            refine ps_st (S' := (101, [], [.int 0], M)) rfl rfl rfl ?_
            exact ps_ret rfl rfl (⟨congrArg (fun x => some (Value.int (nI x))) (show 0 = fitN mj c x 0 from by
                have e3 := has_0 x 1400
                have e4 := has_0 x 1024
                have e5 := has_0 c 512
                have e2 := sev_0 x
                have b1 := le1_one x
                have ha : ¬ absN mj x = 0 := fun h => absurd ((abs_0 mj x).mp h) (by omega)
                unfold fitN
                first | ((repeat first | rw [if_pos (by omega)] | rw [if_neg (by omega)]) <;> first | rfl | omega) | ((repeat' split) <;> first | rfl | (exfalso; omega) | omega)), rfl⟩)
          · have c_88 : ¬ (¬ (nI (sevN x)) = 0) := of_decide_eq_false c_88
            have n_88 : sevN x = 0 := (eq_nI (p := sevN x) (n := 0) (Nat.lt_trans (le1_sev _) (by decide)) (by decide)).mp (Decidable.not_not.mp c_88)
            refine ps_st (S' := (93, [(4, .int 0), (0, .ref m0), (1, .int (nI x)), (3, .int 0)], [.int 0], M)) rfl rfl rfl ?_
            refine ps_if (S1 := (100, [], [], M)) (S2 := (96, [(4, .int 0), (0, .ref m0), (1, .int (nI x)), (3, .int 0)], [], M)) rfl rfl rfl (fun c_93 => ?_) (fun c_93 => ?_)
            · exact absurd (of_decide_eq_true c_93) (by decide)
            refine ps_st (S' := (97, [(4, .int 0), (0, .ref m0), (1, .int (nI x)), (3, .int 0)], [.int 1], M)) rfl rfl rfl ?_
            refine ps_st (S' := (101, [], [.int 1], M)) rfl rfl rfl ?_
            exact ps_ret rfl rfl (⟨congrArg (fun x => some (Value.int (nI x))) (show 1 = fitN mj c x 0 from by
                have e3 := has_0 x 1400
                have e4 := has_0 x 1024
                have e5 := has_0 c 512
                have e2 := sev_0 x
                have b1 := le1_one x
                have ha : ¬ absN mj x = 0 := fun h => absurd ((abs_0 mj x).mp h) (by omega)
                unfold fitN
                first | ((repeat first | rw [if_pos (by omega)] | rw [if_neg (by omega)]) <;> first | rfl | omega) | ((repeat' split) <;> first | rfl | (exfalso; omega) | omega)), rfl⟩)
        · have c_59 : ¬ (60 < (nI mj)) := of_decide_eq_false c_59
          have n_59 : ¬ (60 < mj) := fun h9 => c_59 ((lt_nI (p := 60) (n := mj) (by decide) (by omega)).mpr h9)
          refine ps_st (S' := (63, [(0, .ref m0), (1, .int (nI x)), (2, .int 0), (3, .int 0)], [.int (nI x)], M)) rfl rfl rfl ?_
          refine ps_st (S' := (66, [(0, .ref m0), (1, .int (nI x)), (2, .int 0), (3, .int 0)], [.int 2048, .int (nI x)], M)) rfl rfl rfl ?_
          refine ps_st (S' := (67, [(0, .ref m0), (1, .int (nI x)), (2, .int 0), (3, .int 0)], [.int ((nI x) &&& 2048)], M)) rfl rfl rfl ?_
          rw [nI_an (p := x) (k := 2048) (x := 2048) rfl]
          show pl _ _ _ (_, [(0, .ref m0), (1, .int (nI x)), (2, .int 0), (3, .int 0)], [.int (nI (aN x 2048))], M) _
          refine ps_if (S1 := (74, [(0, .ref m0), (1, .int (nI x)), (3, .int 0)], [], M)) (S2 := (70, [(0, .ref m0), (1, .int (nI x)), (3, .int 0)], [], M)) rfl rfl rfl (fun c_67 => ?_) (fun c_67 => ?_)
          · have c_67 : (nI (aN x 2048)) = 0 := of_decide_eq_true c_67
            have n_67 : aN x 2048 = 0 := (eq_nI (p := aN x 2048) (n := 0) (Nat.lt_of_le_of_lt (an_le _ _) (by decide)) (by decide)).mp c_67
            refine ps_st (S' := (75, [(0, .ref m0), (1, .int (nI x)), (3, .int 0)], [.int 0], M)) rfl rfl rfl ?_
            refine ps_st (S' := (77, [(4, .int 0), (0, .ref m0), (1, .int (nI x)), (3, .int 0)], [], M)) rfl rfl rfl ?_
            refine ps_st (S' := (78, [(4, .int 0), (0, .ref m0), (1, .int (nI x)), (3, .int 0)], [.int 0], M)) rfl rfl rfl ?_
            refine ps_if (S1 := (102, [(4, .int 0), (0, .ref m0), (1, .int (nI x)), (3, .int 0)], [], M)) (S2 := (81, [(4, .int 0), (0, .ref m0), (1, .int (nI x)), (3, .int 0)], [], M)) rfl rfl rfl (fun c_78 => ?_) (fun c_78 => ?_)
            · exact absurd (of_decide_eq_true c_78) (by decide)
            refine ps_st (S' := (82, [(4, .int 0), (0, .ref m0), (1, .int (nI x)), (3, .int 0)], [.int (nI x)], M)) rfl rfl rfl ?_
            refine ps_st (S' := (83, [(4, .int 0), (0, .ref m0), (1, .int (nI x)), (3, .int 0)], [.int 1, .int (nI x)], M)) rfl rfl rfl ?_
            refine ps_st (S' := (84, [(4, .int 0), (0, .ref m0), (1, .int (nI x)), (3, .int 0)], [.int 2, .int 1, .int (nI x)], M)) rfl rfl rfl ?_
            refine ps_st (S' := (85, [(4, .int 0), (0, .ref m0), (1, .int (nI x)), (3, .int 0)], [.int 4, .int 2, .int 1, .int (nI x)], M)) rfl rfl rfl ?_
            refine pl_call (a := [.int (nI x), .int 1, .int 2, .int 4]) (rest := []) rfl rfl rfl (rd_several (x := x)) (fun v13 M14 q15 => ?_)
            obtain ⟨rfl, rfl⟩ := q15
            show pl _ _ _ (88, [(4, .int 0), (0, .ref m0), (1, .int (nI x)), (3, .int 0)], [.int (nI (sevN x))], M) _
            refine ps_if (S1 := (100, [], [], M)) (S2 := (91, [(4, .int 0), (0, .ref m0), (1, .int (nI x)), (3, .int 0)], [], M)) rfl rfl rfl (fun c_88 => ?_) (fun c_88 => ?_)
            · have c_88 : ¬ (nI (sevN x)) = 0 := of_decide_eq_true c_88
              have n_88 : ¬ (sevN x = 0) := fun h9 => c_88 ((eq_nI (p := sevN x) (n := 0) (Nat.lt_trans (le1_sev _) (by decide)) (by decide)).mpr h9)
              refine ps_st (S' := (101, [], [.int 0], M)) rfl rfl rfl ?_
              exact ps_ret rfl rfl (⟨congrArg (fun x => some (Value.int (nI x))) (show 0 = fitN mj c x 0 from by
                  have e3 := has_0 x 1400
                  have e4 := has_0 x 1024
                  have e5 := has_0 c 512
                  have e2 := sev_0 x
                  have b1 := le1_one x
                  have ha : ¬ absN mj x = 0 := fun h => absurd ((abs_0 mj x).mp h) (by omega)
                  unfold fitN
                  first | ((repeat first | rw [if_pos (by omega)] | rw [if_neg (by omega)]) <;> first | rfl | omega) | ((repeat' split) <;> first | rfl | (exfalso; omega) | omega)), rfl⟩)
            · have c_88 : ¬ (¬ (nI (sevN x)) = 0) := of_decide_eq_false c_88
              have n_88 : sevN x = 0 := (eq_nI (p := sevN x) (n := 0) (Nat.lt_trans (le1_sev _) (by decide)) (by decide)).mp (Decidable.not_not.mp c_88)
              refine ps_st (S' := (93, [(4, .int 0), (0, .ref m0), (1, .int (nI x)), (3, .int 0)], [.int 0], M)) rfl rfl rfl ?_
              refine ps_if (S1 := (100, [], [], M)) (S2 := (96, [(4, .int 0), (0, .ref m0), (1, .int (nI x)), (3, .int 0)], [], M)) rfl rfl rfl (fun c_93 => ?_) (fun c_93 => ?_)
              · exact absurd (of_decide_eq_true c_93) (by decide)
              refine ps_st (S' := (97, [(4, .int 0), (0, .ref m0), (1, .int (nI x)), (3, .int 0)], [.int 1], M)) rfl rfl rfl ?_
              refine ps_st (S' := (101, [], [.int 1], M)) rfl rfl rfl ?_
              exact ps_ret rfl rfl (⟨congrArg (fun x => some (Value.int (nI x))) (show 1 = fitN mj c x 0 from by
                  have e3 := has_0 x 1400
                  have e4 := has_0 x 1024
                  have e5 := has_0 c 512
                  have e2 := sev_0 x
                  have b1 := le1_one x
                  have ha : ¬ absN mj x = 0 := fun h => absurd ((abs_0 mj x).mp h) (by omega)
                  unfold fitN
                  first | ((repeat first | rw [if_pos (by omega)] | rw [if_neg (by omega)]) <;> first | rfl | omega) | ((repeat' split) <;> first | rfl | (exfalso; omega) | omega)), rfl⟩)
          · have c_67 : ¬ ((nI (aN x 2048)) = 0) := of_decide_eq_false c_67
            have n_67 : ¬ (aN x 2048 = 0) := fun h9 => c_67 ((eq_nI (p := aN x 2048) (n := 0) (Nat.lt_of_le_of_lt (an_le _ _) (by decide)) (by decide)).mpr h9)
            refine ps_st (S' := (71, [(0, .ref m0), (1, .int (nI x)), (3, .int 0)], [.int 1], M)) rfl rfl rfl ?_
            refine ps_st (S' := (75, [(0, .ref m0), (1, .int (nI x)), (3, .int 0)], [.int 1], M)) rfl rfl rfl ?_
            refine ps_st (S' := (77, [(4, .int 1), (0, .ref m0), (1, .int (nI x)), (3, .int 0)], [], M)) rfl rfl rfl ?_
            refine ps_st (S' := (78, [(4, .int 1), (0, .ref m0), (1, .int (nI x)), (3, .int 0)], [.int 0], M)) rfl rfl rfl ?_
            refine ps_if (S1 := (102, [(4, .int 1), (0, .ref m0), (1, .int (nI x)), (3, .int 0)], [], M)) (S2 := (81, [(4, .int 1), (0, .ref m0), (1, .int (nI x)), (3, .int 0)], [], M)) rfl rfl rfl (fun c_78 => ?_) (fun c_78 => ?_)
            · exact absurd (of_decide_eq_true c_78) (by decide)
            refine ps_st (S' := (82, [(4, .int 1), (0, .ref m0), (1, .int (nI x)), (3, .int 0)], [.int (nI x)], M)) rfl rfl rfl ?_
            refine ps_st (S' := (83, [(4, .int 1), (0, .ref m0), (1, .int (nI x)), (3, .int 0)], [.int 1, .int (nI x)], M)) rfl rfl rfl ?_
            refine ps_st (S' := (84, [(4, .int 1), (0, .ref m0), (1, .int (nI x)), (3, .int 0)], [.int 2, .int 1, .int (nI x)], M)) rfl rfl rfl ?_
            refine ps_st (S' := (85, [(4, .int 1), (0, .ref m0), (1, .int (nI x)), (3, .int 0)], [.int 4, .int 2, .int 1, .int (nI x)], M)) rfl rfl rfl ?_
            refine pl_call (a := [.int (nI x), .int 1, .int 2, .int 4]) (rest := []) rfl rfl rfl (rd_several (x := x)) (fun v16 M17 q18 => ?_)
            obtain ⟨rfl, rfl⟩ := q18
            show pl _ _ _ (88, [(4, .int 1), (0, .ref m0), (1, .int (nI x)), (3, .int 0)], [.int (nI (sevN x))], M) _
            refine ps_if (S1 := (100, [], [], M)) (S2 := (91, [(4, .int 1), (0, .ref m0), (1, .int (nI x)), (3, .int 0)], [], M)) rfl rfl rfl (fun c_88 => ?_) (fun c_88 => ?_)
            · have c_88 : ¬ (nI (sevN x)) = 0 := of_decide_eq_true c_88
              have n_88 : ¬ (sevN x = 0) := fun h9 => c_88 ((eq_nI (p := sevN x) (n := 0) (Nat.lt_trans (le1_sev _) (by decide)) (by decide)).mpr h9)
              refine ps_st (S' := (101, [], [.int 0], M)) rfl rfl rfl ?_
              exact ps_ret rfl rfl (⟨congrArg (fun x => some (Value.int (nI x))) (show 0 = fitN mj c x 0 from by
                  have e3 := has_0 x 1400
                  have e4 := has_0 x 1024
                  have e5 := has_0 c 512
                  have e2 := sev_0 x
                  have b1 := le1_one x
                  have ha : absN mj x = 0 := (abs_0 mj x).mpr (by omega)
                  unfold fitN
                  first | ((repeat first | rw [if_pos (by omega)] | rw [if_neg (by omega)]) <;> first | rfl | omega) | ((repeat' split) <;> first | rfl | (exfalso; omega) | omega)), rfl⟩)
            · have c_88 : ¬ (¬ (nI (sevN x)) = 0) := of_decide_eq_false c_88
              have n_88 : sevN x = 0 := (eq_nI (p := sevN x) (n := 0) (Nat.lt_trans (le1_sev _) (by decide)) (by decide)).mp (Decidable.not_not.mp c_88)
              refine ps_st (S' := (93, [(4, .int 1), (0, .ref m0), (1, .int (nI x)), (3, .int 0)], [.int 1], M)) rfl rfl rfl ?_
              refine ps_if (S1 := (100, [], [], M)) (S2 := (96, [(4, .int 1), (0, .ref m0), (1, .int (nI x)), (3, .int 0)], [], M)) rfl rfl rfl (fun c_93 => ?_) (fun c_93 => ?_)
              rotate_left
              · exact absurd (by decide) (of_decide_eq_false c_93)
              refine ps_st (S' := (101, [], [.int 0], M)) rfl rfl rfl ?_
              exact ps_ret rfl rfl (⟨congrArg (fun x => some (Value.int (nI x))) (show 0 = fitN mj c x 0 from by
                  have e3 := has_0 x 1400
                  have e4 := has_0 x 1024
                  have e5 := has_0 c 512
                  have e2 := sev_0 x
                  have b1 := le1_one x
                  have ha : absN mj x = 0 := (abs_0 mj x).mpr (by omega)
                  unfold fitN
                  first | ((repeat first | rw [if_pos (by omega)] | rw [if_neg (by omega)]) <;> first | rfl | omega) | ((repeat' split) <;> first | rfl | (exfalso; omega) | omega)), rfl⟩)
set_option maxHeartbeats 8000000 in
theorem rd_fit01 {g : xe_G} {m0 : Nat} {q : Nat → Nat} {z : Nat × Nat} {I : rI} {R : rR} {M : mi_H} {mj x c : Nat} (hR : RS g m0 q z I R M) (hi53 : I 53 = some (nI mj))  (hmj : mj < 65536) (hx : x < 65536) (hc : ¬ aN c 512 = 0) : pt (mT g) 209 [.ref m0, .int (nI x), .int 0, .int 1] M (fun v M' => (v = some (.int (nI (fitN mj c x 0))) ∧ M = M')) := by
  refine pt_in (b := mb_209 g) rfl (fun kf => ?_)
  show pl (mT g) kf (mb_209 g).2 (0, [(0, .ref m0), (1, .int (nI x)), (2, .int 0), (3, .int 1)], [], M) _
  refine ps_st (S' := (1, [(0, .ref m0), (1, .int (nI x)), (2, .int 0), (3, .int 1)], [.int 0], M)) rfl rfl rfl ?_
  refine ps_if (S1 := (28, [(0, .ref m0), (1, .int (nI x)), (2, .int 0), (3, .int 1)], [], M)) (S2 := (4, [(0, .ref m0), (1, .int (nI x)), (2, .int 0), (3, .int 1)], [], M)) rfl rfl rfl (fun c_1 => ?_) (fun c_1 => ?_)
  rotate_left
  · exact absurd (by decide) (of_decide_eq_false c_1)
  refine ps_st (S' := (29, [(0, .ref m0), (1, .int (nI x)), (2, .int 0), (3, .int 1)], [.int (nI x)], M)) rfl rfl rfl ?_
  refine ps_st (S' := (32, [(0, .ref m0), (1, .int (nI x)), (2, .int 0), (3, .int 1)], [.int 1024, .int (nI x)], M)) rfl rfl rfl ?_
  refine ps_st (S' := (33, [(0, .ref m0), (1, .int (nI x)), (2, .int 0), (3, .int 1)], [.int ((nI x) &&& 1024)], M)) rfl rfl rfl ?_
  rw [nI_an (p := x) (k := 1024) (x := 1024) rfl]
  show pl _ _ _ (_, [(0, .ref m0), (1, .int (nI x)), (2, .int 0), (3, .int 1)], [.int (nI (aN x 1024))], M) _
  refine ps_if (S1 := (74, [(0, .ref m0), (1, .int (nI x)), (3, .int 1)], [], M)) (S2 := (36, [(0, .ref m0), (1, .int (nI x)), (2, .int 0), (3, .int 1)], [], M)) rfl rfl rfl (fun c_33 => ?_) (fun c_33 => ?_)
  · have c_33 : (nI (aN x 1024)) = 0 := of_decide_eq_true c_33
    have n_33 : aN x 1024 = 0 := (eq_nI (p := aN x 1024) (n := 0) (Nat.lt_of_le_of_lt (an_le _ _) (by decide)) (by decide)).mp c_33
    refine ps_st (S' := (75, [(0, .ref m0), (1, .int (nI x)), (3, .int 1)], [.int 0], M)) rfl rfl rfl ?_
    refine ps_st (S' := (77, [(4, .int 0), (0, .ref m0), (1, .int (nI x)), (3, .int 1)], [], M)) rfl rfl rfl ?_
    refine ps_st (S' := (78, [(4, .int 0), (0, .ref m0), (1, .int (nI x)), (3, .int 1)], [.int 1], M)) rfl rfl rfl ?_
    refine ps_if (S1 := (102, [(4, .int 0), (0, .ref m0), (1, .int (nI x)), (3, .int 1)], [], M)) (S2 := (81, [(4, .int 0), (0, .ref m0), (1, .int (nI x)), (3, .int 1)], [], M)) rfl rfl rfl (fun c_78 => ?_) (fun c_78 => ?_)
    rotate_left
    · exact absurd (by decide) (of_decide_eq_false c_78)
    refine ps_st (S' := (103, [(4, .int 0), (0, .ref m0), (1, .int (nI x)), (3, .int 1)], [.int (nI x)], M)) rfl rfl rfl ?_
    refine ps_st (S' := (106, [(4, .int 0), (0, .ref m0), (1, .int (nI x)), (3, .int 1)], [.int 308, .int (nI x)], M)) rfl rfl rfl ?_
    refine ps_st (S' := (107, [(4, .int 0), (0, .ref m0), (1, .int (nI x)), (3, .int 1)], [.int ((nI x) &&& 308)], M)) rfl rfl rfl ?_
    rw [nI_an (p := x) (k := 308) (x := 308) rfl]
    show pl _ _ _ (_, [(4, .int 0), (0, .ref m0), (1, .int (nI x)), (3, .int 1)], [.int (nI (aN x 308))], M) _
    refine ps_if (S1 := (112, [(4, .int 0), (0, .ref m0), (1, .int (nI x)), (3, .int 1)], [], M)) (S2 := (110, [(4, .int 0), (0, .ref m0), (1, .int (nI x)), (3, .int 1)], [], M)) rfl rfl rfl (fun c_107 => ?_) (fun c_107 => ?_)
    · have c_107 : (nI (aN x 308)) = 0 := of_decide_eq_true c_107
      have n_107 : aN x 308 = 0 := (eq_nI (p := aN x 308) (n := 0) (Nat.lt_of_le_of_lt (an_le _ _) (by decide)) (by decide)).mp c_107
      refine ps_st (S' := (113, [(4, .int 0), (0, .ref m0), (1, .int (nI x)), (3, .int 1)], [.ref m0], M)) rfl rfl rfl ?_
      refine pr_int (j := 53) (S' := (116, [(4, .int 0), (0, .ref m0), (1, .int (nI x)), (3, .int 1)], [.int (nI mj)], M)) rfl hR rfl hi53 rfl ?_
      refine ps_st (S' := (118, [(4, .int 0), (0, .ref m0), (1, .int (nI x)), (3, .int 1)], [.int 52, .int (nI mj)], M)) rfl rfl rfl ?_
      refine ps_if2 (S1 := (145, [(4, .int 0), (0, .ref m0), (1, .int (nI x)), (3, .int 1)], [], M)) (S2 := (121, [(4, .int 0), (0, .ref m0), (1, .int (nI x)), (3, .int 1)], [], M)) rfl rfl rfl (fun c_118 => ?_) (fun c_118 => ?_)
      · have c_118 : 52 ≤ (nI mj) := of_decide_eq_true c_118
        have n_118 : 52 ≤ mj := (le_nI (p := 52) (n := mj) (by decide) (by omega)).mp c_118
        refine ps_st (S' := (146, [(4, .int 0), (0, .ref m0), (1, .int (nI x)), (3, .int 1)], [.int (nI x)], M)) rfl rfl rfl ?_
        refine ps_st (S' := (147, [(4, .int 0), (0, .ref m0), (1, .int (nI x)), (3, .int 1)], [.int 1, .int (nI x)], M)) rfl rfl rfl ?_
        refine ps_st (S' := (148, [(4, .int 0), (0, .ref m0), (1, .int (nI x)), (3, .int 1)], [.int ((nI x) &&& 1)], M)) rfl rfl rfl ?_
        rw [nI_an (p := x) (k := 1) (x := 1) rfl]
        show pl _ _ _ (_, [(4, .int 0), (0, .ref m0), (1, .int (nI x)), (3, .int 1)], [.int (nI (aN x 1))], M) _
        refine ps_if (S1 := (155, [(4, .int 0), (0, .ref m0), (1, .int (nI x)), (3, .int 1)], [], M)) (S2 := (151, [(4, .int 0), (0, .ref m0), (1, .int (nI x)), (3, .int 1)], [], M)) rfl rfl rfl (fun c_148 => ?_) (fun c_148 => ?_)
        · have c_148 : (nI (aN x 1)) = 0 := of_decide_eq_true c_148
          have n_148 : aN x 1 = 0 := (eq_nI (p := aN x 1) (n := 0) (Nat.lt_of_le_of_lt (an_le _ _) (by decide)) (by decide)).mp c_148
          refine ps_st (S' := (156, [(1, .int (nI x)), (4, .int 0)], [.int 0], M)) rfl rfl rfl ?_
          refine ps_st (S' := (157, [(1, .int (nI x)), (4, .int 0)], [.int (nI x), .int 0], M)) rfl rfl rfl ?_
          refine ps_st (S' := (158, [(1, .int (nI x)), (4, .int 0)], [.int 2, .int (nI x), .int 0], M)) rfl rfl rfl ?_
          refine ps_st (S' := (159, [(1, .int (nI x)), (4, .int 0)], [.int ((nI x) &&& 2), .int 0], M)) rfl rfl rfl ?_
          rw [nI_an (p := x) (k := 2) (x := 2) rfl]
          show pl _ _ _ (_, [(1, .int (nI x)), (4, .int 0)], [.int (nI (aN x 2)), .int 0], M) _
          refine ps_if (S1 := (166, [(1, .int (nI x)), (4, .int 0)], [.int 0], M)) (S2 := (162, [(1, .int (nI x)), (4, .int 0)], [.int 0], M)) rfl rfl rfl (fun c_159 => ?_) (fun c_159 => ?_)
          · have c_159 : (nI (aN x 2)) = 0 := of_decide_eq_true c_159
            have n_159 : aN x 2 = 0 := (eq_nI (p := aN x 2) (n := 0) (Nat.lt_of_le_of_lt (an_le _ _) (by decide)) (by decide)).mp c_159
            refine ps_st (S' := (167, [(4, .int 0)], [.int 0, .int 0], M)) rfl rfl rfl ?_
            refine ps_if2 (S1 := (172, [(4, .int 0)], [], M)) (S2 := (170, [], [], M)) rfl rfl rfl (fun c_167 => ?_) (fun c_167 => ?_)
            · exact absurd (of_decide_eq_true c_167) (by decide)
            refine ps_st (S' := (171, [], [.int 0], M)) rfl rfl rfl ?_
            exact ps_ret rfl rfl (⟨congrArg (fun x => some (Value.int (nI x))) (show 0 = fitN mj c x 0 from by
                have e3 := has_0 x 1400
                have e4 := has_0 x 1024
                have e5 := has_0 c 512
                have e2 := sev_0 x
                have b1 := le1_one x
                have b2 := le1_imh mj x
                have hi : imhN mj x = 0 := (imh_0 mj x).mpr (by omega)
                unfold fitN
                first | ((repeat first | rw [if_pos (by omega)] | rw [if_neg (by omega)]) <;> first | rfl | omega) | ((repeat' split) <;> first | rfl | (exfalso; omega) | omega)), rfl⟩)
          · have c_159 : ¬ ((nI (aN x 2)) = 0) := of_decide_eq_false c_159
            have n_159 : ¬ (aN x 2 = 0) := fun h9 => c_159 ((eq_nI (p := aN x 2) (n := 0) (Nat.lt_of_le_of_lt (an_le _ _) (by decide)) (by decide)).mpr h9)
            refine ps_st (S' := (163, [(1, .int (nI x)), (4, .int 0)], [.int 1, .int 0], M)) rfl rfl rfl ?_
            refine ps_st (S' := (167, [(4, .int 0)], [.int 1, .int 0], M)) rfl rfl rfl ?_
            refine ps_if2 (S1 := (172, [(4, .int 0)], [], M)) (S2 := (170, [], [], M)) rfl rfl rfl (fun c_167 => ?_) (fun c_167 => ?_)
            rotate_left
            · exact absurd (by decide) (of_decide_eq_false c_167)
            refine ps_st (S' := (174, [(4, .int 0)], [.int 0], M)) rfl rfl rfl ?_
            refine ps_if (S1 := (181, [(4, .int 0)], [], M)) (S2 := (177, [(4, .int 0)], [], M)) rfl rfl rfl (fun c_174 => ?_) (fun c_174 => ?_)
            · exact absurd (of_decide_eq_true c_174) (by decide)
            refine ps_st (S' := (178, [(4, .int 0)], [.int 1], M)) rfl rfl rfl ?_
            refine ps_st (S' := (182, [], [.int 1], M)) rfl rfl rfl ?_
            exact ps_ret rfl rfl (⟨congrArg (fun x => some (Value.int (nI x))) (show 1 = fitN mj c x 0 from by
                have e3 := has_0 x 1400
                have e4 := has_0 x 1024
                have e5 := has_0 c 512
                have e2 := sev_0 x
                have b1 := le1_one x
                have b2 := le1_imh mj x
                have hi : ¬ imhN mj x = 0 := fun h => absurd ((imh_0 mj x).mp h) (by omega)
                unfold fitN
                first | ((repeat first | rw [if_pos (by omega)] | rw [if_neg (by omega)]) <;> first | rfl | omega) | ((repeat' split) <;> first | rfl | (exfalso; omega) | omega)), rfl⟩)
        · have c_148 : ¬ ((nI (aN x 1)) = 0) := of_decide_eq_false c_148
          have n_148 : ¬ (aN x 1 = 0) := fun h9 => c_148 ((eq_nI (p := aN x 1) (n := 0) (Nat.lt_of_le_of_lt (an_le _ _) (by decide)) (by decide)).mpr h9)
          refine ps_st (S' := (152, [(4, .int 0), (0, .ref m0), (1, .int (nI x)), (3, .int 1)], [.int 1], M)) rfl rfl rfl ?_
          refine ps_st (S' := (156, [(1, .int (nI x)), (4, .int 0)], [.int 1], M)) rfl rfl rfl ?_
          refine ps_st (S' := (157, [(1, .int (nI x)), (4, .int 0)], [.int (nI x), .int 1], M)) rfl rfl rfl ?_
          refine ps_st (S' := (158, [(1, .int (nI x)), (4, .int 0)], [.int 2, .int (nI x), .int 1], M)) rfl rfl rfl ?_
          refine ps_st (S' := (159, [(1, .int (nI x)), (4, .int 0)], [.int ((nI x) &&& 2), .int 1], M)) rfl rfl rfl ?_
          rw [nI_an (p := x) (k := 2) (x := 2) rfl]
          show pl _ _ _ (_, [(1, .int (nI x)), (4, .int 0)], [.int (nI (aN x 2)), .int 1], M) _
          refine ps_if (S1 := (166, [(1, .int (nI x)), (4, .int 0)], [.int 1], M)) (S2 := (162, [(1, .int (nI x)), (4, .int 0)], [.int 1], M)) rfl rfl rfl (fun c_159 => ?_) (fun c_159 => ?_)
          · have c_159 : (nI (aN x 2)) = 0 := of_decide_eq_true c_159
            have n_159 : aN x 2 = 0 := (eq_nI (p := aN x 2) (n := 0) (Nat.lt_of_le_of_lt (an_le _ _) (by decide)) (by decide)).mp c_159
            refine ps_st (S' := (167, [(4, .int 0)], [.int 0, .int 1], M)) rfl rfl rfl ?_
            refine ps_if2 (S1 := (172, [(4, .int 0)], [], M)) (S2 := (170, [], [], M)) rfl rfl rfl (fun c_167 => ?_) (fun c_167 => ?_)
            rotate_left
            · exact absurd (by decide) (of_decide_eq_false c_167)
            refine ps_st (S' := (174, [(4, .int 0)], [.int 0], M)) rfl rfl rfl ?_
            refine ps_if (S1 := (181, [(4, .int 0)], [], M)) (S2 := (177, [(4, .int 0)], [], M)) rfl rfl rfl (fun c_174 => ?_) (fun c_174 => ?_)
            · exact absurd (of_decide_eq_true c_174) (by decide)
            refine ps_st (S' := (178, [(4, .int 0)], [.int 1], M)) rfl rfl rfl ?_
            refine ps_st (S' := (182, [], [.int 1], M)) rfl rfl rfl ?_
            exact ps_ret rfl rfl (⟨congrArg (fun x => some (Value.int (nI x))) (show 1 = fitN mj c x 0 from by
                have e3 := has_0 x 1400
                have e4 := has_0 x 1024
                have e5 := has_0 c 512
                have e2 := sev_0 x
                have b1 := le1_one x
                have b2 := le1_imh mj x
                have hi : ¬ imhN mj x = 0 := fun h => absurd ((imh_0 mj x).mp h) (by omega)
                unfold fitN
                first | ((repeat first | rw [if_pos (by omega)] | rw [if_neg (by omega)]) <;> first | rfl | omega) | ((repeat' split) <;> first | rfl | (exfalso; omega) | omega)), rfl⟩)
          · have c_159 : ¬ ((nI (aN x 2)) = 0) := of_decide_eq_false c_159
            have n_159 : ¬ (aN x 2 = 0) := fun h9 => c_159 ((eq_nI (p := aN x 2) (n := 0) (Nat.lt_of_le_of_lt (an_le _ _) (by decide)) (by decide)).mpr h9)
            refine ps_st (S' := (163, [(1, .int (nI x)), (4, .int 0)], [.int 1, .int 1], M)) rfl rfl rfl ?_
            refine ps_st (S' := (167, [(4, .int 0)], [.int 1, .int 1], M)) rfl rfl rfl ?_
            refine ps_if2 (S1 := (172, [(4, .int 0)], [], M)) (S2 := (170, [], [], M)) rfl rfl rfl (fun c_167 => ?_) (fun c_167 => ?_)
            · exact absurd (of_decide_eq_true c_167) (by decide)
            refine ps_st (S' := (171, [], [.int 0], M)) rfl rfl rfl ?_
            exact ps_ret rfl rfl (⟨congrArg (fun x => some (Value.int (nI x))) (show 0 = fitN mj c x 0 from by
                have e3 := has_0 x 1400
                have e4 := has_0 x 1024
                have e5 := has_0 c 512
                have e2 := sev_0 x
                have b1 := le1_one x
                have b2 := le1_imh mj x
                have hi : imhN mj x = 0 := (imh_0 mj x).mpr (by omega)
                unfold fitN
                first | ((repeat first | rw [if_pos (by omega)] | rw [if_neg (by omega)]) <;> first | rfl | omega) | ((repeat' split) <;> first | rfl | (exfalso; omega) | omega)), rfl⟩)
      · have c_118 : ¬ (52 ≤ (nI mj)) := of_decide_eq_false c_118
        have n_118 : ¬ (52 ≤ mj) := fun h9 => c_118 ((le_nI (p := 52) (n := mj) (by decide) (by omega)).mpr h9)
        refine ps_st (S' := (122, [(4, .int 0), (0, .ref m0), (1, .int (nI x)), (3, .int 1)], [.int (nI x)], M)) rfl rfl rfl ?_
        refine ps_st (S' := (123, [(4, .int 0), (0, .ref m0), (1, .int (nI x)), (3, .int 1)], [.int 1, .int (nI x)], M)) rfl rfl rfl ?_
        refine ps_st (S' := (124, [(4, .int 0), (0, .ref m0), (1, .int (nI x)), (3, .int 1)], [.int ((nI x) &&& 1)], M)) rfl rfl rfl ?_
        rw [nI_an (p := x) (k := 1) (x := 1) rfl]
        show pl _ _ _ (_, [(4, .int 0), (0, .ref m0), (1, .int (nI x)), (3, .int 1)], [.int (nI (aN x 1))], M) _
        refine ps_if (S1 := (170, [], [], M)) (S2 := (127, [(4, .int 0), (0, .ref m0), (1, .int (nI x)), (3, .int 1)], [], M)) rfl rfl rfl (fun c_124 => ?_) (fun c_124 => ?_)
        · have c_124 : (nI (aN x 1)) = 0 := of_decide_eq_true c_124
          have n_124 : aN x 1 = 0 := (eq_nI (p := aN x 1) (n := 0) (Nat.lt_of_le_of_lt (an_le _ _) (by decide)) (by decide)).mp c_124
          refine ps_st (S' := (171, [], [.int 0], M)) rfl rfl rfl ?_
          exact ps_ret rfl rfl (⟨congrArg (fun x => some (Value.int (nI x))) (show 0 = fitN mj c x 0 from by
              have e3 := has_0 x 1400
              have e4 := has_0 x 1024
              have e5 := has_0 c 512
              have e2 := sev_0 x
              have b1 := le1_one x
              have b2 := le1_imh mj x
              have hi : imhN mj x = 0 := (imh_0 mj x).mpr (by omega)
              unfold fitN
              first | ((repeat first | rw [if_pos (by omega)] | rw [if_neg (by omega)]) <;> first | rfl | omega) | ((repeat' split) <;> first | rfl | (exfalso; omega) | omega)), rfl⟩)
        · have c_124 : ¬ ((nI (aN x 1)) = 0) := of_decide_eq_false c_124
          have n_124 : ¬ (aN x 1 = 0) := fun h9 => c_124 ((eq_nI (p := aN x 1) (n := 0) (Nat.lt_of_le_of_lt (an_le _ _) (by decide)) (by decide)).mpr h9)
          refine ps_st (S' := (128, [(4, .int 0), (0, .ref m0), (1, .int (nI x)), (3, .int 1)], [.int (nI x)], M)) rfl rfl rfl ?_
          refine ps_st (S' := (131, [(4, .int 0), (0, .ref m0), (1, .int (nI x)), (3, .int 1)], [.int 1024, .int (nI x)], M)) rfl rfl rfl ?_
          refine ps_st (S' := (132, [(4, .int 0), (0, .ref m0), (1, .int (nI x)), (3, .int 1)], [.int ((nI x) &&& 1024)], M)) rfl rfl rfl ?_
          rw [nI_an (p := x) (k := 1024) (x := 1024) rfl]
          show pl _ _ _ (_, [(4, .int 0), (0, .ref m0), (1, .int (nI x)), (3, .int 1)], [.int (nI (aN x 1024))], M) _
          refine ps_if (S1 := (170, [], [], M)) (S2 := (135, [(4, .int 0), (0, .ref m0), (1, .int (nI x)), (3, .int 1)], [], M)) rfl rfl rfl (fun c_132 => ?_) (fun c_132 => ?_)
          rotate_left
          · exact absurd ((eq_nI (p := aN x 1024) (n := 0) (Nat.lt_of_le_of_lt (an_le _ _) (by decide)) (by decide)).mpr (by omega)) (of_decide_eq_false c_132)
          refine ps_st (S' := (171, [], [.int 0], M)) rfl rfl rfl ?_
          exact ps_ret rfl rfl (⟨congrArg (fun x => some (Value.int (nI x))) (show 0 = fitN mj c x 0 from by
              have e3 := has_0 x 1400
              have e4 := has_0 x 1024
              have e5 := has_0 c 512
              have e2 := sev_0 x
              have b1 := le1_one x
              have b2 := le1_imh mj x
              have hi : imhN mj x = 0 := (imh_0 mj x).mpr (by omega)
              unfold fitN
              first | ((repeat first | rw [if_pos (by omega)] | rw [if_neg (by omega)]) <;> first | rfl | omega) | ((repeat' split) <;> first | rfl | (exfalso; omega) | omega)), rfl⟩)
    · have c_107 : ¬ ((nI (aN x 308)) = 0) := of_decide_eq_false c_107
      have n_107 : ¬ (aN x 308 = 0) := fun h9 => c_107 ((eq_nI (p := aN x 308) (n := 0) (Nat.lt_of_le_of_lt (an_le _ _) (by decide)) (by decide)).mpr h9)
      refine ps_st (S' := (111, [(4, .int 0), (0, .ref m0), (1, .int (nI x)), (3, .int 1)], [.int 0], M)) rfl rfl rfl ?_
      exact ps_ret rfl rfl (⟨congrArg (fun x => some (Value.int (nI x))) (show 0 = fitN mj c x 0 from by
          have e3 := has_0 x 1400
          have e4 := has_0 x 1024
          have e5 := has_0 c 512
          have e2 := sev_0 x
          have b1 := le1_one x
          have b2 := le1_imh mj x
          have hi : imhN mj x = 0 := (imh_0 mj x).mpr (by omega)
          unfold fitN
          first | ((repeat first | rw [if_pos (by omega)] | rw [if_neg (by omega)]) <;> first | rfl | omega) | ((repeat' split) <;> first | rfl | (exfalso; omega) | omega)), rfl⟩)
  · have c_33 : ¬ ((nI (aN x 1024)) = 0) := of_decide_eq_false c_33
    have n_33 : ¬ (aN x 1024 = 0) := fun h9 => c_33 ((eq_nI (p := aN x 1024) (n := 0) (Nat.lt_of_le_of_lt (an_le _ _) (by decide)) (by decide)).mpr h9)
    refine ps_st (S' := (37, [(0, .ref m0), (1, .int (nI x)), (2, .int 0), (3, .int 1)], [.int (nI x)], M)) rfl rfl rfl ?_
    refine ps_st (S' := (40, [(0, .ref m0), (1, .int (nI x)), (2, .int 0), (3, .int 1)], [.int 314, .int (nI x)], M)) rfl rfl rfl ?_
    refine ps_st (S' := (41, [(0, .ref m0), (1, .int (nI x)), (2, .int 0), (3, .int 1)], [.int ((nI x) &&& 314)], M)) rfl rfl rfl ?_
    rw [nI_an (p := x) (k := 314) (x := 314) rfl]
    show pl _ _ _ (_, [(0, .ref m0), (1, .int (nI x)), (2, .int 0), (3, .int 1)], [.int (nI (aN x 314))], M) _
    refine ps_if (S1 := (70, [(0, .ref m0), (1, .int (nI x)), (3, .int 1)], [], M)) (S2 := (44, [(0, .ref m0), (1, .int (nI x)), (2, .int 0), (3, .int 1)], [], M)) rfl rfl rfl (fun c_41 => ?_) (fun c_41 => ?_)
    · have c_41 : ¬ (nI (aN x 314)) = 0 := of_decide_eq_true c_41
      have n_41 : ¬ (aN x 314 = 0) := fun h9 => c_41 ((eq_nI (p := aN x 314) (n := 0) (Nat.lt_of_le_of_lt (an_le _ _) (by decide)) (by decide)).mpr h9)
      refine ps_st (S' := (71, [(0, .ref m0), (1, .int (nI x)), (3, .int 1)], [.int 1], M)) rfl rfl rfl ?_
      refine ps_st (S' := (75, [(0, .ref m0), (1, .int (nI x)), (3, .int 1)], [.int 1], M)) rfl rfl rfl ?_
      refine ps_st (S' := (77, [(4, .int 1), (0, .ref m0), (1, .int (nI x)), (3, .int 1)], [], M)) rfl rfl rfl ?_
      refine ps_st (S' := (78, [(4, .int 1), (0, .ref m0), (1, .int (nI x)), (3, .int 1)], [.int 1], M)) rfl rfl rfl ?_
      refine ps_if (S1 := (102, [(4, .int 1), (0, .ref m0), (1, .int (nI x)), (3, .int 1)], [], M)) (S2 := (81, [(4, .int 1), (0, .ref m0), (1, .int (nI x)), (3, .int 1)], [], M)) rfl rfl rfl (fun c_78 => ?_) (fun c_78 => ?_)
      rotate_left
      · exact absurd (by decide) (of_decide_eq_false c_78)
      refine ps_st (S' := (103, [(4, .int 1), (0, .ref m0), (1, .int (nI x)), (3, .int 1)], [.int (nI x)], M)) rfl rfl rfl ?_
      refine ps_st (S' := (106, [(4, .int 1), (0, .ref m0), (1, .int (nI x)), (3, .int 1)], [.int 308, .int (nI x)], M)) rfl rfl rfl ?_
      refine ps_st (S' := (107, [(4, .int 1), (0, .ref m0), (1, .int (nI x)), (3, .int 1)], [.int ((nI x) &&& 308)], M)) rfl rfl rfl ?_
      rw [nI_an (p := x) (k := 308) (x := 308) rfl]
      show pl _ _ _ (_, [(4, .int 1), (0, .ref m0), (1, .int (nI x)), (3, .int 1)], [.int (nI (aN x 308))], M) _
      refine ps_if (S1 := (112, [(4, .int 1), (0, .ref m0), (1, .int (nI x)), (3, .int 1)], [], M)) (S2 := (110, [(4, .int 1), (0, .ref m0), (1, .int (nI x)), (3, .int 1)], [], M)) rfl rfl rfl (fun c_107 => ?_) (fun c_107 => ?_)
      · have c_107 : (nI (aN x 308)) = 0 := of_decide_eq_true c_107
        have n_107 : aN x 308 = 0 := (eq_nI (p := aN x 308) (n := 0) (Nat.lt_of_le_of_lt (an_le _ _) (by decide)) (by decide)).mp c_107
        refine ps_st (S' := (113, [(4, .int 1), (0, .ref m0), (1, .int (nI x)), (3, .int 1)], [.ref m0], M)) rfl rfl rfl ?_
        refine pr_int (j := 53) (S' := (116, [(4, .int 1), (0, .ref m0), (1, .int (nI x)), (3, .int 1)], [.int (nI mj)], M)) rfl hR rfl hi53 rfl ?_
        refine ps_st (S' := (118, [(4, .int 1), (0, .ref m0), (1, .int (nI x)), (3, .int 1)], [.int 52, .int (nI mj)], M)) rfl rfl rfl ?_
        refine ps_if2 (S1 := (145, [(4, .int 1), (0, .ref m0), (1, .int (nI x)), (3, .int 1)], [], M)) (S2 := (121, [(4, .int 1), (0, .ref m0), (1, .int (nI x)), (3, .int 1)], [], M)) rfl rfl rfl (fun c_118 => ?_) (fun c_118 => ?_)
        · have c_118 : 52 ≤ (nI mj) := of_decide_eq_true c_118
          have n_118 : 52 ≤ mj := (le_nI (p := 52) (n := mj) (by decide) (by omega)).mp c_118
          refine ps_st (S' := (146, [(4, .int 1), (0, .ref m0), (1, .int (nI x)), (3, .int 1)], [.int (nI x)], M)) rfl rfl rfl ?_
          refine ps_st (S' := (147, [(4, .int 1), (0, .ref m0), (1, .int (nI x)), (3, .int 1)], [.int 1, .int (nI x)], M)) rfl rfl rfl ?_
          refine ps_st (S' := (148, [(4, .int 1), (0, .ref m0), (1, .int (nI x)), (3, .int 1)], [.int ((nI x) &&& 1)], M)) rfl rfl rfl ?_
          rw [nI_an (p := x) (k := 1) (x := 1) rfl]
          show pl _ _ _ (_, [(4, .int 1), (0, .ref m0), (1, .int (nI x)), (3, .int 1)], [.int (nI (aN x 1))], M) _
          refine ps_if (S1 := (155, [(4, .int 1), (0, .ref m0), (1, .int (nI x)), (3, .int 1)], [], M)) (S2 := (151, [(4, .int 1), (0, .ref m0), (1, .int (nI x)), (3, .int 1)], [], M)) rfl rfl rfl (fun c_148 => ?_) (fun c_148 => ?_)
          · have c_148 : (nI (aN x 1)) = 0 := of_decide_eq_true c_148
            have n_148 : aN x 1 = 0 := (eq_nI (p := aN x 1) (n := 0) (Nat.lt_of_le_of_lt (an_le _ _) (by decide)) (by decide)).mp c_148
            refine ps_st (S' := (156, [(1, .int (nI x)), (4, .int 1)], [.int 0], M)) rfl rfl rfl ?_
            refine ps_st (S' := (157, [(1, .int (nI x)), (4, .int 1)], [.int (nI x), .int 0], M)) rfl rfl rfl ?_
            refine ps_st (S' := (158, [(1, .int (nI x)), (4, .int 1)], [.int 2, .int (nI x), .int 0], M)) rfl rfl rfl ?_
            refine ps_st (S' := (159, [(1, .int (nI x)), (4, .int 1)], [.int ((nI x) &&& 2), .int 0], M)) rfl rfl rfl ?_
            rw [nI_an (p := x) (k := 2) (x := 2) rfl]
            show pl _ _ _ (_, [(1, .int (nI x)), (4, .int 1)], [.int (nI (aN x 2)), .int 0], M) _
            refine ps_if (S1 := (166, [(1, .int (nI x)), (4, .int 1)], [.int 0], M)) (S2 := (162, [(1, .int (nI x)), (4, .int 1)], [.int 0], M)) rfl rfl rfl (fun c_159 => ?_) (fun c_159 => ?_)
            · have c_159 : (nI (aN x 2)) = 0 := of_decide_eq_true c_159
              have n_159 : aN x 2 = 0 := (eq_nI (p := aN x 2) (n := 0) (Nat.lt_of_le_of_lt (an_le _ _) (by decide)) (by decide)).mp c_159
              refine ps_st (S' := (167, [(4, .int 1)], [.int 0, .int 0], M)) rfl rfl rfl ?_
              refine ps_if2 (S1 := (172, [(4, .int 1)], [], M)) (S2 := (170, [], [], M)) rfl rfl rfl (fun c_167 => ?_) (fun c_167 => ?_)
              · exact absurd (of_decide_eq_true c_167) (by decide)
              refine ps_st (S' := (171, [], [.int 0], M)) rfl rfl rfl ?_
              exact ps_ret rfl rfl (⟨congrArg (fun x => some (Value.int (nI x))) (show 0 = fitN mj c x 0 from by
                  have e3 := has_0 x 1400
                  have e4 := has_0 x 1024
                  have e5 := has_0 c 512
                  have e2 := sev_0 x
                  have b1 := le1_one x
                  have ha : absN mj x = 0 := (abs_0 mj x).mpr (by omega)
                  have b2 := le1_imh mj x
                  have hi : imhN mj x = 0 := (imh_0 mj x).mpr (by omega)
                  unfold fitN
                  first | ((repeat first | rw [if_pos (by omega)] | rw [if_neg (by omega)]) <;> first | rfl | omega) | ((repeat' split) <;> first | rfl | (exfalso; omega) | omega)), rfl⟩)
            · have c_159 : ¬ ((nI (aN x 2)) = 0) := of_decide_eq_false c_159
              have n_159 : ¬ (aN x 2 = 0) := fun h9 => c_159 ((eq_nI (p := aN x 2) (n := 0) (Nat.lt_of_le_of_lt (an_le _ _) (by decide)) (by decide)).mpr h9)
              refine ps_st (S' := (163, [(1, .int (nI x)), (4, .int 1)], [.int 1, .int 0], M)) rfl rfl rfl ?_
              refine ps_st (S' := (167, [(4, .int 1)], [.int 1, .int 0], M)) rfl rfl rfl ?_
              refine ps_if2 (S1 := (172, [(4, .int 1)], [], M)) (S2 := (170, [], [], M)) rfl rfl rfl (fun c_167 => ?_) (fun c_167 => ?_)
              rotate_left
              · exact absurd (by decide) (of_decide_eq_false c_167)
              refine ps_st (S' := (174, [(4, .int 1)], [.int 1], M)) rfl rfl rfl ?_
              refine ps_if (S1 := (181, [(4, .int 1)], [], M)) (S2 := (177, [(4, .int 1)], [], M)) rfl rfl rfl (fun c_174 => ?_) (fun c_174 => ?_)
              rotate_left
              · exact absurd (by decide) (of_decide_eq_false c_174)
              refine ps_st (S' := (182, [], [.int 0], M)) rfl rfl rfl ?_
              exact ps_ret rfl rfl (⟨congrArg (fun x => some (Value.int (nI x))) (show 0 = fitN mj c x 0 from by
                  have e3 := has_0 x 1400
                  have e4 := has_0 x 1024
                  have e5 := has_0 c 512
                  have e2 := sev_0 x
                  have b1 := le1_one x
                  have ha : absN mj x = 0 := (abs_0 mj x).mpr (by omega)
                  have b2 := le1_imh mj x
                  have hi : ¬ imhN mj x = 0 := fun h => absurd ((imh_0 mj x).mp h) (by omega)
                  unfold fitN
                  first | ((repeat first | rw [if_pos (by omega)] | rw [if_neg (by omega)]) <;> first | rfl | omega) | ((repeat' split) <;> first | rfl | (exfalso; omega) | omega)), rfl⟩)
          · have c_148 : ¬ ((nI (aN x 1)) = 0) := of_decide_eq_false c_148
            have n_148 : ¬ (aN x 1 = 0) := fun h9 => c_148 ((eq_nI (p := aN x 1) (n := 0) (Nat.lt_of_le_of_lt (an_le _ _) (by decide)) (by decide)).mpr h9)
            refine ps_st (S' := (152, [(4, .int 1), (0, .ref m0), (1, .int (nI x)), (3, .int 1)], [.int 1], M)) rfl rfl rfl ?_
            refine ps_st (S' := (156, [(1, .int (nI x)), (4, .int 1)], [.int 1], M)) rfl rfl rfl ?_
            refine ps_st (S' := (157, [(1, .int (nI x)), (4, .int 1)], [.int (nI x), .int 1], M)) rfl rfl rfl ?_
            refine ps_st (S' := (158, [(1, .int (nI x)), (4, .int 1)], [.int 2, .int (nI x), .int 1], M)) rfl rfl rfl ?_
            refine ps_st (S' := (159, [(1, .int (nI x)), (4, .int 1)], [.int ((nI x) &&& 2), .int 1], M)) rfl rfl rfl ?_
            rw [nI_an (p := x) (k := 2) (x := 2) rfl]
            show pl _ _ _ (_, [(1, .int (nI x)), (4, .int 1)], [.int (nI (aN x 2)), .int 1], M) _
            refine ps_if (S1 := (166, [(1, .int (nI x)), (4, .int 1)], [.int 1], M)) (S2 := (162, [(1, .int (nI x)), (4, .int 1)], [.int 1], M)) rfl rfl rfl (fun c_159 => ?_) (fun c_159 => ?_)
            · have c_159 : (nI (aN x 2)) = 0 := of_decide_eq_true c_159
              have n_159 : aN x 2 = 0 := (eq_nI (p := aN x 2) (n := 0) (Nat.lt_of_le_of_lt (an_le _ _) (by decide)) (by decide)).mp c_159
              refine ps_st (S' := (167, [(4, .int 1)], [.int 0, .int 1], M)) rfl rfl rfl ?_
              refine ps_if2 (S1 := (172, [(4, .int 1)], [], M)) (S2 := (170, [], [], M)) rfl rfl rfl (fun c_167 => ?_) (fun c_167 => ?_)
              rotate_left
              · exact absurd (by decide) (of_decide_eq_false c_167)
              refine ps_st (S' := (174, [(4, .int 1)], [.int 1], M)) rfl rfl rfl ?_
              refine ps_if (S1 := (181, [(4, .int 1)], [], M)) (S2 := (177, [(4, .int 1)], [], M)) rfl rfl rfl (fun c_174 => ?_) (fun c_174 => ?_)
              rotate_left
              · exact absurd (by decide) (of_decide_eq_false c_174)
              refine ps_st (S' := (182, [], [.int 0], M)) rfl rfl rfl ?_
              exact ps_ret rfl rfl (⟨congrArg (fun x => some (Value.int (nI x))) (show 0 = fitN mj c x 0 from by
                  have e3 := has_0 x 1400
                  have e4 := has_0 x 1024
                  have e5 := has_0 c 512
                  have e2 := sev_0 x
                  have b1 := le1_one x
                  have ha : absN mj x = 0 := (abs_0 mj x).mpr (by omega)
                  have b2 := le1_imh mj x
                  have hi : ¬ imhN mj x = 0 := fun h => absurd ((imh_0 mj x).mp h) (by omega)
                  unfold fitN
                  first | ((repeat first | rw [if_pos (by omega)] | rw [if_neg (by omega)]) <;> first | rfl | omega) | ((repeat' split) <;> first | rfl | (exfalso; omega) | omega)), rfl⟩)
            · have c_159 : ¬ ((nI (aN x 2)) = 0) := of_decide_eq_false c_159
              have n_159 : ¬ (aN x 2 = 0) := fun h9 => c_159 ((eq_nI (p := aN x 2) (n := 0) (Nat.lt_of_le_of_lt (an_le _ _) (by decide)) (by decide)).mpr h9)
              refine ps_st (S' := (163, [(1, .int (nI x)), (4, .int 1)], [.int 1, .int 1], M)) rfl rfl rfl ?_
              refine ps_st (S' := (167, [(4, .int 1)], [.int 1, .int 1], M)) rfl rfl rfl ?_
              refine ps_if2 (S1 := (172, [(4, .int 1)], [], M)) (S2 := (170, [], [], M)) rfl rfl rfl (fun c_167 => ?_) (fun c_167 => ?_)
              · exact absurd (of_decide_eq_true c_167) (by decide)
              refine ps_st (S' := (171, [], [.int 0], M)) rfl rfl rfl ?_
              exact ps_ret rfl rfl (⟨congrArg (fun x => some (Value.int (nI x))) (show 0 = fitN mj c x 0 from by
                  have e3 := has_0 x 1400
                  have e4 := has_0 x 1024
                  have e5 := has_0 c 512
                  have e2 := sev_0 x
                  have b1 := le1_one x
                  have ha : absN mj x = 0 := (abs_0 mj x).mpr (by omega)
                  have b2 := le1_imh mj x
                  have hi : imhN mj x = 0 := (imh_0 mj x).mpr (by omega)
                  unfold fitN
                  first | ((repeat first | rw [if_pos (by omega)] | rw [if_neg (by omega)]) <;> first | rfl | omega) | ((repeat' split) <;> first | rfl | (exfalso; omega) | omega)), rfl⟩)
        · have c_118 : ¬ (52 ≤ (nI mj)) := of_decide_eq_false c_118
          have n_118 : ¬ (52 ≤ mj) := fun h9 => c_118 ((le_nI (p := 52) (n := mj) (by decide) (by omega)).mpr h9)
          refine ps_st (S' := (122, [(4, .int 1), (0, .ref m0), (1, .int (nI x)), (3, .int 1)], [.int (nI x)], M)) rfl rfl rfl ?_
          refine ps_st (S' := (123, [(4, .int 1), (0, .ref m0), (1, .int (nI x)), (3, .int 1)], [.int 1, .int (nI x)], M)) rfl rfl rfl ?_
          refine ps_st (S' := (124, [(4, .int 1), (0, .ref m0), (1, .int (nI x)), (3, .int 1)], [.int ((nI x) &&& 1)], M)) rfl rfl rfl ?_
          rw [nI_an (p := x) (k := 1) (x := 1) rfl]
          show pl _ _ _ (_, [(4, .int 1), (0, .ref m0), (1, .int (nI x)), (3, .int 1)], [.int (nI (aN x 1))], M) _
          refine ps_if (S1 := (170, [], [], M)) (S2 := (127, [(4, .int 1), (0, .ref m0), (1, .int (nI x)), (3, .int 1)], [], M)) rfl rfl rfl (fun c_124 => ?_) (fun c_124 => ?_)
          · have c_124 : (nI (aN x 1)) = 0 := of_decide_eq_true c_124
            have n_124 : aN x 1 = 0 := (eq_nI (p := aN x 1) (n := 0) (Nat.lt_of_le_of_lt (an_le _ _) (by decide)) (by decide)).mp c_124
            refine ps_st (S' := (171, [], [.int 0], M)) rfl rfl rfl ?_
            exact ps_ret rfl rfl (⟨congrArg (fun x => some (Value.int (nI x))) (show 0 = fitN mj c x 0 from by
                have e3 := has_0 x 1400
                have e4 := has_0 x 1024
                have e5 := has_0 c 512
                have e2 := sev_0 x
                have b1 := le1_one x
                have ha : absN mj x = 0 := (abs_0 mj x).mpr (by omega)
                have b2 := le1_imh mj x
                have hi : imhN mj x = 0 := (imh_0 mj x).mpr (by omega)
                unfold fitN
                first | ((repeat first | rw [if_pos (by omega)] | rw [if_neg (by omega)]) <;> first | rfl | omega) | ((repeat' split) <;> first | rfl | (exfalso; omega) | omega)), rfl⟩)
          · have c_124 : ¬ ((nI (aN x 1)) = 0) := of_decide_eq_false c_124
            have n_124 : ¬ (aN x 1 = 0) := fun h9 => c_124 ((eq_nI (p := aN x 1) (n := 0) (Nat.lt_of_le_of_lt (an_le _ _) (by decide)) (by decide)).mpr h9)
            refine ps_st (S' := (128, [(4, .int 1), (0, .ref m0), (1, .int (nI x)), (3, .int 1)], [.int (nI x)], M)) rfl rfl rfl ?_
            refine ps_st (S' := (131, [(4, .int 1), (0, .ref m0), (1, .int (nI x)), (3, .int 1)], [.int 1024, .int (nI x)], M)) rfl rfl rfl ?_
            refine ps_st (S' := (132, [(4, .int 1), (0, .ref m0), (1, .int (nI x)), (3, .int 1)], [.int ((nI x) &&& 1024)], M)) rfl rfl rfl ?_
            rw [nI_an (p := x) (k := 1024) (x := 1024) rfl]
            show pl _ _ _ (_, [(4, .int 1), (0, .ref m0), (1, .int (nI x)), (3, .int 1)], [.int (nI (aN x 1024))], M) _
            refine ps_if (S1 := (170, [], [], M)) (S2 := (135, [(4, .int 1), (0, .ref m0), (1, .int (nI x)), (3, .int 1)], [], M)) rfl rfl rfl (fun c_132 => ?_) (fun c_132 => ?_)
            · exact absurd (of_decide_eq_true c_132) (show ¬ ((nI (aN x 1024)) = 0) from fun h9 => absurd ((eq_nI (p := aN x 1024) (n := 0) (Nat.lt_of_le_of_lt (an_le _ _) (by decide)) (by decide)).mp h9) (by omega))
            refine ps_st (S' := (136, [(4, .int 1), (0, .ref m0), (1, .int (nI x)), (3, .int 1)], [.int (nI x)], M)) rfl rfl rfl ?_
            refine ps_st (S' := (138, [(4, .int 1), (0, .ref m0), (1, .int (nI x)), (3, .int 1)], [.int 8, .int (nI x)], M)) rfl rfl rfl ?_
            refine ps_st (S' := (139, [(4, .int 1), (0, .ref m0), (1, .int (nI x)), (3, .int 1)], [.int ((nI x) &&& 8)], M)) rfl rfl rfl ?_
            rw [nI_an (p := x) (k := 8) (x := 8) rfl]
            show pl _ _ _ (_, [(4, .int 1), (0, .ref m0), (1, .int (nI x)), (3, .int 1)], [.int (nI (aN x 8))], M) _
            refine ps_if (S1 := (172, [(4, .int 1)], [], M)) (S2 := (142, [(4, .int 1), (0, .ref m0), (1, .int (nI x)), (3, .int 1)], [], M)) rfl rfl rfl (fun c_139 => ?_) (fun c_139 => ?_)
            · have c_139 : (nI (aN x 8)) = 0 := of_decide_eq_true c_139
              have n_139 : aN x 8 = 0 := (eq_nI (p := aN x 8) (n := 0) (Nat.lt_of_le_of_lt (an_le _ _) (by decide)) (by decide)).mp c_139
              refine ps_st (S' := (174, [(4, .int 1)], [.int 1], M)) rfl rfl rfl ?_
              refine ps_if (S1 := (181, [(4, .int 1)], [], M)) (S2 := (177, [(4, .int 1)], [], M)) rfl rfl rfl (fun c_174 => ?_) (fun c_174 => ?_)
              rotate_left
              · exact absurd (by decide) (of_decide_eq_false c_174)
              refine ps_st (S' := (182, [], [.int 0], M)) rfl rfl rfl ?_
              exact ps_ret rfl rfl (⟨congrArg (fun x => some (Value.int (nI x))) (show 0 = fitN mj c x 0 from by
                  have e3 := has_0 x 1400
                  have e4 := has_0 x 1024
                  have e5 := has_0 c 512
                  have e2 := sev_0 x
                  have b1 := le1_one x
                  have ha : absN mj x = 0 := (abs_0 mj x).mpr (by omega)
                  have b2 := le1_imh mj x
                  have hi : ¬ imhN mj x = 0 := fun h => absurd ((imh_0 mj x).mp h) (by omega)
                  unfold fitN
                  first | ((repeat first | rw [if_pos (by omega)] | rw [if_neg (by omega)]) <;> first | rfl | omega) | ((repeat' split) <;> first | rfl | (exfalso; omega) | omega)), rfl⟩)
            · have c_139 : ¬ ((nI (aN x 8)) = 0) := of_decide_eq_false c_139
              have n_139 : ¬ (aN x 8 = 0) := fun h9 => c_139 ((eq_nI (p := aN x 8) (n := 0) (Nat.lt_of_le_of_lt (an_le _ _) (by decide)) (by decide)).mpr h9)
              refine ps_st (S' := (170, [], [], M)) rfl rfl rfl ?_
              refine ps_st (S' := (171, [], [.int 0], M)) rfl rfl rfl ?_
              exact ps_ret rfl rfl (⟨congrArg (fun x => some (Value.int (nI x))) (show 0 = fitN mj c x 0 from by
                  have e3 := has_0 x 1400
                  have e4 := has_0 x 1024
                  have e5 := has_0 c 512
                  have e2 := sev_0 x
                  have b1 := le1_one x
                  have ha : absN mj x = 0 := (abs_0 mj x).mpr (by omega)
                  have b2 := le1_imh mj x
                  have hi : imhN mj x = 0 := (imh_0 mj x).mpr (by omega)
                  unfold fitN
                  first | ((repeat first | rw [if_pos (by omega)] | rw [if_neg (by omega)]) <;> first | rfl | omega) | ((repeat' split) <;> first | rfl | (exfalso; omega) | omega)), rfl⟩)
      · have c_107 : ¬ ((nI (aN x 308)) = 0) := of_decide_eq_false c_107
        have n_107 : ¬ (aN x 308 = 0) := fun h9 => c_107 ((eq_nI (p := aN x 308) (n := 0) (Nat.lt_of_le_of_lt (an_le _ _) (by decide)) (by decide)).mpr h9)
        refine ps_st (S' := (111, [(4, .int 1), (0, .ref m0), (1, .int (nI x)), (3, .int 1)], [.int 0], M)) rfl rfl rfl ?_
        exact ps_ret rfl rfl (⟨congrArg (fun x => some (Value.int (nI x))) (show 0 = fitN mj c x 0 from by
            have e3 := has_0 x 1400
            have e4 := has_0 x 1024
            have e5 := has_0 c 512
            have e2 := sev_0 x
            have b1 := le1_one x
            have ha : absN mj x = 0 := (abs_0 mj x).mpr (by omega)
            have b2 := le1_imh mj x
            have hi : imhN mj x = 0 := (imh_0 mj x).mpr (by omega)
            unfold fitN
            first | ((repeat first | rw [if_pos (by omega)] | rw [if_neg (by omega)]) <;> first | rfl | omega) | ((repeat' split) <;> first | rfl | (exfalso; omega) | omega)), rfl⟩)
    · have c_41 : ¬ (¬ (nI (aN x 314)) = 0) := of_decide_eq_false c_41
      have n_41 : aN x 314 = 0 := (eq_nI (p := aN x 314) (n := 0) (Nat.lt_of_le_of_lt (an_le _ _) (by decide)) (by decide)).mp (Decidable.not_not.mp c_41)
      refine ps_st (S' := (45, [(0, .ref m0), (1, .int (nI x)), (2, .int 0), (3, .int 1)], [.ref m0], M)) rfl rfl rfl ?_
      refine pr_int (j := 53) (S' := (48, [(0, .ref m0), (1, .int (nI x)), (2, .int 0), (3, .int 1)], [.int (nI mj)], M)) rfl hR rfl hi53 rfl ?_
      refine ps_st (S' := (50, [(0, .ref m0), (1, .int (nI x)), (2, .int 0), (3, .int 1)], [.int 46, .int (nI mj)], M)) rfl rfl rfl ?_
      refine ps_if2 (S1 := (74, [(0, .ref m0), (1, .int (nI x)), (3, .int 1)], [], M)) (S2 := (53, [(0, .ref m0), (1, .int (nI x)), (2, .int 0), (3, .int 1)], [], M)) rfl rfl rfl (fun c_50 => ?_) (fun c_50 => ?_)
      · have c_50 : (nI mj) < 46 := of_decide_eq_true c_50
        have n_50 : mj < 46 := (lt_nI (p := mj) (n := 46) (by omega) (by decide)).mp c_50
        refine ps_st (S' := (75, [(0, .ref m0), (1, .int (nI x)), (3, .int 1)], [.int 0], M)) rfl rfl rfl ?_
        refine ps_st (S' := (77, [(4, .int 0), (0, .ref m0), (1, .int (nI x)), (3, .int 1)], [], M)) rfl rfl rfl ?_
        refine ps_st (S' := (78, [(4, .int 0), (0, .ref m0), (1, .int (nI x)), (3, .int 1)], [.int 1], M)) rfl rfl rfl ?_
        refine ps_if (S1 := (102, [(4, .int 0), (0, .ref m0), (1, .int (nI x)), (3, .int 1)], [], M)) (S2 := (81, [(4, .int 0), (0, .ref m0), (1, .int (nI x)), (3, .int 1)], [], M)) rfl rfl rfl (fun c_78 => ?_) (fun c_78 => ?_)
        rotate_left
        · exact absurd (by decide) (of_decide_eq_false c_78)
        refine ps_st (S' := (103, [(4, .int 0), (0, .ref m0), (1, .int (nI x)), (3, .int 1)], [.int (nI x)], M)) rfl rfl rfl ?_
        refine ps_st (S' := (106, [(4, .int 0), (0, .ref m0), (1, .int (nI x)), (3, .int 1)], [.int 308, .int (nI x)], M)) rfl rfl rfl ?_
        refine ps_st (S' := (107, [(4, .int 0), (0, .ref m0), (1, .int (nI x)), (3, .int 1)], [.int ((nI x) &&& 308)], M)) rfl rfl rfl ?_
        rw [nI_an (p := x) (k := 308) (x := 308) rfl]
        show pl _ _ _ (_, [(4, .int 0), (0, .ref m0), (1, .int (nI x)), (3, .int 1)], [.int (nI (aN x 308))], M) _
        refine ps_if (S1 := (112, [(4, .int 0), (0, .ref m0), (1, .int (nI x)), (3, .int 1)], [], M)) (S2 := (110, [(4, .int 0), (0, .ref m0), (1, .int (nI x)), (3, .int 1)], [], M)) rfl rfl rfl (fun c_107 => ?_) (fun c_107 => ?_)
        · have c_107 : (nI (aN x 308)) = 0 := of_decide_eq_true c_107
          have n_107 : aN x 308 = 0 := (eq_nI (p := aN x 308) (n := 0) (Nat.lt_of_le_of_lt (an_le _ _) (by decide)) (by decide)).mp c_107
          refine ps_st (S' := (113, [(4, .int 0), (0, .ref m0), (1, .int (nI x)), (3, .int 1)], [.ref m0], M)) rfl rfl rfl ?_
          refine pr_int (j := 53) (S' := (116, [(4, .int 0), (0, .ref m0), (1, .int (nI x)), (3, .int 1)], [.int (nI mj)], M)) rfl hR rfl hi53 rfl ?_
          refine ps_st (S' := (118, [(4, .int 0), (0, .ref m0), (1, .int (nI x)), (3, .int 1)], [.int 52, .int (nI mj)], M)) rfl rfl rfl ?_
          refine ps_if2 (S1 := (145, [(4, .int 0), (0, .ref m0), (1, .int (nI x)), (3, .int 1)], [], M)) (S2 := (121, [(4, .int 0), (0, .ref m0), (1, .int (nI x)), (3, .int 1)], [], M)) rfl rfl rfl (fun c_118 => ?_) (fun c_118 => ?_)
          · exact absurd (of_decide_eq_true c_118) (show ¬ (52 ≤ (nI mj)) from fun h9 => absurd ((le_nI (p := 52) (n := mj) (by decide) (by omega)).mp h9) (by omega))
          refine ps_st (S' := (122, [(4, .int 0), (0, .ref m0), (1, .int (nI x)), (3, .int 1)], [.int (nI x)], M)) rfl rfl rfl ?_
          refine ps_st (S' := (123, [(4, .int 0), (0, .ref m0), (1, .int (nI x)), (3, .int 1)], [.int 1, .int (nI x)], M)) rfl rfl rfl ?_
          refine ps_st (S' := (124, [(4, .int 0), (0, .ref m0), (1, .int (nI x)), (3, .int 1)], [.int ((nI x) &&& 1)], M)) rfl rfl rfl ?_
          rw [nI_an (p := x) (k := 1) (x := 1) rfl]
          show pl _ _ _ (_, [(4, .int 0), (0, .ref m0), (1, .int (nI x)), (3, .int 1)], [.int (nI (aN x 1))], M) _
          refine ps_if (S1 := (170, [], [], M)) (S2 := (127, [(4, .int 0), (0, .ref m0), (1, .int (nI x)), (3, .int 1)], [], M)) rfl rfl rfl (fun c_124 => ?_) (fun c_124 => ?_)
          · have c_124 : (nI (aN x 1)) = 0 := of_decide_eq_true c_124
            have n_124 : aN x 1 = 0 := (eq_nI (p := aN x 1) (n := 0) (Nat.lt_of_le_of_lt (an_le _ _) (by decide)) (by decide)).mp c_124
            refine ps_st (S' := (171, [], [.int 0], M)) rfl rfl rfl ?_
            exact ps_ret rfl rfl (⟨congrArg (fun x => some (Value.int (nI x))) (show 0 = fitN mj c x 0 from by
                have e3 := has_0 x 1400
                have e4 := has_0 x 1024
                have e5 := has_0 c 512
                have e2 := sev_0 x
                have b1 := le1_one x
                have ha : ¬ absN mj x = 0 := fun h => absurd ((abs_0 mj x).mp h) (by omega)
                have b2 := le1_imh mj x
                have hi : imhN mj x = 0 := (imh_0 mj x).mpr (by omega)
                unfold fitN
                first | ((repeat first | rw [if_pos (by omega)] | rw [if_neg (by omega)]) <;> first | rfl | omega) | ((repeat' split) <;> first | rfl | (exfalso; omega) | omega)), rfl⟩)
          · have c_124 : ¬ ((nI (aN x 1)) = 0) := of_decide_eq_false c_124
            have n_124 : ¬ (aN x 1 = 0) := fun h9 => c_124 ((eq_nI (p := aN x 1) (n := 0) (Nat.lt_of_le_of_lt (an_le _ _) (by decide)) (by decide)).mpr h9)
            refine ps_st (S' := (128, [(4, .int 0), (0, .ref m0), (1, .int (nI x)), (3, .int 1)], [.int (nI x)], M)) rfl rfl rfl ?_
            refine ps_st (S' := (131, [(4, .int 0), (0, .ref m0), (1, .int (nI x)), (3, .int 1)], [.int 1024, .int (nI x)], M)) rfl rfl rfl ?_
            refine ps_st (S' := (132, [(4, .int 0), (0, .ref m0), (1, .int (nI x)), (3, .int 1)], [.int ((nI x) &&& 1024)], M)) rfl rfl rfl ?_
            rw [nI_an (p := x) (k := 1024) (x := 1024) rfl]
            show pl _ _ _ (_, [(4, .int 0), (0, .ref m0), (1, .int (nI x)), (3, .int 1)], [.int (nI (aN x 1024))], M) _
            refine ps_if (S1 := (170, [], [], M)) (S2 := (135, [(4, .int 0), (0, .ref m0), (1, .int (nI x)), (3, .int 1)], [], M)) rfl rfl rfl (fun c_132 => ?_) (fun c_132 => ?_)
            · exact absurd (of_decide_eq_true c_132) (show ¬ ((nI (aN x 1024)) = 0) from fun h9 => absurd ((eq_nI (p := aN x 1024) (n := 0) (Nat.lt_of_le_of_lt (an_le _ _) (by decide)) (by decide)).mp h9) (by omega))
            refine ps_st (S' := (136, [(4, .int 0), (0, .ref m0), (1, .int (nI x)), (3, .int 1)], [.int (nI x)], M)) rfl rfl rfl ?_
            refine ps_st (S' := (138, [(4, .int 0), (0, .ref m0), (1, .int (nI x)), (3, .int 1)], [.int 8, .int (nI x)], M)) rfl rfl rfl ?_
            refine ps_st (S' := (139, [(4, .int 0), (0, .ref m0), (1, .int (nI x)), (3, .int 1)], [.int ((nI x) &&& 8)], M)) rfl rfl rfl ?_
            rw [nI_an (p := x) (k := 8) (x := 8) rfl]
            show pl _ _ _ (_, [(4, .int 0), (0, .ref m0), (1, .int (nI x)), (3, .int 1)], [.int (nI (aN x 8))], M) _
            refine ps_if (S1 := (172, [(4, .int 0)], [], M)) (S2 := (142, [(4, .int 0), (0, .ref m0), (1, .int (nI x)), (3, .int 1)], [], M)) rfl rfl rfl (fun c_139 => ?_) (fun c_139 => ?_)
            · have c_139 : (nI (aN x 8)) = 0 := of_decide_eq_true c_139
              have n_139 : aN x 8 = 0 := (eq_nI (p := aN x 8) (n := 0) (Nat.lt_of_le_of_lt (an_le _ _) (by decide)) (by decide)).mp c_139
              refine ps_st (S' := (174, [(4, .int 0)], [.int 0], M)) rfl rfl rfl ?_
              refine ps_if (S1 := (181, [(4, .int 0)], [], M)) (S2 := (177, [(4, .int 0)], [], M)) rfl rfl rfl (fun c_174 => ?_) (fun c_174 => ?_)
              · exact absurd (of_decide_eq_true c_174) (by decide)
              refine ps_st (S' := (178, [(4, .int 0)], [.int 1], M)) rfl rfl rfl ?_
              refine ps_st (S' := (182, [], [.int 1], M)) rfl rfl rfl ?_
              exact ps_ret rfl rfl (⟨congrArg (fun x => some (Value.int (nI x))) (show 1 = fitN mj c x 0 from by
                  have e3 := has_0 x 1400
                  have e4 := has_0 x 1024
                  have e5 := has_0 c 512
                  have e2 := sev_0 x
                  have b1 := le1_one x
                  have ha : ¬ absN mj x = 0 := fun h => absurd ((abs_0 mj x).mp h) (by omega)
                  have b2 := le1_imh mj x
                  have hi : ¬ imhN mj x = 0 := fun h => absurd ((imh_0 mj x).mp h) (by omega)
                  unfold fitN
                  first | ((repeat first | rw [if_pos (by omega)] | rw [if_neg (by omega)]) <;> first | rfl | omega) | ((repeat' split) <;> first | rfl | (exfalso; omega) | omega)), rfl⟩)
            · have c_139 : ¬ ((nI (aN x 8)) = 0) := of_decide_eq_false c_139
              have n_139 : ¬ (aN x 8 = 0) := fun h9 => c_139 ((eq_nI (p := aN x 8) (n := 0) (Nat.lt_of_le_of_lt (an_le _ _) (by decide)) (by decide)).mpr h9)
              refine ps_st (S' := (170, [], [], M)) rfl rfl rfl ?_
              refine ps_st (S' := (171, [], [.int 0], M)) rfl rfl rfl ?_
              exact ps_ret rfl rfl (⟨congrArg (fun x => some (Value.int (nI x))) (show 0 = fitN mj c x 0 from by
                  have e3 := has_0 x 1400
                  have e4 := has_0 x 1024
                  have e5 := has_0 c 512
                  have e2 := sev_0 x
                  have b1 := le1_one x
                  have ha : ¬ absN mj x = 0 := fun h => absurd ((abs_0 mj x).mp h) (by omega)
                  have b2 := le1_imh mj x
                  have hi : imhN mj x = 0 := (imh_0 mj x).mpr (by omega)
                  unfold fitN
                  first | ((repeat first | rw [if_pos (by omega)] | rw [if_neg (by omega)]) <;> first | rfl | omega) | ((repeat' split) <;> first | rfl | (exfalso; omega) | omega)), rfl⟩)
        · have c_107 : ¬ ((nI (aN x 308)) = 0) := of_decide_eq_false c_107
          have n_107 : ¬ (aN x 308 = 0) := fun h9 => c_107 ((eq_nI (p := aN x 308) (n := 0) (Nat.lt_of_le_of_lt (an_le _ _) (by decide)) (by decide)).mpr h9)
          refine ps_st (S' := (111, [(4, .int 0), (0, .ref m0), (1, .int (nI x)), (3, .int 1)], [.int 0], M)) rfl rfl rfl ?_
          exact ps_ret rfl rfl (⟨congrArg (fun x => some (Value.int (nI x))) (show 0 = fitN mj c x 0 from by
              have e3 := has_0 x 1400
              have e4 := has_0 x 1024
              have e5 := has_0 c 512
              have e2 := sev_0 x
              have b1 := le1_one x
              have ha : ¬ absN mj x = 0 := fun h => absurd ((abs_0 mj x).mp h) (by omega)
              have b2 := le1_imh mj x
              have hi : imhN mj x = 0 := (imh_0 mj x).mpr (by omega)
              unfold fitN
              first | ((repeat first | rw [if_pos (by omega)] | rw [if_neg (by omega)]) <;> first | rfl | omega) | ((repeat' split) <;> first | rfl | (exfalso; omega) | omega)), rfl⟩)
      · have c_50 : ¬ ((nI mj) < 46) := of_decide_eq_false c_50
        have n_50 : ¬ (mj < 46) := fun h9 => c_50 ((lt_nI (p := mj) (n := 46) (by omega) (by decide)).mpr h9)
        refine ps_st (S' := (54, [(0, .ref m0), (1, .int (nI x)), (2, .int 0), (3, .int 1)], [.ref m0], M)) rfl rfl rfl ?_
        refine pr_int (j := 53) (S' := (57, [(0, .ref m0), (1, .int (nI x)), (2, .int 0), (3, .int 1)], [.int (nI mj)], M)) rfl hR rfl hi53 rfl ?_
        refine ps_st (S' := (59, [(0, .ref m0), (1, .int (nI x)), (2, .int 0), (3, .int 1)], [.int 60, .int (nI mj)], M)) rfl rfl rfl ?_
        refine ps_if2 (S1 := (74, [(0, .ref m0), (1, .int (nI x)), (3, .int 1)], [], M)) (S2 := (62, [(0, .ref m0), (1, .int (nI x)), (2, .int 0), (3, .int 1)], [], M)) rfl rfl rfl (fun c_59 => ?_) (fun c_59 => ?_)
        · have c_59 : 60 < (nI mj) := of_decide_eq_true c_59
          have n_59 : 60 < mj := (lt_nI (p := 60) (n := mj) (by decide) (by omega)).mp c_59
          refine ps_st (S' := (75, [(0, .ref m0), (1, .int (nI x)), (3, .int 1)], [.int 0], M)) rfl rfl rfl ?_
          refine ps_st (S' := (77, [(4, .int 0), (0, .ref m0), (1, .int (nI x)), (3, .int 1)], [], M)) rfl rfl rfl ?_
          refine ps_st (S' := (78, [(4, .int 0), (0, .ref m0), (1, .int (nI x)), (3, .int 1)], [.int 1], M)) rfl rfl rfl ?_
          refine ps_if (S1 := (102, [(4, .int 0), (0, .ref m0), (1, .int (nI x)), (3, .int 1)], [], M)) (S2 := (81, [(4, .int 0), (0, .ref m0), (1, .int (nI x)), (3, .int 1)], [], M)) rfl rfl rfl (fun c_78 => ?_) (fun c_78 => ?_)
          rotate_left
          · exact absurd (by decide) (of_decide_eq_false c_78)
          refine ps_st (S' := (103, [(4, .int 0), (0, .ref m0), (1, .int (nI x)), (3, .int 1)], [.int (nI x)], M)) rfl rfl rfl ?_
          refine ps_st (S' := (106, [(4, .int 0), (0, .ref m0), (1, .int (nI x)), (3, .int 1)], [.int 308, .int (nI x)], M)) rfl rfl rfl ?_
          refine ps_st (S' := (107, [(4, .int 0), (0, .ref m0), (1, .int (nI x)), (3, .int 1)], [.int ((nI x) &&& 308)], M)) rfl rfl rfl ?_
          rw [nI_an (p := x) (k := 308) (x := 308) rfl]
          show pl _ _ _ (_, [(4, .int 0), (0, .ref m0), (1, .int (nI x)), (3, .int 1)], [.int (nI (aN x 308))], M) _
          refine ps_if (S1 := (112, [(4, .int 0), (0, .ref m0), (1, .int (nI x)), (3, .int 1)], [], M)) (S2 := (110, [(4, .int 0), (0, .ref m0), (1, .int (nI x)), (3, .int 1)], [], M)) rfl rfl rfl (fun c_107 => ?_) (fun c_107 => ?_)
          · have c_107 : (nI (aN x 308)) = 0 := of_decide_eq_true c_107
            have n_107 : aN x 308 = 0 := (eq_nI (p := aN x 308) (n := 0) (Nat.lt_of_le_of_lt (an_le _ _) (by decide)) (by decide)).mp c_107
            refine ps_st (S' := (113, [(4, .int 0), (0, .ref m0), (1, .int (nI x)), (3, .int 1)], [.ref m0], M)) rfl rfl rfl ?_
            refine pr_int (j := 53) (S' := (116, [(4, .int 0), (0, .ref m0), (1, .int (nI x)), (3, .int 1)], [.int (nI mj)], M)) rfl hR rfl hi53 rfl ?_
            refine ps_st (S' := (118, [(4, .int 0), (0, .ref m0), (1, .int (nI x)), (3, .int 1)], [.int 52, .int (nI mj)], M)) rfl rfl rfl ?_
            refine ps_if2 (S1 := (145, [(4, .int 0), (0, .ref m0), (1, .int (nI x)), (3, .int 1)], [], M)) (S2 := (121, [(4, .int 0), (0, .ref m0), (1, .int (nI x)), (3, .int 1)], [], M)) rfl rfl rfl (fun c_118 => ?_) (fun c_118 => ?_)
            rotate_left
            · exact absurd ((le_nI (p := 52) (n := mj) (by decide) (by omega)).mpr (by omega)) (of_decide_eq_false c_118)
            refine ps_st (S' := (146, [(4, .int 0), (0, .ref m0), (1, .int (nI x)), (3, .int 1)], [.int (nI x)], M)) rfl rfl rfl ?_
            refine ps_st (S' := (147, [(4, .int 0), (0, .ref m0), (1, .int (nI x)), (3, .int 1)], [.int 1, .int (nI x)], M)) rfl rfl rfl ?_
            refine ps_st (S' := (148, [(4, .int 0), (0, .ref m0), (1, .int (nI x)), (3, .int 1)], [.int ((nI x) &&& 1)], M)) rfl rfl rfl ?_
            rw [nI_an (p := x) (k := 1) (x := 1) rfl]
            show pl _ _ _ (_, [(4, .int 0), (0, .ref m0), (1, .int (nI x)), (3, .int 1)], [.int (nI (aN x 1))], M) _
            refine ps_if (S1 := (155, [(4, .int 0), (0, .ref m0), (1, .int (nI x)), (3, .int 1)], [], M)) (S2 := (151, [(4, .int 0), (0, .ref m0), (1, .int (nI x)), (3, .int 1)], [], M)) rfl rfl rfl (fun c_148 => ?_) (fun c_148 => ?_)
            · have c_148 : (nI (aN x 1)) = 0 := of_decide_eq_true c_148
              have n_148 : aN x 1 = 0 := (eq_nI (p := aN x 1) (n := 0) (Nat.lt_of_le_of_lt (an_le _ _) (by decide)) (by decide)).mp c_148
              refine ps_st (S' := (156, [(1, .int (nI x)), (4, .int 0)], [.int 0], M)) rfl rfl rfl ?_
              refine ps_st (S' := (157, [(1, .int (nI x)), (4, .int 0)], [.int (nI x), .int 0], M)) rfl rfl rfl ?_
              refine ps_st (S' := (158, [(1, .int (nI x)), (4, .int 0)], [.int 2, .int (nI x), .int 0], M)) rfl rfl rfl ?_
              refine ps_st (S' := (159, [(1, .int (nI x)), (4, .int 0)], [.int ((nI x) &&& 2), .int 0], M)) rfl rfl rfl ?_
              rw [nI_an (p := x) (k := 2) (x := 2) rfl]
              show pl _ _ _ (_, [(1, .int (nI x)), (4, .int 0)], [.int (nI (aN x 2)), .int 0], M) _
              refine ps_if (S1 := (166, [(1, .int (nI x)), (4, .int 0)], [.int 0], M)) (S2 := (162, [(1, .int (nI x)), (4, .int 0)], [.int 0], M)) rfl rfl rfl (fun c_159 => ?_) (fun c_159 => ?_)
              · have c_159 : (nI (aN x 2)) = 0 := of_decide_eq_true c_159
                have n_159 : aN x 2 = 0 := (eq_nI (p := aN x 2) (n := 0) (Nat.lt_of_le_of_lt (an_le _ _) (by decide)) (by decide)).mp c_159
                refine ps_st (S' := (167, [(4, .int 0)], [.int 0, .int 0], M)) rfl rfl rfl ?_
                refine ps_if2 (S1 := (172, [(4, .int 0)], [], M)) (S2 := (170, [], [], M)) rfl rfl rfl (fun c_167 => ?_) (fun c_167 => ?_)
                · exact absurd (of_decide_eq_true c_167) (by decide)
                refine ps_st (S' := (171, [], [.int 0], M)) rfl rfl rfl ?_
                exact ps_ret rfl rfl (⟨congrArg (fun x => some (Value.int (nI x))) (show 0 = fitN mj c x 0 from by
                    have e3 := has_0 x 1400
                    have e4 := has_0 x 1024
                    have e5 := has_0 c 512
                    have e2 := sev_0 x
                    have b1 := le1_one x
                    have ha : ¬ absN mj x = 0 := fun h => absurd ((abs_0 mj x).mp h) (by omega)
                    have b2 := le1_imh mj x
                    have hi : imhN mj x = 0 := (imh_0 mj x).mpr (by omega)
                    unfold fitN
                    first | ((repeat first | rw [if_pos (by omega)] | rw [if_neg (by omega)]) <;> first | rfl | omega) | ((repeat' split) <;> first | rfl | (exfalso; omega) | omega)), rfl⟩)
              · have c_159 : ¬ ((nI (aN x 2)) = 0) := of_decide_eq_false c_159
                have n_159 : ¬ (aN x 2 = 0) := fun h9 => c_159 ((eq_nI (p := aN x 2) (n := 0) (Nat.lt_of_le_of_lt (an_le _ _) (by decide)) (by decide)).mpr h9)
                refine ps_st (S' := (163, [(1, .int (nI x)), (4, .int 0)], [.int 1, .int 0], M)) rfl rfl rfl ?_
                refine ps_st (S' := (167, [(4, .int 0)], [.int 1, .int 0], M)) rfl rfl rfl ?_
                refine ps_if2 (S1 := (172, [(4, .int 0)], [], M)) (S2 := (170, [], [], M)) rfl rfl rfl (fun c_167 => ?_) (fun c_167 => ?_)
                rotate_left
                · exact absurd (by decide) (of_decide_eq_false c_167)
                refine ps_st (S' := (174, [(4, .int 0)], [.int 0], M)) rfl rfl rfl ?_
                refine ps_if (S1 := (181, [(4, .int 0)], [], M)) (S2 := (177, [(4, .int 0)], [], M)) rfl rfl rfl (fun c_174 => ?_) (fun c_174 => ?_)
                · exact absurd (of_decide_eq_true c_174) (by decide)
                refine ps_st (S' := (178, [(4, .int 0)], [.int 1], M)) rfl rfl rfl ?_
                refine ps_st (S' := (182, [], [.int 1], M)) rfl rfl rfl ?_
                exact ps_ret rfl rfl (⟨congrArg (fun x => some (Value.int (nI x))) (show 1 = fitN mj c x 0 from by
                    have e3 := has_0 x 1400
                    have e4 := has_0 x 1024
                    have e5 := has_0 c 512
                    have e2 := sev_0 x
                    have b1 := le1_one x
                    have ha : ¬ absN mj x = 0 := fun h => absurd ((abs_0 mj x).mp h) (by omega)
                    have b2 := le1_imh mj x
                    have hi : ¬ imhN mj x = 0 := fun h => absurd ((imh_0 mj x).mp h) (by omega)
                    unfold fitN
                    first | ((repeat first | rw [if_pos (by omega)] | rw [if_neg (by omega)]) <;> first | rfl | omega) | ((repeat' split) <;> first | rfl | (exfalso; omega) | omega)), rfl⟩)
            · have c_148 : ¬ ((nI (aN x 1)) = 0) := of_decide_eq_false c_148
              have n_148 : ¬ (aN x 1 = 0) := fun h9 => c_148 ((eq_nI (p := aN x 1) (n := 0) (Nat.lt_of_le_of_lt (an_le _ _) (by decide)) (by decide)).mpr h9)
              refine ps_st (S' := (152, [(4, .int 0), (0, .ref m0), (1, .int (nI x)), (3, .int 1)], [.int 1], M)) rfl rfl rfl ?_
              refine ps_st (S' := (156, [(1, .int (nI x)), (4, .int 0)], [.int 1], M)) rfl rfl rfl ?_
              refine ps_st (S' := (157, [(1, .int (nI x)), (4, .int 0)], [.int (nI x), .int 1], M)) rfl rfl rfl ?_
              refine ps_st (S' := (158, [(1, .int (nI x)), (4, .int 0)], [.int 2, .int (nI x), .int 1], M)) rfl rfl rfl ?_
              refine ps_st (S' := (159, [(1, .int (nI x)), (4, .int 0)], [.int ((nI x) &&& 2), .int 1], M)) rfl rfl rfl ?_
              rw [nI_an (p := x) (k := 2) (x := 2) rfl]
              show pl _ _ _ (_, [(1, .int (nI x)), (4, .int 0)], [.int (nI (aN x 2)), .int 1], M) _
              refine ps_if (S1 := (166, [(1, .int (nI x)), (4, .int 0)], [.int 1], M)) (S2 := (162, [(1, .int (nI x)), (4, .int 0)], [.int 1], M)) rfl rfl rfl (fun c_159 => ?_) (fun c_159 => ?_)
              · have c_159 : (nI (aN x 2)) = 0 := of_decide_eq_true c_159
                have n_159 : aN x 2 = 0 := (eq_nI (p := aN x 2) (n := 0) (Nat.lt_of_le_of_lt (an_le _ _) (by decide)) (by decide)).mp c_159
                refine ps_st (S' := (167, [(4, .int 0)], [.int 0, .int 1], M)) rfl rfl rfl ?_
                refine ps_if2 (S1 := (172, [(4, .int 0)], [], M)) (S2 := (170, [], [], M)) rfl rfl rfl (fun c_167 => ?_) (fun c_167 => ?_)
                rotate_left
                · exact absurd (by decide) (of_decide_eq_false c_167)
                refine ps_st (S' := (174, [(4, .int 0)], [.int 0], M)) rfl rfl rfl ?_
                refine ps_if (S1 := (181, [(4, .int 0)], [], M)) (S2 := (177, [(4, .int 0)], [], M)) rfl rfl rfl (fun c_174 => ?_) (fun c_174 => ?_)
                · exact absurd (of_decide_eq_true c_174) (by decide)
                refine ps_st (S' := (178, [(4, .int 0)], [.int 1], M)) rfl rfl rfl ?_
                refine ps_st (S' := (182, [], [.int 1], M)) rfl rfl rfl ?_
                exact ps_ret rfl rfl (⟨congrArg (fun x => some (Value.int (nI x))) (show 1 = fitN mj c x 0 from by
                    have e3 := has_0 x 1400
                    have e4 := has_0 x 1024
                    have e5 := has_0 c 512
                    have e2 := sev_0 x
                    have b1 := le1_one x
                    have ha : ¬ absN mj x = 0 := fun h => absurd ((abs_0 mj x).mp h) (by omega)
                    have b2 := le1_imh mj x
                    have hi : ¬ imhN mj x = 0 := fun h => absurd ((imh_0 mj x).mp h) (by omega)
                    unfold fitN
                    first | ((repeat first | rw [if_pos (by omega)] | rw [if_neg (by omega)]) <;> first | rfl | omega) | ((repeat' split) <;> first | rfl | (exfalso; omega) | omega)), rfl⟩)
              · have c_159 : ¬ ((nI (aN x 2)) = 0) := of_decide_eq_false c_159
                have n_159 : ¬ (aN x 2 = 0) := fun h9 => c_159 ((eq_nI (p := aN x 2) (n := 0) (Nat.lt_of_le_of_lt (an_le _ _) (by decide)) (by decide)).mpr h9)
                refine ps_st (S' := (163, [(1, .int (nI x)), (4, .int 0)], [.int 1, .int 1], M)) rfl rfl rfl ?_
                refine ps_st (S' := (167, [(4, .int 0)], [.int 1, .int 1], M)) rfl rfl rfl ?_
                refine ps_if2 (S1 := (172, [(4, .int 0)], [], M)) (S2 := (170, [], [], M)) rfl rfl rfl (fun c_167 => ?_) (fun c_167 => ?_)
                · exact absurd (of_decide_eq_true c_167) (by decide)
                refine ps_st (S' := (171, [], [.int 0], M)) rfl rfl rfl ?_
                exact ps_ret rfl rfl (⟨congrArg (fun x => some (Value.int (nI x))) (show 0 = fitN mj c x 0 from by
                    have e3 := has_0 x 1400
                    have e4 := has_0 x 1024
                    have e5 := has_0 c 512
                    have e2 := sev_0 x
                    have b1 := le1_one x
                    have ha : ¬ absN mj x = 0 := fun h => absurd ((abs_0 mj x).mp h) (by omega)
                    have b2 := le1_imh mj x
                    have hi : imhN mj x = 0 := (imh_0 mj x).mpr (by omega)
                    unfold fitN
                    first | ((repeat first | rw [if_pos (by omega)] | rw [if_neg (by omega)]) <;> first | rfl | omega) | ((repeat' split) <;> first | rfl | (exfalso; omega) | omega)), rfl⟩)
          · have c_107 : ¬ ((nI (aN x 308)) = 0) := of_decide_eq_false c_107
            have n_107 : ¬ (aN x 308 = 0) := fun h9 => c_107 ((eq_nI (p := aN x 308) (n := 0) (Nat.lt_of_le_of_lt (an_le _ _) (by decide)) (by decide)).mpr h9)
            refine ps_st (S' := (111, [(4, .int 0), (0, .ref m0), (1, .int (nI x)), (3, .int 1)], [.int 0], M)) rfl rfl rfl ?_
            exact ps_ret rfl rfl (⟨congrArg (fun x => some (Value.int (nI x))) (show 0 = fitN mj c x 0 from by
                have e3 := has_0 x 1400
                have e4 := has_0 x 1024
                have e5 := has_0 c 512
                have e2 := sev_0 x
                have b1 := le1_one x
                have ha : ¬ absN mj x = 0 := fun h => absurd ((abs_0 mj x).mp h) (by omega)
                have b2 := le1_imh mj x
                have hi : imhN mj x = 0 := (imh_0 mj x).mpr (by omega)
                unfold fitN
                first | ((repeat first | rw [if_pos (by omega)] | rw [if_neg (by omega)]) <;> first | rfl | omega) | ((repeat' split) <;> first | rfl | (exfalso; omega) | omega)), rfl⟩)
        · have c_59 : ¬ (60 < (nI mj)) := of_decide_eq_false c_59
          have n_59 : ¬ (60 < mj) := fun h9 => c_59 ((lt_nI (p := 60) (n := mj) (by decide) (by omega)).mpr h9)
          refine ps_st (S' := (63, [(0, .ref m0), (1, .int (nI x)), (2, .int 0), (3, .int 1)], [.int (nI x)], M)) rfl rfl rfl ?_
          refine ps_st (S' := (66, [(0, .ref m0), (1, .int (nI x)), (2, .int 0), (3, .int 1)], [.int 2048, .int (nI x)], M)) rfl rfl rfl ?_
          refine ps_st (S' := (67, [(0, .ref m0), (1, .int (nI x)), (2, .int 0), (3, .int 1)], [.int ((nI x) &&& 2048)], M)) rfl rfl rfl ?_
          rw [nI_an (p := x) (k := 2048) (x := 2048) rfl]
          show pl _ _ _ (_, [(0, .ref m0), (1, .int (nI x)), (2, .int 0), (3, .int 1)], [.int (nI (aN x 2048))], M) _
          refine ps_if (S1 := (74, [(0, .ref m0), (1, .int (nI x)), (3, .int 1)], [], M)) (S2 := (70, [(0, .ref m0), (1, .int (nI x)), (3, .int 1)], [], M)) rfl rfl rfl (fun c_67 => ?_) (fun c_67 => ?_)
          · have c_67 : (nI (aN x 2048)) = 0 := of_decide_eq_true c_67
            have n_67 : aN x 2048 = 0 := (eq_nI (p := aN x 2048) (n := 0) (Nat.lt_of_le_of_lt (an_le _ _) (by decide)) (by decide)).mp c_67
            refine ps_st (S' := (75, [(0, .ref m0), (1, .int (nI x)), (3, .int 1)], [.int 0], M)) rfl rfl rfl ?_
            refine ps_st (S' := (77, [(4, .int 0), (0, .ref m0), (1, .int (nI x)), (3, .int 1)], [], M)) rfl rfl rfl ?_
            refine ps_st (S' := (78, [(4, .int 0), (0, .ref m0), (1, .int (nI x)), (3, .int 1)], [.int 1], M)) rfl rfl rfl ?_
            refine ps_if (S1 := (102, [(4, .int 0), (0, .ref m0), (1, .int (nI x)), (3, .int 1)], [], M)) (S2 := (81, [(4, .int 0), (0, .ref m0), (1, .int (nI x)), (3, .int 1)], [], M)) rfl rfl rfl (fun c_78 => ?_) (fun c_78 => ?_)
            rotate_left
            · exact absurd (by decide) (of_decide_eq_false c_78)
            refine ps_st (S' := (103, [(4, .int 0), (0, .ref m0), (1, .int (nI x)), (3, .int 1)], [.int (nI x)], M)) rfl rfl rfl ?_
            refine ps_st (S' := (106, [(4, .int 0), (0, .ref m0), (1, .int (nI x)), (3, .int 1)], [.int 308, .int (nI x)], M)) rfl rfl rfl ?_
            refine ps_st (S' := (107, [(4, .int 0), (0, .ref m0), (1, .int (nI x)), (3, .int 1)], [.int ((nI x) &&& 308)], M)) rfl rfl rfl ?_
            rw [nI_an (p := x) (k := 308) (x := 308) rfl]
            show pl _ _ _ (_, [(4, .int 0), (0, .ref m0), (1, .int (nI x)), (3, .int 1)], [.int (nI (aN x 308))], M) _
            refine ps_if (S1 := (112, [(4, .int 0), (0, .ref m0), (1, .int (nI x)), (3, .int 1)], [], M)) (S2 := (110, [(4, .int 0), (0, .ref m0), (1, .int (nI x)), (3, .int 1)], [], M)) rfl rfl rfl (fun c_107 => ?_) (fun c_107 => ?_)
            · have c_107 : (nI (aN x 308)) = 0 := of_decide_eq_true c_107
              have n_107 : aN x 308 = 0 := (eq_nI (p := aN x 308) (n := 0) (Nat.lt_of_le_of_lt (an_le _ _) (by decide)) (by decide)).mp c_107
              refine ps_st (S' := (113, [(4, .int 0), (0, .ref m0), (1, .int (nI x)), (3, .int 1)], [.ref m0], M)) rfl rfl rfl ?_
              refine pr_int (j := 53) (S' := (116, [(4, .int 0), (0, .ref m0), (1, .int (nI x)), (3, .int 1)], [.int (nI mj)], M)) rfl hR rfl hi53 rfl ?_
              refine ps_st (S' := (118, [(4, .int 0), (0, .ref m0), (1, .int (nI x)), (3, .int 1)], [.int 52, .int (nI mj)], M)) rfl rfl rfl ?_
              refine ps_if2 (S1 := (145, [(4, .int 0), (0, .ref m0), (1, .int (nI x)), (3, .int 1)], [], M)) (S2 := (121, [(4, .int 0), (0, .ref m0), (1, .int (nI x)), (3, .int 1)], [], M)) rfl rfl rfl (fun c_118 => ?_) (fun c_118 => ?_)
              · have c_118 : 52 ≤ (nI mj) := of_decide_eq_true c_118
                have n_118 : 52 ≤ mj := (le_nI (p := 52) (n := mj) (by decide) (by omega)).mp c_118
                refine ps_st (S' := (146, [(4, .int 0), (0, .ref m0), (1, .int (nI x)), (3, .int 1)], [.int (nI x)], M)) rfl rfl rfl ?_
                refine ps_st (S' := (147, [(4, .int 0), (0, .ref m0), (1, .int (nI x)), (3, .int 1)], [.int 1, .int (nI x)], M)) rfl rfl rfl ?_
                refine ps_st (S' := (148, [(4, .int 0), (0, .ref m0), (1, .int (nI x)), (3, .int 1)], [.int ((nI x) &&& 1)], M)) rfl rfl rfl ?_
                rw [nI_an (p := x) (k := 1) (x := 1) rfl]
                show pl _ _ _ (_, [(4, .int 0), (0, .ref m0), (1, .int (nI x)), (3, .int 1)], [.int (nI (aN x 1))], M) _
                refine ps_if (S1 := (155, [(4, .int 0), (0, .ref m0), (1, .int (nI x)), (3, .int 1)], [], M)) (S2 := (151, [(4, .int 0), (0, .ref m0), (1, .int (nI x)), (3, .int 1)], [], M)) rfl rfl rfl (fun c_148 => ?_) (fun c_148 => ?_)
                · have c_148 : (nI (aN x 1)) = 0 := of_decide_eq_true c_148
                  have n_148 : aN x 1 = 0 := (eq_nI (p := aN x 1) (n := 0) (Nat.lt_of_le_of_lt (an_le _ _) (by decide)) (by decide)).mp c_148
                  refine ps_st (S' := (156, [(1, .int (nI x)), (4, .int 0)], [.int 0], M)) rfl rfl rfl ?_
                  refine ps_st (S' := (157, [(1, .int (nI x)), (4, .int 0)], [.int (nI x), .int 0], M)) rfl rfl rfl ?_
                  refine ps_st (S' := (158, [(1, .int (nI x)), (4, .int 0)], [.int 2, .int (nI x), .int 0], M)) rfl rfl rfl ?_
                  refine ps_st (S' := (159, [(1, .int (nI x)), (4, .int 0)], [.int ((nI x) &&& 2), .int 0], M)) rfl rfl rfl ?_
                  rw [nI_an (p := x) (k := 2) (x := 2) rfl]
                  show pl _ _ _ (_, [(1, .int (nI x)), (4, .int 0)], [.int (nI (aN x 2)), .int 0], M) _
                  refine ps_if (S1 := (166, [(1, .int (nI x)), (4, .int 0)], [.int 0], M)) (S2 := (162, [(1, .int (nI x)), (4, .int 0)], [.int 0], M)) rfl rfl rfl (fun c_159 => ?_) (fun c_159 => ?_)
                  · have c_159 : (nI (aN x 2)) = 0 := of_decide_eq_true c_159
                    have n_159 : aN x 2 = 0 := (eq_nI (p := aN x 2) (n := 0) (Nat.lt_of_le_of_lt (an_le _ _) (by decide)) (by decide)).mp c_159
                    refine ps_st (S' := (167, [(4, .int 0)], [.int 0, .int 0], M)) rfl rfl rfl ?_
                    refine ps_if2 (S1 := (172, [(4, .int 0)], [], M)) (S2 := (170, [], [], M)) rfl rfl rfl (fun c_167 => ?_) (fun c_167 => ?_)
                    · exact absurd (of_decide_eq_true c_167) (by decide)
                    refine ps_st (S' := (171, [], [.int 0], M)) rfl rfl rfl ?_
                    exact ps_ret rfl rfl (⟨congrArg (fun x => some (Value.int (nI x))) (show 0 = fitN mj c x 0 from by
                        have e3 := has_0 x 1400
                        have e4 := has_0 x 1024
                        have e5 := has_0 c 512
                        have e2 := sev_0 x
                        have b1 := le1_one x
                        have ha : ¬ absN mj x = 0 := fun h => absurd ((abs_0 mj x).mp h) (by omega)
                        have b2 := le1_imh mj x
                        have hi : imhN mj x = 0 := (imh_0 mj x).mpr (by omega)
                        unfold fitN
                        first | ((repeat first | rw [if_pos (by omega)] | rw [if_neg (by omega)]) <;> first | rfl | omega) | ((repeat' split) <;> first | rfl | (exfalso; omega) | omega)), rfl⟩)
                  · have c_159 : ¬ ((nI (aN x 2)) = 0) := of_decide_eq_false c_159
                    have n_159 : ¬ (aN x 2 = 0) := fun h9 => c_159 ((eq_nI (p := aN x 2) (n := 0) (Nat.lt_of_le_of_lt (an_le _ _) (by decide)) (by decide)).mpr h9)
                    refine ps_st (S' := (163, [(1, .int (nI x)), (4, .int 0)], [.int 1, .int 0], M)) rfl rfl rfl ?_
                    refine ps_st (S' := (167, [(4, .int 0)], [.int 1, .int 0], M)) rfl rfl rfl ?_
                    refine ps_if2 (S1 := (172, [(4, .int 0)], [], M)) (S2 := (170, [], [], M)) rfl rfl rfl (fun c_167 => ?_) (fun c_167 => ?_)
                    rotate_left
                    · exact absurd (by decide) (of_decide_eq_false c_167)
                    refine ps_st (S' := (174, [(4, .int 0)], [.int 0], M)) rfl rfl rfl ?_
                    refine ps_if (S1 := (181, [(4, .int 0)], [], M)) (S2 := (177, [(4, .int 0)], [], M)) rfl rfl rfl (fun c_174 => ?_) (fun c_174 => ?_)
                    · exact absurd (of_decide_eq_true c_174) (by decide)
                    refine ps_st (S' := (178, [(4, .int 0)], [.int 1], M)) rfl rfl rfl ?_
                    refine ps_st (S' := (182, [], [.int 1], M)) rfl rfl rfl ?_
                    exact ps_ret rfl rfl (⟨congrArg (fun x => some (Value.int (nI x))) (show 1 = fitN mj c x 0 from by
                        have e3 := has_0 x 1400
                        have e4 := has_0 x 1024
                        have e5 := has_0 c 512
                        have e2 := sev_0 x
                        have b1 := le1_one x
                        have ha : ¬ absN mj x = 0 := fun h => absurd ((abs_0 mj x).mp h) (by omega)
                        have b2 := le1_imh mj x
                        have hi : ¬ imhN mj x = 0 := fun h => absurd ((imh_0 mj x).mp h) (by omega)
                        unfold fitN
                        first | ((repeat first | rw [if_pos (by omega)] | rw [if_neg (by omega)]) <;> first | rfl | omega) | ((repeat' split) <;> first | rfl | (exfalso; omega) | omega)), rfl⟩)
                · have c_148 : ¬ ((nI (aN x 1)) = 0) := of_decide_eq_false c_148
                  have n_148 : ¬ (aN x 1 = 0) := fun h9 => c_148 ((eq_nI (p := aN x 1) (n := 0) (Nat.lt_of_le_of_lt (an_le _ _) (by decide)) (by decide)).mpr h9)
                  refine ps_st (S' := (152, [(4, .int 0), (0, .ref m0), (1, .int (nI x)), (3, .int 1)], [.int 1], M)) rfl rfl rfl ?_
                  refine ps_st (S' := (156, [(1, .int (nI x)), (4, .int 0)], [.int 1], M)) rfl rfl rfl ?_
                  refine ps_st (S' := (157, [(1, .int (nI x)), (4, .int 0)], [.int (nI x), .int 1], M)) rfl rfl rfl ?_
                  refine ps_st (S' := (158, [(1, .int (nI x)), (4, .int 0)], [.int 2, .int (nI x), .int 1], M)) rfl rfl rfl ?_
                  refine ps_st (S' := (159, [(1, .int (nI x)), (4, .int 0)], [.int ((nI x) &&& 2), .int 1], M)) rfl rfl rfl ?_
                  rw [nI_an (p := x) (k := 2) (x := 2) rfl]
                  show pl _ _ _ (_, [(1, .int (nI x)), (4, .int 0)], [.int (nI (aN x 2)), .int 1], M) _
                  refine ps_if (S1 := (166, [(1, .int (nI x)), (4, .int 0)], [.int 1], M)) (S2 := (162, [(1, .int (nI x)), (4, .int 0)], [.int 1], M)) rfl rfl rfl (fun c_159 => ?_) (fun c_159 => ?_)
                  · have c_159 : (nI (aN x 2)) = 0 := of_decide_eq_true c_159
                    have n_159 : aN x 2 = 0 := (eq_nI (p := aN x 2) (n := 0) (Nat.lt_of_le_of_lt (an_le _ _) (by decide)) (by decide)).mp c_159
                    refine ps_st (S' := (167, [(4, .int 0)], [.int 0, .int 1], M)) rfl rfl rfl ?_
                    refine ps_if2 (S1 := (172, [(4, .int 0)], [], M)) (S2 := (170, [], [], M)) rfl rfl rfl (fun c_167 => ?_) (fun c_167 => ?_)
                    rotate_left
                    · exact absurd (by decide) (of_decide_eq_false c_167)
                    refine ps_st (S' := (174, [(4, .int 0)], [.int 0], M)) rfl rfl rfl ?_
                    refine ps_if (S1 := (181, [(4, .int 0)], [], M)) (S2 := (177, [(4, .int 0)], [], M)) rfl rfl rfl (fun c_174 => ?_) (fun c_174 => ?_)
                    · exact absurd (of_decide_eq_true c_174) (by decide)
                    refine ps_st (S' := (178, [(4, .int 0)], [.int 1], M)) rfl rfl rfl ?_
                    refine ps_st (S' := (182, [], [.int 1], M)) rfl rfl rfl ?_
                    exact ps_ret rfl rfl (⟨congrArg (fun x => some (Value.int (nI x))) (show 1 = fitN mj c x 0 from by
                        have e3 := has_0 x 1400
                        have e4 := has_0 x 1024
                        have e5 := has_0 c 512
                        have e2 := sev_0 x
                        have b1 := le1_one x
                        have ha : ¬ absN mj x = 0 := fun h => absurd ((abs_0 mj x).mp h) (by omega)
                        have b2 := le1_imh mj x
                        have hi : ¬ imhN mj x = 0 := fun h => absurd ((imh_0 mj x).mp h) (by omega)
                        unfold fitN
                        first | ((repeat first | rw [if_pos (by omega)] | rw [if_neg (by omega)]) <;> first | rfl | omega) | ((repeat' split) <;> first | rfl | (exfalso; omega) | omega)), rfl⟩)
                  · have c_159 : ¬ ((nI (aN x 2)) = 0) := of_decide_eq_false c_159
                    have n_159 : ¬ (aN x 2 = 0) := fun h9 => c_159 ((eq_nI (p := aN x 2) (n := 0) (Nat.lt_of_le_of_lt (an_le _ _) (by decide)) (by decide)).mpr h9)
                    refine ps_st (S' := (163, [(1, .int (nI x)), (4, .int 0)], [.int 1, .int 1], M)) rfl rfl rfl ?_
                    refine ps_st (S' := (167, [(4, .int 0)], [.int 1, .int 1], M)) rfl rfl rfl ?_
                    refine ps_if2 (S1 := (172, [(4, .int 0)], [], M)) (S2 := (170, [], [], M)) rfl rfl rfl (fun c_167 => ?_) (fun c_167 => ?_)
                    · exact absurd (of_decide_eq_true c_167) (by decide)
                    refine ps_st (S' := (171, [], [.int 0], M)) rfl rfl rfl ?_
                    exact ps_ret rfl rfl (⟨congrArg (fun x => some (Value.int (nI x))) (show 0 = fitN mj c x 0 from by
                        have e3 := has_0 x 1400
                        have e4 := has_0 x 1024
                        have e5 := has_0 c 512
                        have e2 := sev_0 x
                        have b1 := le1_one x
                        have ha : ¬ absN mj x = 0 := fun h => absurd ((abs_0 mj x).mp h) (by omega)
                        have b2 := le1_imh mj x
                        have hi : imhN mj x = 0 := (imh_0 mj x).mpr (by omega)
                        unfold fitN
                        first | ((repeat first | rw [if_pos (by omega)] | rw [if_neg (by omega)]) <;> first | rfl | omega) | ((repeat' split) <;> first | rfl | (exfalso; omega) | omega)), rfl⟩)
              · have c_118 : ¬ (52 ≤ (nI mj)) := of_decide_eq_false c_118
                have n_118 : ¬ (52 ≤ mj) := fun h9 => c_118 ((le_nI (p := 52) (n := mj) (by decide) (by omega)).mpr h9)
                refine ps_st (S' := (122, [(4, .int 0), (0, .ref m0), (1, .int (nI x)), (3, .int 1)], [.int (nI x)], M)) rfl rfl rfl ?_
                refine ps_st (S' := (123, [(4, .int 0), (0, .ref m0), (1, .int (nI x)), (3, .int 1)], [.int 1, .int (nI x)], M)) rfl rfl rfl ?_
                refine ps_st (S' := (124, [(4, .int 0), (0, .ref m0), (1, .int (nI x)), (3, .int 1)], [.int ((nI x) &&& 1)], M)) rfl rfl rfl ?_
                rw [nI_an (p := x) (k := 1) (x := 1) rfl]
                show pl _ _ _ (_, [(4, .int 0), (0, .ref m0), (1, .int (nI x)), (3, .int 1)], [.int (nI (aN x 1))], M) _
                refine ps_if (S1 := (170, [], [], M)) (S2 := (127, [(4, .int 0), (0, .ref m0), (1, .int (nI x)), (3, .int 1)], [], M)) rfl rfl rfl (fun c_124 => ?_) (fun c_124 => ?_)
                · have c_124 : (nI (aN x 1)) = 0 := of_decide_eq_true c_124
                  have n_124 : aN x 1 = 0 := (eq_nI (p := aN x 1) (n := 0) (Nat.lt_of_le_of_lt (an_le _ _) (by decide)) (by decide)).mp c_124
                  refine ps_st (S' := (171, [], [.int 0], M)) rfl rfl rfl ?_
                  exact ps_ret rfl rfl (⟨congrArg (fun x => some (Value.int (nI x))) (show 0 = fitN mj c x 0 from by
                      have e3 := has_0 x 1400
                      have e4 := has_0 x 1024
                      have e5 := has_0 c 512
                      have e2 := sev_0 x
                      have b1 := le1_one x
                      have ha : ¬ absN mj x = 0 := fun h => absurd ((abs_0 mj x).mp h) (by omega)
                      have b2 := le1_imh mj x
                      have hi : imhN mj x = 0 := (imh_0 mj x).mpr (by omega)
                      unfold fitN
                      first | ((repeat first | rw [if_pos (by omega)] | rw [if_neg (by omega)]) <;> first | rfl | omega) | ((repeat' split) <;> first | rfl | (exfalso; omega) | omega)), rfl⟩)
                · have c_124 : ¬ ((nI (aN x 1)) = 0) := of_decide_eq_false c_124
                  have n_124 : ¬ (aN x 1 = 0) := fun h9 => c_124 ((eq_nI (p := aN x 1) (n := 0) (Nat.lt_of_le_of_lt (an_le _ _) (by decide)) (by decide)).mpr h9)
                  refine ps_st (S' := (128, [(4, .int 0), (0, .ref m0), (1, .int (nI x)), (3, .int 1)], [.int (nI x)], M)) rfl rfl rfl ?_
                  refine ps_st (S' := (131, [(4, .int 0), (0, .ref m0), (1, .int (nI x)), (3, .int 1)], [.int 1024, .int (nI x)], M)) rfl rfl rfl ?_
                  refine ps_st (S' := (132, [(4, .int 0), (0, .ref m0), (1, .int (nI x)), (3, .int 1)], [.int ((nI x) &&& 1024)], M)) rfl rfl rfl ?_
                  rw [nI_an (p := x) (k := 1024) (x := 1024) rfl]
                  show pl _ _ _ (_, [(4, .int 0), (0, .ref m0), (1, .int (nI x)), (3, .int 1)], [.int (nI (aN x 1024))], M) _
                  refine ps_if (S1 := (170, [], [], M)) (S2 := (135, [(4, .int 0), (0, .ref m0), (1, .int (nI x)), (3, .int 1)], [], M)) rfl rfl rfl (fun c_132 => ?_) (fun c_132 => ?_)
                  · exact absurd (of_decide_eq_true c_132) (show ¬ ((nI (aN x 1024)) = 0) from fun h9 => absurd ((eq_nI (p := aN x 1024) (n := 0) (Nat.lt_of_le_of_lt (an_le _ _) (by decide)) (by decide)).mp h9) (by omega))
                  refine ps_st (S' := (136, [(4, .int 0), (0, .ref m0), (1, .int (nI x)), (3, .int 1)], [.int (nI x)], M)) rfl rfl rfl ?_
                  refine ps_st (S' := (138, [(4, .int 0), (0, .ref m0), (1, .int (nI x)), (3, .int 1)], [.int 8, .int (nI x)], M)) rfl rfl rfl ?_
                  refine ps_st (S' := (139, [(4, .int 0), (0, .ref m0), (1, .int (nI x)), (3, .int 1)], [.int ((nI x) &&& 8)], M)) rfl rfl rfl ?_
                  rw [nI_an (p := x) (k := 8) (x := 8) rfl]
                  show pl _ _ _ (_, [(4, .int 0), (0, .ref m0), (1, .int (nI x)), (3, .int 1)], [.int (nI (aN x 8))], M) _
                  refine ps_if (S1 := (172, [(4, .int 0)], [], M)) (S2 := (142, [(4, .int 0), (0, .ref m0), (1, .int (nI x)), (3, .int 1)], [], M)) rfl rfl rfl (fun c_139 => ?_) (fun c_139 => ?_)
                  · have c_139 : (nI (aN x 8)) = 0 := of_decide_eq_true c_139
                    have n_139 : aN x 8 = 0 := (eq_nI (p := aN x 8) (n := 0) (Nat.lt_of_le_of_lt (an_le _ _) (by decide)) (by decide)).mp c_139
                    refine ps_st (S' := (174, [(4, .int 0)], [.int 0], M)) rfl rfl rfl ?_
                    refine ps_if (S1 := (181, [(4, .int 0)], [], M)) (S2 := (177, [(4, .int 0)], [], M)) rfl rfl rfl (fun c_174 => ?_) (fun c_174 => ?_)
                    · exact absurd (of_decide_eq_true c_174) (by decide)
                    refine ps_st (S' := (178, [(4, .int 0)], [.int 1], M)) rfl rfl rfl ?_
                    refine ps_st (S' := (182, [], [.int 1], M)) rfl rfl rfl ?_
                    exact ps_ret rfl rfl (⟨congrArg (fun x => some (Value.int (nI x))) (show 1 = fitN mj c x 0 from by
                        have e3 := has_0 x 1400
                        have e4 := has_0 x 1024
                        have e5 := has_0 c 512
                        have e2 := sev_0 x
                        have b1 := le1_one x
                        have ha : ¬ absN mj x = 0 := fun h => absurd ((abs_0 mj x).mp h) (by omega)
                        have b2 := le1_imh mj x
                        have hi : ¬ imhN mj x = 0 := fun h => absurd ((imh_0 mj x).mp h) (by omega)
                        unfold fitN
                        first | ((repeat first | rw [if_pos (by omega)] | rw [if_neg (by omega)]) <;> first | rfl | omega) | ((repeat' split) <;> first | rfl | (exfalso; omega) | omega)), rfl⟩)
                  · have c_139 : ¬ ((nI (aN x 8)) = 0) := of_decide_eq_false c_139
                    have n_139 : ¬ (aN x 8 = 0) := fun h9 => c_139 ((eq_nI (p := aN x 8) (n := 0) (Nat.lt_of_le_of_lt (an_le _ _) (by decide)) (by decide)).mpr h9)
                    refine ps_st (S' := (170, [], [], M)) rfl rfl rfl ?_
                    refine ps_st (S' := (171, [], [.int 0], M)) rfl rfl rfl ?_
                    exact ps_ret rfl rfl (⟨congrArg (fun x => some (Value.int (nI x))) (show 0 = fitN mj c x 0 from by
                        have e3 := has_0 x 1400
                        have e4 := has_0 x 1024
                        have e5 := has_0 c 512
                        have e2 := sev_0 x
                        have b1 := le1_one x
                        have ha : ¬ absN mj x = 0 := fun h => absurd ((abs_0 mj x).mp h) (by omega)
                        have b2 := le1_imh mj x
                        have hi : imhN mj x = 0 := (imh_0 mj x).mpr (by omega)
                        unfold fitN
                        first | ((repeat first | rw [if_pos (by omega)] | rw [if_neg (by omega)]) <;> first | rfl | omega) | ((repeat' split) <;> first | rfl | (exfalso; omega) | omega)), rfl⟩)
            · have c_107 : ¬ ((nI (aN x 308)) = 0) := of_decide_eq_false c_107
              have n_107 : ¬ (aN x 308 = 0) := fun h9 => c_107 ((eq_nI (p := aN x 308) (n := 0) (Nat.lt_of_le_of_lt (an_le _ _) (by decide)) (by decide)).mpr h9)
              refine ps_st (S' := (111, [(4, .int 0), (0, .ref m0), (1, .int (nI x)), (3, .int 1)], [.int 0], M)) rfl rfl rfl ?_
              exact ps_ret rfl rfl (⟨congrArg (fun x => some (Value.int (nI x))) (show 0 = fitN mj c x 0 from by
                  have e3 := has_0 x 1400
                  have e4 := has_0 x 1024
                  have e5 := has_0 c 512
                  have e2 := sev_0 x
                  have b1 := le1_one x
                  have ha : ¬ absN mj x = 0 := fun h => absurd ((abs_0 mj x).mp h) (by omega)
                  have b2 := le1_imh mj x
                  have hi : imhN mj x = 0 := (imh_0 mj x).mpr (by omega)
                  unfold fitN
                  first | ((repeat first | rw [if_pos (by omega)] | rw [if_neg (by omega)]) <;> first | rfl | omega) | ((repeat' split) <;> first | rfl | (exfalso; omega) | omega)), rfl⟩)
          · have c_67 : ¬ ((nI (aN x 2048)) = 0) := of_decide_eq_false c_67
            have n_67 : ¬ (aN x 2048 = 0) := fun h9 => c_67 ((eq_nI (p := aN x 2048) (n := 0) (Nat.lt_of_le_of_lt (an_le _ _) (by decide)) (by decide)).mpr h9)
            refine ps_st (S' := (71, [(0, .ref m0), (1, .int (nI x)), (3, .int 1)], [.int 1], M)) rfl rfl rfl ?_
            refine ps_st (S' := (75, [(0, .ref m0), (1, .int (nI x)), (3, .int 1)], [.int 1], M)) rfl rfl rfl ?_
            refine ps_st (S' := (77, [(4, .int 1), (0, .ref m0), (1, .int (nI x)), (3, .int 1)], [], M)) rfl rfl rfl ?_
            refine ps_st (S' := (78, [(4, .int 1), (0, .ref m0), (1, .int (nI x)), (3, .int 1)], [.int 1], M)) rfl rfl rfl ?_
            refine ps_if (S1 := (102, [(4, .int 1), (0, .ref m0), (1, .int (nI x)), (3, .int 1)], [], M)) (S2 := (81, [(4, .int 1), (0, .ref m0), (1, .int (nI x)), (3, .int 1)], [], M)) rfl rfl rfl (fun c_78 => ?_) (fun c_78 => ?_)
            rotate_left
            · exact absurd (by decide) (of_decide_eq_false c_78)
            refine ps_st (S' := (103, [(4, .int 1), (0, .ref m0), (1, .int (nI x)), (3, .int 1)], [.int (nI x)], M)) rfl rfl rfl ?_
            refine ps_st (S' := (106, [(4, .int 1), (0, .ref m0), (1, .int (nI x)), (3, .int 1)], [.int 308, .int (nI x)], M)) rfl rfl rfl ?_
            refine ps_st (S' := (107, [(4, .int 1), (0, .ref m0), (1, .int (nI x)), (3, .int 1)], [.int ((nI x) &&& 308)], M)) rfl rfl rfl ?_
            rw [nI_an (p := x) (k := 308) (x := 308) rfl]
            show pl _ _ _ (_, [(4, .int 1), (0, .ref m0), (1, .int (nI x)), (3, .int 1)], [.int (nI (aN x 308))], M) _
            refine ps_if (S1 := (112, [(4, .int 1), (0, .ref m0), (1, .int (nI x)), (3, .int 1)], [], M)) (S2 := (110, [(4, .int 1), (0, .ref m0), (1, .int (nI x)), (3, .int 1)], [], M)) rfl rfl rfl (fun c_107 => ?_) (fun c_107 => ?_)
            · have c_107 : (nI (aN x 308)) = 0 := of_decide_eq_true c_107
              have n_107 : aN x 308 = 0 := (eq_nI (p := aN x 308) (n := 0) (Nat.lt_of_le_of_lt (an_le _ _) (by decide)) (by decide)).mp c_107
              refine ps_st (S' := (113, [(4, .int 1), (0, .ref m0), (1, .int (nI x)), (3, .int 1)], [.ref m0], M)) rfl rfl rfl ?_
              refine pr_int (j := 53) (S' := (116, [(4, .int 1), (0, .ref m0), (1, .int (nI x)), (3, .int 1)], [.int (nI mj)], M)) rfl hR rfl hi53 rfl ?_
              refine ps_st (S' := (118, [(4, .int 1), (0, .ref m0), (1, .int (nI x)), (3, .int 1)], [.int 52, .int (nI mj)], M)) rfl rfl rfl ?_
              refine ps_if2 (S1 := (145, [(4, .int 1), (0, .ref m0), (1, .int (nI x)), (3, .int 1)], [], M)) (S2 := (121, [(4, .int 1), (0, .ref m0), (1, .int (nI x)), (3, .int 1)], [], M)) rfl rfl rfl (fun c_118 => ?_) (fun c_118 => ?_)
              · have c_118 : 52 ≤ (nI mj) := of_decide_eq_true c_118
                have n_118 : 52 ≤ mj := (le_nI (p := 52) (n := mj) (by decide) (by omega)).mp c_118
                refine ps_st (S' := (146, [(4, .int 1), (0, .ref m0), (1, .int (nI x)), (3, .int 1)], [.int (nI x)], M)) rfl rfl rfl ?_
                refine ps_st (S' := (147, [(4, .int 1), (0, .ref m0), (1, .int (nI x)), (3, .int 1)], [.int 1, .int (nI x)], M)) rfl rfl rfl ?_
                refine ps_st (S' := (148, [(4, .int 1), (0, .ref m0), (1, .int (nI x)), (3, .int 1)], [.int ((nI x) &&& 1)], M)) rfl rfl rfl ?_
                rw [nI_an (p := x) (k := 1) (x := 1) rfl]
                show pl _ _ _ (_, [(4, .int 1), (0, .ref m0), (1, .int (nI x)), (3, .int 1)], [.int (nI (aN x 1))], M) _
                refine ps_if (S1 := (155, [(4, .int 1), (0, .ref m0), (1, .int (nI x)), (3, .int 1)], [], M)) (S2 := (151, [(4, .int 1), (0, .ref m0), (1, .int (nI x)), (3, .int 1)], [], M)) rfl rfl rfl (fun c_148 => ?_) (fun c_148 => ?_)
                · have c_148 : (nI (aN x 1)) = 0 := of_decide_eq_true c_148
                  have n_148 : aN x 1 = 0 := (eq_nI (p := aN x 1) (n := 0) (Nat.lt_of_le_of_lt (an_le _ _) (by decide)) (by decide)).mp c_148
                  refine ps_st (S' := (156, [(1, .int (nI x)), (4, .int 1)], [.int 0], M)) rfl rfl rfl ?_
                  refine ps_st (S' := (157, [(1, .int (nI x)), (4, .int 1)], [.int (nI x), .int 0], M)) rfl rfl rfl ?_
                  refine ps_st (S' := (158, [(1, .int (nI x)), (4, .int 1)], [.int 2, .int (nI x), .int 0], M)) rfl rfl rfl ?_
                  refine ps_st (S' := (159, [(1, .int (nI x)), (4, .int 1)], [.int ((nI x) &&& 2), .int 0], M)) rfl rfl rfl ?_
                  rw [nI_an (p := x) (k := 2) (x := 2) rfl]
                  show pl _ _ _ (_, [(1, .int (nI x)), (4, .int 1)], [.int (nI (aN x 2)), .int 0], M) _
                  refine ps_if (S1 := (166, [(1, .int (nI x)), (4, .int 1)], [.int 0], M)) (S2 := (162, [(1, .int (nI x)), (4, .int 1)], [.int 0], M)) rfl rfl rfl (fun c_159 => ?_) (fun c_159 => ?_)
                  · have c_159 : (nI (aN x 2)) = 0 := of_decide_eq_true c_159
                    have n_159 : aN x 2 = 0 := (eq_nI (p := aN x 2) (n := 0) (Nat.lt_of_le_of_lt (an_le _ _) (by decide)) (by decide)).mp c_159
                    refine ps_st (S' := (167, [(4, .int 1)], [.int 0, .int 0], M)) rfl rfl rfl ?_
                    refine ps_if2 (S1 := (172, [(4, .int 1)], [], M)) (S2 := (170, [], [], M)) rfl rfl rfl (fun c_167 => ?_) (fun c_167 => ?_)
                    · exact absurd (of_decide_eq_true c_167) (by decide)
                    refine ps_st (S' := (171, [], [.int 0], M)) rfl rfl rfl ?_
                    exact ps_ret rfl rfl (⟨congrArg (fun x => some (Value.int (nI x))) (show 0 = fitN mj c x 0 from by
                        have e3 := has_0 x 1400
                        have e4 := has_0 x 1024
                        have e5 := has_0 c 512
                        have e2 := sev_0 x
                        have b1 := le1_one x
                        have ha : absN mj x = 0 := (abs_0 mj x).mpr (by omega)
                        have b2 := le1_imh mj x
                        have hi : imhN mj x = 0 := (imh_0 mj x).mpr (by omega)
                        unfold fitN
                        first | ((repeat first | rw [if_pos (by omega)] | rw [if_neg (by omega)]) <;> first | rfl | omega) | ((repeat' split) <;> first | rfl | (exfalso; omega) | omega)), rfl⟩)
                  · have c_159 : ¬ ((nI (aN x 2)) = 0) := of_decide_eq_false c_159
                    have n_159 : ¬ (aN x 2 = 0) := fun h9 => c_159 ((eq_nI (p := aN x 2) (n := 0) (Nat.lt_of_le_of_lt (an_le _ _) (by decide)) (by decide)).mpr h9)
                    refine ps_st (S' := (163, [(1, .int (nI x)), (4, .int 1)], [.int 1, .int 0], M)) rfl rfl rfl ?_
                    refine ps_st (S' := (167, [(4, .int 1)], [.int 1, .int 0], M)) rfl rfl rfl ?_
                    refine ps_if2 (S1 := (172, [(4, .int 1)], [], M)) (S2 := (170, [], [], M)) rfl rfl rfl (fun c_167 => ?_) (fun c_167 => ?_)
                    rotate_left
                    · exact absurd (by decide) (of_decide_eq_false c_167)
                    refine ps_st (S' := (174, [(4, .int 1)], [.int 1], M)) rfl rfl rfl ?_
                    refine ps_if (S1 := (181, [(4, .int 1)], [], M)) (S2 := (177, [(4, .int 1)], [], M)) rfl rfl rfl (fun c_174 => ?_) (fun c_174 => ?_)
                    rotate_left
                    · exact absurd (by decide) (of_decide_eq_false c_174)
                    refine ps_st (S' := (182, [], [.int 0], M)) rfl rfl rfl ?_
                    exact ps_ret rfl rfl (⟨congrArg (fun x => some (Value.int (nI x))) (show 0 = fitN mj c x 0 from by
                        have e3 := has_0 x 1400
                        have e4 := has_0 x 1024
                        have e5 := has_0 c 512
                        have e2 := sev_0 x
                        have b1 := le1_one x
                        have ha : absN mj x = 0 := (abs_0 mj x).mpr (by omega)
                        have b2 := le1_imh mj x
                        have hi : ¬ imhN mj x = 0 := fun h => absurd ((imh_0 mj x).mp h) (by omega)
                        unfold fitN
                        first | ((repeat first | rw [if_pos (by omega)] | rw [if_neg (by omega)]) <;> first | rfl | omega) | ((repeat' split) <;> first | rfl | (exfalso; omega) | omega)), rfl⟩)
                · have c_148 : ¬ ((nI (aN x 1)) = 0) := of_decide_eq_false c_148
                  have n_148 : ¬ (aN x 1 = 0) := fun h9 => c_148 ((eq_nI (p := aN x 1) (n := 0) (Nat.lt_of_le_of_lt (an_le _ _) (by decide)) (by decide)).mpr h9)
                  refine ps_st (S' := (152, [(4, .int 1), (0, .ref m0), (1, .int (nI x)), (3, .int 1)], [.int 1], M)) rfl rfl rfl ?_
                  refine ps_st (S' := (156, [(1, .int (nI x)), (4, .int 1)], [.int 1], M)) rfl rfl rfl ?_
                  refine ps_st (S' := (157, [(1, .int (nI x)), (4, .int 1)], [.int (nI x), .int 1], M)) rfl rfl rfl ?_
                  refine ps_st (S' := (158, [(1, .int (nI x)), (4, .int 1)], [.int 2, .int (nI x), .int 1], M)) rfl rfl rfl ?_
                  refine ps_st (S' := (159, [(1, .int (nI x)), (4, .int 1)], [.int ((nI x) &&& 2), .int 1], M)) rfl rfl rfl ?_
                  rw [nI_an (p := x) (k := 2) (x := 2) rfl]
                  show pl _ _ _ (_, [(1, .int (nI x)), (4, .int 1)], [.int (nI (aN x 2)), .int 1], M) _
                  refine ps_if (S1 := (166, [(1, .int (nI x)), (4, .int 1)], [.int 1], M)) (S2 := (162, [(1, .int (nI x)), (4, .int 1)], [.int 1], M)) rfl rfl rfl (fun c_159 => ?_) (fun c_159 => ?_)
                  · have c_159 : (nI (aN x 2)) = 0 := of_decide_eq_true c_159
                    have n_159 : aN x 2 = 0 := (eq_nI (p := aN x 2) (n := 0) (Nat.lt_of_le_of_lt (an_le _ _) (by decide)) (by decide)).mp c_159
                    refine ps_st (S' := (167, [(4, .int 1)], [.int 0, .int 1], M)) rfl rfl rfl ?_
                    refine ps_if2 (S1 := (172, [(4, .int 1)], [], M)) (S2 := (170, [], [], M)) rfl rfl rfl (fun c_167 => ?_) (fun c_167 => ?_)
                    rotate_left
                    · exact absurd (by decide) (of_decide_eq_false c_167)
                    refine ps_st (S' := (174, [(4, .int 1)], [.int 1], M)) rfl rfl rfl ?_
                    refine ps_if (S1 := (181, [(4, .int 1)], [], M)) (S2 := (177, [(4, .int 1)], [], M)) rfl rfl rfl (fun c_174 => ?_) (fun c_174 => ?_)
                    rotate_left
                    · exact absurd (by decide) (of_decide_eq_false c_174)
                    refine ps_st (S' := (182, [], [.int 0], M)) rfl rfl rfl ?_
                    exact ps_ret rfl rfl (⟨congrArg (fun x => some (Value.int (nI x))) (show 0 = fitN mj c x 0 from by
                        have e3 := has_0 x 1400
                        have e4 := has_0 x 1024
                        have e5 := has_0 c 512
                        have e2 := sev_0 x
                        have b1 := le1_one x
                        have ha : absN mj x = 0 := (abs_0 mj x).mpr (by omega)
                        have b2 := le1_imh mj x
                        have hi : ¬ imhN mj x = 0 := fun h => absurd ((imh_0 mj x).mp h) (by omega)
                        unfold fitN
                        first | ((repeat first | rw [if_pos (by omega)] | rw [if_neg (by omega)]) <;> first | rfl | omega) | ((repeat' split) <;> first | rfl | (exfalso; omega) | omega)), rfl⟩)
                  · have c_159 : ¬ ((nI (aN x 2)) = 0) := of_decide_eq_false c_159
                    have n_159 : ¬ (aN x 2 = 0) := fun h9 => c_159 ((eq_nI (p := aN x 2) (n := 0) (Nat.lt_of_le_of_lt (an_le _ _) (by decide)) (by decide)).mpr h9)
                    refine ps_st (S' := (163, [(1, .int (nI x)), (4, .int 1)], [.int 1, .int 1], M)) rfl rfl rfl ?_
                    refine ps_st (S' := (167, [(4, .int 1)], [.int 1, .int 1], M)) rfl rfl rfl ?_
                    refine ps_if2 (S1 := (172, [(4, .int 1)], [], M)) (S2 := (170, [], [], M)) rfl rfl rfl (fun c_167 => ?_) (fun c_167 => ?_)
                    · exact absurd (of_decide_eq_true c_167) (by decide)
                    refine ps_st (S' := (171, [], [.int 0], M)) rfl rfl rfl ?_
                    exact ps_ret rfl rfl (⟨congrArg (fun x => some (Value.int (nI x))) (show 0 = fitN mj c x 0 from by
                        have e3 := has_0 x 1400
                        have e4 := has_0 x 1024
                        have e5 := has_0 c 512
                        have e2 := sev_0 x
                        have b1 := le1_one x
                        have ha : absN mj x = 0 := (abs_0 mj x).mpr (by omega)
                        have b2 := le1_imh mj x
                        have hi : imhN mj x = 0 := (imh_0 mj x).mpr (by omega)
                        unfold fitN
                        first | ((repeat first | rw [if_pos (by omega)] | rw [if_neg (by omega)]) <;> first | rfl | omega) | ((repeat' split) <;> first | rfl | (exfalso; omega) | omega)), rfl⟩)
              · have c_118 : ¬ (52 ≤ (nI mj)) := of_decide_eq_false c_118
                have n_118 : ¬ (52 ≤ mj) := fun h9 => c_118 ((le_nI (p := 52) (n := mj) (by decide) (by omega)).mpr h9)
                refine ps_st (S' := (122, [(4, .int 1), (0, .ref m0), (1, .int (nI x)), (3, .int 1)], [.int (nI x)], M)) rfl rfl rfl ?_
                refine ps_st (S' := (123, [(4, .int 1), (0, .ref m0), (1, .int (nI x)), (3, .int 1)], [.int 1, .int (nI x)], M)) rfl rfl rfl ?_
                refine ps_st (S' := (124, [(4, .int 1), (0, .ref m0), (1, .int (nI x)), (3, .int 1)], [.int ((nI x) &&& 1)], M)) rfl rfl rfl ?_
                rw [nI_an (p := x) (k := 1) (x := 1) rfl]
                show pl _ _ _ (_, [(4, .int 1), (0, .ref m0), (1, .int (nI x)), (3, .int 1)], [.int (nI (aN x 1))], M) _
                refine ps_if (S1 := (170, [], [], M)) (S2 := (127, [(4, .int 1), (0, .ref m0), (1, .int (nI x)), (3, .int 1)], [], M)) rfl rfl rfl (fun c_124 => ?_) (fun c_124 => ?_)
                · have c_124 : (nI (aN x 1)) = 0 := of_decide_eq_true c_124
                  have n_124 : aN x 1 = 0 := (eq_nI (p := aN x 1) (n := 0) (Nat.lt_of_le_of_lt (an_le _ _) (by decide)) (by decide)).mp c_124
                  refine ps_st (S' := (171, [], [.int 0], M)) rfl rfl rfl ?_
                  exact ps_ret rfl rfl (⟨congrArg (fun x => some (Value.int (nI x))) (show 0 = fitN mj c x 0 from by
                      have e3 := has_0 x 1400
                      have e4 := has_0 x 1024
                      have e5 := has_0 c 512
                      have e2 := sev_0 x
                      have b1 := le1_one x
                      have ha : absN mj x = 0 := (abs_0 mj x).mpr (by omega)
                      have b2 := le1_imh mj x
                      have hi : imhN mj x = 0 := (imh_0 mj x).mpr (by omega)
                      unfold fitN
                      first | ((repeat first | rw [if_pos (by omega)] | rw [if_neg (by omega)]) <;> first | rfl | omega) | ((repeat' split) <;> first | rfl | (exfalso; omega) | omega)), rfl⟩)
                · have c_124 : ¬ ((nI (aN x 1)) = 0) := of_decide_eq_false c_124
                  have n_124 : ¬ (aN x 1 = 0) := fun h9 => c_124 ((eq_nI (p := aN x 1) (n := 0) (Nat.lt_of_le_of_lt (an_le _ _) (by decide)) (by decide)).mpr h9)
                  refine ps_st (S' := (128, [(4, .int 1), (0, .ref m0), (1, .int (nI x)), (3, .int 1)], [.int (nI x)], M)) rfl rfl rfl ?_
                  refine ps_st (S' := (131, [(4, .int 1), (0, .ref m0), (1, .int (nI x)), (3, .int 1)], [.int 1024, .int (nI x)], M)) rfl rfl rfl ?_
                  refine ps_st (S' := (132, [(4, .int 1), (0, .ref m0), (1, .int (nI x)), (3, .int 1)], [.int ((nI x) &&& 1024)], M)) rfl rfl rfl ?_
                  rw [nI_an (p := x) (k := 1024) (x := 1024) rfl]
                  show pl _ _ _ (_, [(4, .int 1), (0, .ref m0), (1, .int (nI x)), (3, .int 1)], [.int (nI (aN x 1024))], M) _
                  refine ps_if (S1 := (170, [], [], M)) (S2 := (135, [(4, .int 1), (0, .ref m0), (1, .int (nI x)), (3, .int 1)], [], M)) rfl rfl rfl (fun c_132 => ?_) (fun c_132 => ?_)
                  · exact absurd (of_decide_eq_true c_132) (show ¬ ((nI (aN x 1024)) = 0) from fun h9 => absurd ((eq_nI (p := aN x 1024) (n := 0) (Nat.lt_of_le_of_lt (an_le _ _) (by decide)) (by decide)).mp h9) (by omega))
                  refine ps_st (S' := (136, [(4, .int 1), (0, .ref m0), (1, .int (nI x)), (3, .int 1)], [.int (nI x)], M)) rfl rfl rfl ?_
                  refine ps_st (S' := (138, [(4, .int 1), (0, .ref m0), (1, .int (nI x)), (3, .int 1)], [.int 8, .int (nI x)], M)) rfl rfl rfl ?_
                  refine ps_st (S' := (139, [(4, .int 1), (0, .ref m0), (1, .int (nI x)), (3, .int 1)], [.int ((nI x) &&& 8)], M)) rfl rfl rfl ?_
                  rw [nI_an (p := x) (k := 8) (x := 8) rfl]
                  show pl _ _ _ (_, [(4, .int 1), (0, .ref m0), (1, .int (nI x)), (3, .int 1)], [.int (nI (aN x 8))], M) _
                  refine ps_if (S1 := (172, [(4, .int 1)], [], M)) (S2 := (142, [(4, .int 1), (0, .ref m0), (1, .int (nI x)), (3, .int 1)], [], M)) rfl rfl rfl (fun c_139 => ?_) (fun c_139 => ?_)
                  · have c_139 : (nI (aN x 8)) = 0 := of_decide_eq_true c_139
                    have n_139 : aN x 8 = 0 := (eq_nI (p := aN x 8) (n := 0) (Nat.lt_of_le_of_lt (an_le _ _) (by decide)) (by decide)).mp c_139
                    refine ps_st (S' := (174, [(4, .int 1)], [.int 1], M)) rfl rfl rfl ?_
                    refine ps_if (S1 := (181, [(4, .int 1)], [], M)) (S2 := (177, [(4, .int 1)], [], M)) rfl rfl rfl (fun c_174 => ?_) (fun c_174 => ?_)
                    rotate_left
                    · exact absurd (by decide) (of_decide_eq_false c_174)
                    refine ps_st (S' := (182, [], [.int 0], M)) rfl rfl rfl ?_
                    exact ps_ret rfl rfl (⟨congrArg (fun x => some (Value.int (nI x))) (show 0 = fitN mj c x 0 from by
                        have e3 := has_0 x 1400
                        have e4 := has_0 x 1024
                        have e5 := has_0 c 512
                        have e2 := sev_0 x
                        have b1 := le1_one x
                        have ha : absN mj x = 0 := (abs_0 mj x).mpr (by omega)
                        have b2 := le1_imh mj x
                        have hi : ¬ imhN mj x = 0 := fun h => absurd ((imh_0 mj x).mp h) (by omega)
                        unfold fitN
                        first | ((repeat first | rw [if_pos (by omega)] | rw [if_neg (by omega)]) <;> first | rfl | omega) | ((repeat' split) <;> first | rfl | (exfalso; omega) | omega)), rfl⟩)
                  · have c_139 : ¬ ((nI (aN x 8)) = 0) := of_decide_eq_false c_139
                    have n_139 : ¬ (aN x 8 = 0) := fun h9 => c_139 ((eq_nI (p := aN x 8) (n := 0) (Nat.lt_of_le_of_lt (an_le _ _) (by decide)) (by decide)).mpr h9)
                    refine ps_st (S' := (170, [], [], M)) rfl rfl rfl ?_
                    refine ps_st (S' := (171, [], [.int 0], M)) rfl rfl rfl ?_
                    exact ps_ret rfl rfl (⟨congrArg (fun x => some (Value.int (nI x))) (show 0 = fitN mj c x 0 from by
                        have e3 := has_0 x 1400
                        have e4 := has_0 x 1024
                        have e5 := has_0 c 512
                        have e2 := sev_0 x
                        have b1 := le1_one x
                        have ha : absN mj x = 0 := (abs_0 mj x).mpr (by omega)
                        have b2 := le1_imh mj x
                        have hi : imhN mj x = 0 := (imh_0 mj x).mpr (by omega)
                        unfold fitN
                        first | ((repeat first | rw [if_pos (by omega)] | rw [if_neg (by omega)]) <;> first | rfl | omega) | ((repeat' split) <;> first | rfl | (exfalso; omega) | omega)), rfl⟩)
            · have c_107 : ¬ ((nI (aN x 308)) = 0) := of_decide_eq_false c_107
              have n_107 : ¬ (aN x 308 = 0) := fun h9 => c_107 ((eq_nI (p := aN x 308) (n := 0) (Nat.lt_of_le_of_lt (an_le _ _) (by decide)) (by decide)).mpr h9)
              refine ps_st (S' := (111, [(4, .int 1), (0, .ref m0), (1, .int (nI x)), (3, .int 1)], [.int 0], M)) rfl rfl rfl ?_
              exact ps_ret rfl rfl (⟨congrArg (fun x => some (Value.int (nI x))) (show 0 = fitN mj c x 0 from by
                  have e3 := has_0 x 1400
                  have e4 := has_0 x 1024
                  have e5 := has_0 c 512
                  have e2 := sev_0 x
                  have b1 := le1_one x
                  have ha : absN mj x = 0 := (abs_0 mj x).mpr (by omega)
                  have b2 := le1_imh mj x
                  have hi : imhN mj x = 0 := (imh_0 mj x).mpr (by omega)
                  unfold fitN
                  first | ((repeat first | rw [if_pos (by omega)] | rw [if_neg (by omega)]) <;> first | rfl | omega) | ((repeat' split) <;> first | rfl | (exfalso; omega) | omega)), rfl⟩)
set_option maxHeartbeats 8000000 in
theorem rd_fit10 {g : xe_G} {m0 : Nat} {q : Nat → Nat} {z : Nat × Nat} {I : rI} {R : rR} {M : mi_H} {mj x c : Nat} (hR : RS g m0 q z I R M) (hi53 : I 53 = some (nI mj))  (hmj : mj < 65536) (hx : x < 65536) (hc : aN c 512 = 0) : pt (mT g) 209 [.ref m0, .int (nI x), .int 1, .int 0] M (fun v M' => (v = some (.int (nI (fitN mj c x 1))) ∧ M = M')) := by
  refine pt_in (b := mb_209 g) rfl (fun kf => ?_)
  show pl (mT g) kf (mb_209 g).2 (0, [(0, .ref m0), (1, .int (nI x)), (2, .int 1), (3, .int 0)], [], M) _
  refine ps_st (S' := (1, [(0, .ref m0), (1, .int (nI x)), (2, .int 1), (3, .int 0)], [.int 1], M)) rfl rfl rfl ?_
  refine ps_if (S1 := (28, [(0, .ref m0), (1, .int (nI x)), (2, .int 1), (3, .int 0)], [], M)) (S2 := (4, [(0, .ref m0), (1, .int (nI x)), (2, .int 1), (3, .int 0)], [], M)) rfl rfl rfl (fun c_1 => ?_) (fun c_1 => ?_)
  · exact absurd (of_decide_eq_true c_1) (by decide)
  refine ps_st (S' := (5, [(0, .ref m0), (1, .int (nI x)), (2, .int 1), (3, .int 0)], [.int (nI x)], M)) rfl rfl rfl ?_
  refine ps_st (S' := (6, [(0, .ref m0), (1, .int (nI x)), (2, .int 1), (3, .int 0)], [.int 1, .int (nI x)], M)) rfl rfl rfl ?_
  refine ps_st (S' := (7, [(0, .ref m0), (1, .int (nI x)), (2, .int 1), (3, .int 0)], [.int 2, .int 1, .int (nI x)], M)) rfl rfl rfl ?_
  refine ps_st (S' := (8, [(0, .ref m0), (1, .int (nI x)), (2, .int 1), (3, .int 0)], [.int 4, .int 2, .int 1, .int (nI x)], M)) rfl rfl rfl ?_
  refine pl_call (a := [.int (nI x), .int 1, .int 2, .int 4]) (rest := []) rfl rfl rfl (rd_several (x := x)) (fun v1 M2 q3 => ?_)
  obtain ⟨rfl, rfl⟩ := q3
  show pl _ _ _ (11, [(0, .ref m0), (1, .int (nI x)), (2, .int 1), (3, .int 0)], [.int (nI (sevN x))], M) _
  refine ps_if (S1 := (26, [], [], M)) (S2 := (14, [(0, .ref m0), (1, .int (nI x)), (2, .int 1), (3, .int 0)], [], M)) rfl rfl rfl (fun c_11 => ?_) (fun c_11 => ?_)
  · have c_11 : ¬ (nI (sevN x)) = 0 := of_decide_eq_true c_11
    have n_11 : ¬ (sevN x = 0) := fun h9 => c_11 ((eq_nI (p := sevN x) (n := 0) (Nat.lt_trans (le1_sev _) (by decide)) (by decide)).mpr h9)
    refine ps_st (S' := (27, [], [.int 0], M)) rfl rfl rfl ?_
    exact ps_ret rfl rfl (⟨congrArg (fun x => some (Value.int (nI x))) (show 0 = fitN mj c x 1 from by
        have e3 := has_0 x 1400
        have e4 := has_0 x 1024
        have e5 := has_0 c 512
        have e2 := sev_0 x
        have b1 := le1_one x
        unfold fitN
        first | ((repeat first | rw [if_pos (by omega)] | rw [if_neg (by omega)]) <;> first | rfl | omega) | ((repeat' split) <;> first | rfl | (exfalso; omega) | omega)), rfl⟩)
  · have c_11 : ¬ (¬ (nI (sevN x)) = 0) := of_decide_eq_false c_11
    have n_11 : sevN x = 0 := (eq_nI (p := sevN x) (n := 0) (Nat.lt_trans (le1_sev _) (by decide)) (by decide)).mp (Decidable.not_not.mp c_11)
    refine ps_st (S' := (15, [(0, .ref m0), (1, .int (nI x)), (2, .int 1), (3, .int 0)], [.int (nI x)], M)) rfl rfl rfl ?_
    refine ps_st (S' := (18, [(0, .ref m0), (1, .int (nI x)), (2, .int 1), (3, .int 0)], [.int 1400, .int (nI x)], M)) rfl rfl rfl ?_
    refine ps_st (S' := (19, [(0, .ref m0), (1, .int (nI x)), (2, .int 1), (3, .int 0)], [.int ((nI x) &&& 1400)], M)) rfl rfl rfl ?_
    rw [nI_an (p := x) (k := 1400) (x := 1400) rfl]
    show pl _ _ _ (_, [(0, .ref m0), (1, .int (nI x)), (2, .int 1), (3, .int 0)], [.int (nI (aN x 1400))], M) _
    refine ps_if (S1 := (26, [], [], M)) (S2 := (22, [(0, .ref m0), (1, .int (nI x)), (2, .int 1), (3, .int 0)], [], M)) rfl rfl rfl (fun c_19 => ?_) (fun c_19 => ?_)
    · have c_19 : ¬ (nI (aN x 1400)) = 0 := of_decide_eq_true c_19
      have n_19 : ¬ (aN x 1400 = 0) := fun h9 => c_19 ((eq_nI (p := aN x 1400) (n := 0) (Nat.lt_of_le_of_lt (an_le _ _) (by decide)) (by decide)).mpr h9)
      refine ps_st (S' := (27, [], [.int 0], M)) rfl rfl rfl ?_
      exact ps_ret rfl rfl (⟨congrArg (fun x => some (Value.int (nI x))) (show 0 = fitN mj c x 1 from by
          have e3 := has_0 x 1400
          have e4 := has_0 x 1024
          have e5 := has_0 c 512
          have e2 := sev_0 x
          have b1 := le1_one x
          unfold fitN
          first | ((repeat first | rw [if_pos (by omega)] | rw [if_neg (by omega)]) <;> first | rfl | omega) | ((repeat' split) <;> first | rfl | (exfalso; omega) | omega)), rfl⟩)
    · have c_19 : ¬ (¬ (nI (aN x 1400)) = 0) := of_decide_eq_false c_19
      have n_19 : aN x 1400 = 0 := (eq_nI (p := aN x 1400) (n := 0) (Nat.lt_of_le_of_lt (an_le _ _) (by decide)) (by decide)).mp (Decidable.not_not.mp c_19)
      refine ps_st (S' := (23, [(0, .ref m0), (1, .int (nI x)), (2, .int 1), (3, .int 0)], [.int 1], M)) rfl rfl rfl ?_
      refine ps_st (S' := (27, [], [.int 1], M)) rfl rfl rfl ?_
      exact ps_ret rfl rfl (⟨congrArg (fun x => some (Value.int (nI x))) (show 1 = fitN mj c x 1 from by
          have e3 := has_0 x 1400
          have e4 := has_0 x 1024
          have e5 := has_0 c 512
          have e2 := sev_0 x
          have b1 := le1_one x
          unfold fitN
          first | ((repeat first | rw [if_pos (by omega)] | rw [if_neg (by omega)]) <;> first | rfl | omega) | ((repeat' split) <;> first | rfl | (exfalso; omega) | omega)), rfl⟩)
set_option maxHeartbeats 8000000 in
theorem rd_fit11 {g : xe_G} {m0 : Nat} {q : Nat → Nat} {z : Nat × Nat} {I : rI} {R : rR} {M : mi_H} {mj x c : Nat} (hR : RS g m0 q z I R M) (hi53 : I 53 = some (nI mj))  (hmj : mj < 65536) (hx : x < 65536) (hc : ¬ aN c 512 = 0) : pt (mT g) 209 [.ref m0, .int (nI x), .int 1, .int 1] M (fun v M' => (v = some (.int (nI (fitN mj c x 1))) ∧ M = M')) := by
  refine pt_in (b := mb_209 g) rfl (fun kf => ?_)
  show pl (mT g) kf (mb_209 g).2 (0, [(0, .ref m0), (1, .int (nI x)), (2, .int 1), (3, .int 1)], [], M) _
  refine ps_st (S' := (1, [(0, .ref m0), (1, .int (nI x)), (2, .int 1), (3, .int 1)], [.int 1], M)) rfl rfl rfl ?_
  refine ps_if (S1 := (28, [(0, .ref m0), (1, .int (nI x)), (2, .int 1), (3, .int 1)], [], M)) (S2 := (4, [(0, .ref m0), (1, .int (nI x)), (2, .int 1), (3, .int 1)], [], M)) rfl rfl rfl (fun c_1 => ?_) (fun c_1 => ?_)
  · exact absurd (of_decide_eq_true c_1) (by decide)
  refine ps_st (S' := (5, [(0, .ref m0), (1, .int (nI x)), (2, .int 1), (3, .int 1)], [.int (nI x)], M)) rfl rfl rfl ?_
  refine ps_st (S' := (6, [(0, .ref m0), (1, .int (nI x)), (2, .int 1), (3, .int 1)], [.int 1, .int (nI x)], M)) rfl rfl rfl ?_
  refine ps_st (S' := (7, [(0, .ref m0), (1, .int (nI x)), (2, .int 1), (3, .int 1)], [.int 2, .int 1, .int (nI x)], M)) rfl rfl rfl ?_
  refine ps_st (S' := (8, [(0, .ref m0), (1, .int (nI x)), (2, .int 1), (3, .int 1)], [.int 4, .int 2, .int 1, .int (nI x)], M)) rfl rfl rfl ?_
  refine pl_call (a := [.int (nI x), .int 1, .int 2, .int 4]) (rest := []) rfl rfl rfl (rd_several (x := x)) (fun v1 M2 q3 => ?_)
  obtain ⟨rfl, rfl⟩ := q3
  show pl _ _ _ (11, [(0, .ref m0), (1, .int (nI x)), (2, .int 1), (3, .int 1)], [.int (nI (sevN x))], M) _
  refine ps_if (S1 := (26, [], [], M)) (S2 := (14, [(0, .ref m0), (1, .int (nI x)), (2, .int 1), (3, .int 1)], [], M)) rfl rfl rfl (fun c_11 => ?_) (fun c_11 => ?_)
  · have c_11 : ¬ (nI (sevN x)) = 0 := of_decide_eq_true c_11
    have n_11 : ¬ (sevN x = 0) := fun h9 => c_11 ((eq_nI (p := sevN x) (n := 0) (Nat.lt_trans (le1_sev _) (by decide)) (by decide)).mpr h9)
    refine ps_st (S' := (27, [], [.int 0], M)) rfl rfl rfl ?_
    exact ps_ret rfl rfl (⟨congrArg (fun x => some (Value.int (nI x))) (show 0 = fitN mj c x 1 from by
        have e3 := has_0 x 1400
        have e4 := has_0 x 1024
        have e5 := has_0 c 512
        have e2 := sev_0 x
        have b1 := le1_one x
        unfold fitN
        first | ((repeat first | rw [if_pos (by omega)] | rw [if_neg (by omega)]) <;> first | rfl | omega) | ((repeat' split) <;> first | rfl | (exfalso; omega) | omega)), rfl⟩)
  · have c_11 : ¬ (¬ (nI (sevN x)) = 0) := of_decide_eq_false c_11
    have n_11 : sevN x = 0 := (eq_nI (p := sevN x) (n := 0) (Nat.lt_trans (le1_sev _) (by decide)) (by decide)).mp (Decidable.not_not.mp c_11)
    refine ps_st (S' := (15, [(0, .ref m0), (1, .int (nI x)), (2, .int 1), (3, .int 1)], [.int (nI x)], M)) rfl rfl rfl ?_
    refine ps_st (S' := (18, [(0, .ref m0), (1, .int (nI x)), (2, .int 1), (3, .int 1)], [.int 1400, .int (nI x)], M)) rfl rfl rfl ?_
    refine ps_st (S' := (19, [(0, .ref m0), (1, .int (nI x)), (2, .int 1), (3, .int 1)], [.int ((nI x) &&& 1400)], M)) rfl rfl rfl ?_
    rw [nI_an (p := x) (k := 1400) (x := 1400) rfl]
    show pl _ _ _ (_, [(0, .ref m0), (1, .int (nI x)), (2, .int 1), (3, .int 1)], [.int (nI (aN x 1400))], M) _
    refine ps_if (S1 := (26, [], [], M)) (S2 := (22, [(0, .ref m0), (1, .int (nI x)), (2, .int 1), (3, .int 1)], [], M)) rfl rfl rfl (fun c_19 => ?_) (fun c_19 => ?_)
    · have c_19 : ¬ (nI (aN x 1400)) = 0 := of_decide_eq_true c_19
      have n_19 : ¬ (aN x 1400 = 0) := fun h9 => c_19 ((eq_nI (p := aN x 1400) (n := 0) (Nat.lt_of_le_of_lt (an_le _ _) (by decide)) (by decide)).mpr h9)
      refine ps_st (S' := (27, [], [.int 0], M)) rfl rfl rfl ?_
      exact ps_ret rfl rfl (⟨congrArg (fun x => some (Value.int (nI x))) (show 0 = fitN mj c x 1 from by
          have e3 := has_0 x 1400
          have e4 := has_0 x 1024
          have e5 := has_0 c 512
          have e2 := sev_0 x
          have b1 := le1_one x
          unfold fitN
          first | ((repeat first | rw [if_pos (by omega)] | rw [if_neg (by omega)]) <;> first | rfl | omega) | ((repeat' split) <;> first | rfl | (exfalso; omega) | omega)), rfl⟩)
    · have c_19 : ¬ (¬ (nI (aN x 1400)) = 0) := of_decide_eq_false c_19
      have n_19 : aN x 1400 = 0 := (eq_nI (p := aN x 1400) (n := 0) (Nat.lt_of_le_of_lt (an_le _ _) (by decide)) (by decide)).mp (Decidable.not_not.mp c_19)
      refine ps_st (S' := (23, [(0, .ref m0), (1, .int (nI x)), (2, .int 1), (3, .int 1)], [.int 1], M)) rfl rfl rfl ?_
      refine ps_st (S' := (27, [], [.int 1], M)) rfl rfl rfl ?_
      exact ps_ret rfl rfl (⟨congrArg (fun x => some (Value.int (nI x))) (show 1 = fitN mj c x 1 from by
          have e3 := has_0 x 1400
          have e4 := has_0 x 1024
          have e5 := has_0 c 512
          have e2 := sev_0 x
          have b1 := le1_one x
          unfold fitN
          first | ((repeat first | rw [if_pos (by omega)] | rw [if_neg (by omega)]) <;> first | rfl | omega) | ((repeat' split) <;> first | rfl | (exfalso; omega) | omega)), rfl⟩)
set_option maxHeartbeats 8000000 in
theorem rd_checkClass {g : xe_G} {m0 : Nat} {q : Nat → Nat} {z : Nat × Nat} {I : rI} {R : rR} {M : mi_H} {n : Nat} {f : Nat → Int32} {tx : List (List Nat)} {cN : Nat} {A : Nat → Nat} {N mj : Nat} {E : List (Nat × Nat)} {hA s3 : Nat} (hR : RS g m0 q z I R M) (hi54 : I 54 = some (nI hA)) (hi11 : I 11 = some (nI s3)) (hi51 : I 51 = some 0) (hi52 : I 52 = some (nI N)) (hi53 : I 53 = some (nI mj)) (hF : FK n f I R) (hY : SYT tx cN A I R) (hP : RPV f n E tx N I R) (hEP : EP f n E) (hN : N < 65536) (hmj : mj < 65536) (hs3 : s3 < tx.length ∧ tx.getD s3 [] = ltx 27) (hCP : CP f n E) (hin : hA + 8 + 2 * by2 f (hA + 6) ≤ n) : pt (mT g) 188 [.ref m0] M (fun v M' => (∃  (I' : rI) (R' : rR), (ccS f n E hA = none) ∧ v = some (.int 1) ∧ RS g m0 q z I' R' M' ∧ eqI [47, 48, 58, 59, 60, 61] I I' ∧ eqR [] R R' ∧ I' 58 = some (nI (by2 f hA))) ∨ (∃ (e : Nat × Nat) (I' : rI) (R' : rR), (ccS f n E hA = some e) ∧ v = some (.int 0) ∧ RS g m0 q z I' R' M' ∧ eqI [47, 48, 58, 59, 60, 61] I I' ∧ eqR [] R R' ∧ I' 47 = some (nI e.1) ∧ I' 48 = some (nI e.2))) := by
  refine pt_in (b := mb_188 g) rfl (fun kf => ?_)
  show pl (mT g) kf (mb_188 g).2 (0, [(0, .ref m0)], [], M) _
  have hEI : eqI [47, 48, 58, 59, 60, 61] I I := eqI.rf
  have hER : eqR [] R R := eqR.rf
  have hn := hF.1
  have htl := hY.1.2.2.1
  have LL : ∀ (kf : Nat), (∀ (i : Nat) (M1 : mi_H) (I1 : rI) (R1 : rR), (RS g m0 q z I1 R1 M1) → (eqI [47, 48, 58, 59, 60, 61] I I1) → (eqR [] R R1) → (I1 54 = some (nI hA)) → (I1 11 = some (nI s3)) → (I1 51 = some 0) → (I1 52 = some (nI N)) → (I1 53 = some (nI mj)) → (I1 58 = some (nI (by2 f hA))) → (FK n f I1 R1) → (SYT tx cN A I1 R1) → (RPV f n E tx N I1 R1) → (hdS f n E hA = none) → (i ≤ by2 f (hA + 6)) → (ifS f n E (hA + 8) (by2 f (hA + 6) - i) i = ifS f n E (hA + 8) (by2 f (hA + 6)) 0) → (∀ j, j < i → ¬ plnN f n E (by2 f (hA + 8 + 2 * j)) = 0) →  pl (mT g) kf (mb_188 g).2 (242, [(0, .ref m0), (4, .int (nI (by2 f (hA + 6)))), (5, .int (nI i))], [], M1) (fun v M' => (∃  (I' : rI) (R' : rR), (ccS f n E hA = none) ∧ v = some (.int 1) ∧ RS g m0 q z I' R' M' ∧ eqI [47, 48, 58, 59, 60, 61] I I' ∧ eqR [] R R' ∧ I' 58 = some (nI (by2 f hA))) ∨ (∃ (e : Nat × Nat) (I' : rI) (R' : rR), (ccS f n E hA = some e) ∧ v = some (.int 0) ∧ RS g m0 q z I' R' M' ∧ eqI [47, 48, 58, 59, 60, 61] I I' ∧ eqR [] R R' ∧ I' 47 = some (nI e.1) ∧ I' 48 = some (nI e.2)))) ∧ (∀ (i j : Nat) (M1 : mi_H) (I1 : rI) (R1 : rR), (RS g m0 q z I1 R1 M1) → (eqI [47, 48, 58, 59, 60, 61] I I1) → (eqR [] R R1) → (I1 54 = some (nI hA)) → (I1 11 = some (nI s3)) → (I1 51 = some 0) → (I1 52 = some (nI N)) → (I1 53 = some (nI mj)) → (I1 58 = some (nI (by2 f hA))) → (FK n f I1 R1) → (SYT tx cN A I1 R1) → (RPV f n E tx N I1 R1) → (hdS f n E hA = none) → (i < by2 f (hA + 6)) → (j ≤ i) → (ifS f n E (hA + 8) (by2 f (hA + 6) - i) i = ifS f n E (hA + 8) (by2 f (hA + 6)) 0) → (¬ plnN f n E (by2 f (hA + 8 + 2 * i)) = 0) → (∀ j, j < i → ¬ plnN f n E (by2 f (hA + 8 + 2 * j)) = 0) → (dupN f n E (hA + 8) (by2 f (hA + 8 + 2 * i)) (i - j) j = dupN f n E (hA + 8) (by2 f (hA + 8 + 2 * i)) i 0) →  pl (mT g) kf (mb_188 g).2 (288, [(0, .ref m0), (4, .int (nI (by2 f (hA + 6)))), (5, .int (nI i)), (6, .int (nI (hA + 8 + 2 * i))), (7, .int (nI j))], [], M1) (fun v M' => (∃  (I' : rI) (R' : rR), (ccS f n E hA = none) ∧ v = some (.int 1) ∧ RS g m0 q z I' R' M' ∧ eqI [47, 48, 58, 59, 60, 61] I I' ∧ eqR [] R R' ∧ I' 58 = some (nI (by2 f hA))) ∨ (∃ (e : Nat × Nat) (I' : rI) (R' : rR), (ccS f n E hA = some e) ∧ v = some (.int 0) ∧ RS g m0 q z I' R' M' ∧ eqI [47, 48, 58, 59, 60, 61] I I' ∧ eqR [] R R' ∧ I' 47 = some (nI e.1) ∧ I' 48 = some (nI e.2)))) := by
    intro kf
    induction kf with
    | zero => exact ⟨by intros; exact pl_0, by intros; exact pl_0⟩
    | succ kf ih =>
      refine ⟨?_, ?_⟩
      · skip
        intro i M1 I1 R1 hR1 hEI1 hER1 hl54 hl11 hl51 hl52 hl53 hl58 hF1 hY1 hP1 hh hi hs hq
        have hn := hF1.1
        have hu9 := by2_lt f (hA + 6)
        have htl := hY1.1.2.2.1
        refine ps_st1 (S' := (244, [(0, .ref m0), (4, .int (nI (by2 f (hA + 6)))), (5, .int (nI i))], [.int (nI i)], M1)) rfl rfl rfl ?_
        refine ps_st (S' := (246, [(0, .ref m0), (4, .int (nI (by2 f (hA + 6)))), (5, .int (nI i))], [.int (nI (by2 f (hA + 6))), .int (nI i)], M1)) rfl rfl rfl ?_
        refine ps_if2 (S1 := (349, [(0, .ref m0), (4, .int (nI (by2 f (hA + 6)))), (5, .int (nI i))], [], M1)) (S2 := (249, [(0, .ref m0), (4, .int (nI (by2 f (hA + 6)))), (5, .int (nI i))], [], M1)) rfl rfl rfl (fun c_246 => ?_) (fun c_246 => ?_)
        · have c_246 : (nI (by2 f (hA + 6))) ≤ (nI i) := of_decide_eq_true c_246
          have n_246 : by2 f (hA + 6) ≤ i := (le_nI (p := by2 f (hA + 6)) (n := i) (Nat.lt_trans (by2_lt _ _) (by decide)) (by omega)).mp c_246
          refine ps_st (S' := (350, [(0, .ref m0), (4, .int (nI (by2 f (hA + 6)))), (5, .int (nI i))], [.ref m0], M1)) rfl rfl rfl ?_
          refine ps_st (S' := (352, [(0, .ref m0), (4, .int (nI (by2 f (hA + 6)))), (5, .int (nI i))], [.int (nI (by2 f (hA + 6))), .ref m0], M1)) rfl rfl rfl ?_
          refine pr_put (j := 61) rfl hR1 rfl (fun M1 I2 hR3 hi4 hI5 => ?_)
          have hi6 := (hI5 54 (by decide)).trans hl54
          have hi7 := (hI5 11 (by decide)).trans hl11
          have hi8 := (hI5 51 (by decide)).trans hl51
          have hi9 := (hI5 52 (by decide)).trans hl52
          have hi10 := (hI5 53 (by decide)).trans hl53
          have hi11 := (hI5 58 (by decide)).trans hl58
          have hF_12 := hF1.mono (pIx hI5 (by decide)) (fun _ _ => rfl)
          have hY_13 := hY1.mono (pIx hI5 (by decide)) (fun _ _ => rfl)
          have hP_14 := hP1.mono (pIx hI5 (by decide)) (fun _ _ => rfl)
          have hEI15 := hEI1.put hI5 (by decide)
          show pl _ _ _ (355, [(0, .ref m0), (4, .int (nI (by2 f (hA + 6)))), (5, .int (nI i))], [], M1) _
          refine ps_st (S' := (356, [(0, .ref m0), (4, .int (nI (by2 f (hA + 6)))), (5, .int (nI i))], [.int 1], M1)) rfl rfl rfl ?_
          exact ps_ret rfl rfl (Or.inl ⟨I2, R1, by
              unfold ccS
              rw [hh]
              dsimp only
              rw [← hs, show by2 f (hA + 6) - i = 0 by omega]
              rfl, rfl, hR3, hEI15, hER1, hi11⟩)
        · have c_246 : ¬ ((nI (by2 f (hA + 6))) ≤ (nI i)) := of_decide_eq_false c_246
          have n_246 : ¬ (by2 f (hA + 6) ≤ i) := fun h9 => c_246 ((le_nI (p := by2 f (hA + 6)) (n := i) (Nat.lt_trans (by2_lt _ _) (by decide)) (by omega)).mpr h9)
          refine ps_st (S' := (250, [(0, .ref m0), (4, .int (nI (by2 f (hA + 6)))), (5, .int (nI i))], [.ref m0], M1)) rfl rfl rfl ?_
          refine pr_int (j := 54) (S' := (253, [(0, .ref m0), (4, .int (nI (by2 f (hA + 6)))), (5, .int (nI i))], [.int (nI hA)], M1)) rfl hR1 rfl hl54 rfl ?_
          refine ps_st (S' := (255, [(0, .ref m0), (4, .int (nI (by2 f (hA + 6)))), (5, .int (nI i))], [.int 8, .int (nI hA)], M1)) rfl rfl rfl ?_
          refine ps_st (S' := (256, [(0, .ref m0), (4, .int (nI (by2 f (hA + 6)))), (5, .int (nI i))], [.int ((nI hA) + 8)], M1)) rfl rfl rfl ?_
          rw [nI_add1 (p := hA) (k := 8) (x := 8) rfl (by omega)]
          show pl _ _ _ (_, [(0, .ref m0), (4, .int (nI (by2 f (hA + 6)))), (5, .int (nI i))], [.int (nI (hA + 8))], M1) _
          refine ps_st (S' := (257, [(0, .ref m0), (4, .int (nI (by2 f (hA + 6)))), (5, .int (nI i))], [.int 2, .int (nI (hA + 8))], M1)) rfl rfl rfl ?_
          refine ps_st (S' := (259, [(0, .ref m0), (4, .int (nI (by2 f (hA + 6)))), (5, .int (nI i))], [.int (nI i), .int 2, .int (nI (hA + 8))], M1)) rfl rfl rfl ?_
          refine ps_st (S' := (260, [(0, .ref m0), (4, .int (nI (by2 f (hA + 6)))), (5, .int (nI i))], [.int (2 * (nI i)), .int (nI (hA + 8))], M1)) rfl rfl rfl ?_
          rw [nI_mul1 (p := 2) (k := i) (x := 2) (y := (nI i)) rfl rfl (by omega)]
          show pl _ _ _ (_, [(0, .ref m0), (4, .int (nI (by2 f (hA + 6)))), (5, .int (nI i))], [.int (nI (2 * i)), .int (nI (hA + 8))], M1) _
          refine ps_st (S' := (261, [(0, .ref m0), (4, .int (nI (by2 f (hA + 6)))), (5, .int (nI i))], [.int ((nI (hA + 8)) + (nI (2 * i)))], M1)) rfl rfl rfl ?_
          rw [nI_add1 (p := hA + 8) (k := 2 * i) (x := (nI (2 * i))) rfl (by omega)]
          show pl _ _ _ (_, [(0, .ref m0), (4, .int (nI (by2 f (hA + 6)))), (5, .int (nI i))], [.int (nI (hA + 8 + 2 * i))], M1) _
          refine ps_st (S' := (263, [(6, .int (nI (hA + 8 + 2 * i))), (0, .ref m0), (4, .int (nI (by2 f (hA + 6)))), (5, .int (nI i))], [], M1)) rfl rfl rfl ?_
          refine ps_st (S' := (264, [(6, .int (nI (hA + 8 + 2 * i))), (0, .ref m0), (4, .int (nI (by2 f (hA + 6)))), (5, .int (nI i))], [.ref m0], M1)) rfl rfl rfl ?_
          refine ps_st (S' := (265, [(6, .int (nI (hA + 8 + 2 * i))), (0, .ref m0), (4, .int (nI (by2 f (hA + 6)))), (5, .int (nI i))], [.ref m0, .ref m0], M1)) rfl rfl rfl ?_
          refine ps_st (S' := (267, [(6, .int (nI (hA + 8 + 2 * i))), (0, .ref m0), (4, .int (nI (by2 f (hA + 6)))), (5, .int (nI i))], [.int (nI (hA + 8 + 2 * i)), .ref m0, .ref m0], M1)) rfl rfl rfl ?_
          refine pl_call (a := [.ref m0, .int (nI (hA + 8 + 2 * i))]) (rest := [.ref m0]) rfl rfl rfl (rd_u2 (n := n) (f := f) (p := (hA + 8 + 2 * i)) hR1 hF1 (by omega)) (fun v16 M17 q18 => ?_)
          obtain ⟨rfl, rfl⟩ := q18
          show pl _ _ _ (270, [(6, .int (nI (hA + 8 + 2 * i))), (0, .ref m0), (4, .int (nI (by2 f (hA + 6)))), (5, .int (nI i))], [.int (nI (by2 f (hA + 8 + 2 * i))), .ref m0], M1) _
          have hu_267 := by2_lt f (hA + 8 + 2 * i)
          refine pl_call (a := [.ref m0, .int (nI (by2 f (hA + 8 + 2 * i)))]) (rest := []) rfl rfl rfl (rd_plainClass (n := n) (f := f) (tx := tx) (cN := cN) (A := A) (N := N) (mj := mj) (E := E) (k := (by2 f (hA + 8 + 2 * i))) hR1 hl51 hl52 hl53 hF1 hY1 hP1 (hEP) (hN) (hmj) (by2_lt _ _) (hCP)) (fun v19 M20 q21 => ?_)
          obtain ⟨rfl, rfl⟩ := q21
          show pl _ _ _ (273, [(6, .int (nI (hA + 8 + 2 * i))), (0, .ref m0), (4, .int (nI (by2 f (hA + 6)))), (5, .int (nI i))], [.int (nI (plnN f n E (by2 f (hA + 8 + 2 * i))))], M1) _
          refine ps_if (S1 := (285, [(6, .int (nI (hA + 8 + 2 * i))), (0, .ref m0), (4, .int (nI (by2 f (hA + 6)))), (5, .int (nI i))], [], M1)) (S2 := (276, [(6, .int (nI (hA + 8 + 2 * i))), (0, .ref m0), (4, .int (nI (by2 f (hA + 6)))), (5, .int (nI i))], [], M1)) rfl rfl rfl (fun c_273 => ?_) (fun c_273 => ?_)
          · have c_273 : ¬ (nI (plnN f n E (by2 f (hA + 8 + 2 * i)))) = 0 := of_decide_eq_true c_273
            have n_273 : ¬ (plnN f n E (by2 f (hA + 8 + 2 * i)) = 0) := fun h9 => c_273 ((eq_nI (p := plnN f n E (by2 f (hA + 8 + 2 * i))) (n := 0) (Nat.lt_trans (le1_pln _ _ _ _) (by decide)) (by decide)).mpr h9)
            refine ps_st (S' := (286, [(6, .int (nI (hA + 8 + 2 * i))), (0, .ref m0), (4, .int (nI (by2 f (hA + 6)))), (5, .int (nI i))], [.int 0], M1)) rfl rfl rfl ?_
            refine ps_st (S' := (288, [(0, .ref m0), (4, .int (nI (by2 f (hA + 6)))), (5, .int (nI i)), (6, .int (nI (hA + 8 + 2 * i))), (7, .int 0)], [], M1)) rfl rfl rfl ?_
            exact ih.2 (i) (0) M1 I1 R1 hR1 hEI1 hER1 hl54 hl11 hl51 hl52 hl53 hl58 hF1 hY1 hP1 (hh) (by omega) (by omega) (hs) (by omega) (hq) (rfl)
          · have c_273 : ¬ (¬ (nI (plnN f n E (by2 f (hA + 8 + 2 * i)))) = 0) := of_decide_eq_false c_273
            have n_273 : plnN f n E (by2 f (hA + 8 + 2 * i)) = 0 := (eq_nI (p := plnN f n E (by2 f (hA + 8 + 2 * i))) (n := 0) (Nat.lt_trans (le1_pln _ _ _ _) (by decide)) (by decide)).mp (Decidable.not_not.mp c_273)
            refine ps_st (S' := (277, [(6, .int (nI (hA + 8 + 2 * i))), (0, .ref m0), (4, .int (nI (by2 f (hA + 6)))), (5, .int (nI i))], [.ref m0], M1)) rfl rfl rfl ?_
            refine ps_st (S' := (279, [(6, .int (nI (hA + 8 + 2 * i))), (0, .ref m0), (4, .int (nI (by2 f (hA + 6)))), (5, .int (nI i))], [.int 18, .ref m0], M1)) rfl rfl rfl ?_
            refine ps_st (S' := (281, [(6, .int (nI (hA + 8 + 2 * i))), (0, .ref m0), (4, .int (nI (by2 f (hA + 6)))), (5, .int (nI i))], [.int (nI (hA + 8 + 2 * i)), .int 18, .ref m0], M1)) rfl rfl rfl ?_
            refine pl_call (a := [.ref m0, .int 18, .int (nI (hA + 8 + 2 * i))]) (rest := []) rfl rfl rfl (rd_wrong (x1 := 18) (x2 := (nI (hA + 8 + 2 * i))) hR1) (fun v22 M23 q24 => ?_)
            obtain ⟨I25, R26, rfl, hR27, hI28, hX29, hi30, hi31⟩ := q24
            have hi32 := (hI28 54 (by decide)).trans hl54
            have hi33 := (hI28 11 (by decide)).trans hl11
            have hi34 := (hI28 51 (by decide)).trans hl51
            have hi35 := (hI28 52 (by decide)).trans hl52
            have hi36 := (hI28 53 (by decide)).trans hl53
            have hi37 := (hI28 58 (by decide)).trans hl58
            have hF_38 := hF1.mono (cIx hI28 (by decide)) (cRx hX29 (by decide))
            have hY_39 := hY1.mono (cIx hI28 (by decide)) (cRx hX29 (by decide))
            have hP_40 := hP1.mono (cIx hI28 (by decide)) (cRx hX29 (by decide))
            have hEI41 := hEI1.tr hI28 (by decide)
            have hER42 := hER1.tr hX29 (by decide)
            show pl _ _ _ (284, [(6, .int (nI (hA + 8 + 2 * i))), (0, .ref m0), (4, .int (nI (by2 f (hA + 6)))), (5, .int (nI i))], [.int 0], M23) _
            exact ps_ret rfl rfl (Or.inr ⟨(18, hA + 8 + 2 * i), I25, R26, by
                unfold ccS
                rw [hh]
                dsimp only
                rw [← hs, ifS_st (i := i) (by omega), if_pos (by omega)], rfl, hR27, hEI41, hER42, hi30, hi31⟩)
      · skip
        intro i j M1 I1 R1 hR1 hEI1 hER1 hl54 hl11 hl51 hl52 hl53 hl58 hF1 hY1 hP1 hh hi hj hs hp hq hd
        have hn := hF1.1
        have hu9 := by2_lt f (hA + 6)
        have htl := hY1.1.2.2.1
        refine ps_st1 (S' := (290, [(0, .ref m0), (4, .int (nI (by2 f (hA + 6)))), (5, .int (nI i)), (6, .int (nI (hA + 8 + 2 * i))), (7, .int (nI j))], [.int (nI j)], M1)) rfl rfl rfl ?_
        refine ps_st (S' := (292, [(0, .ref m0), (4, .int (nI (by2 f (hA + 6)))), (5, .int (nI i)), (6, .int (nI (hA + 8 + 2 * i))), (7, .int (nI j))], [.int (nI i), .int (nI j)], M1)) rfl rfl rfl ?_
        refine ps_if2 (S1 := (343, [(0, .ref m0), (4, .int (nI (by2 f (hA + 6)))), (5, .int (nI i)), (6, .int (nI (hA + 8 + 2 * i))), (7, .int (nI j))], [], M1)) (S2 := (295, [(0, .ref m0), (4, .int (nI (by2 f (hA + 6)))), (5, .int (nI i)), (6, .int (nI (hA + 8 + 2 * i))), (7, .int (nI j))], [], M1)) rfl rfl rfl (fun c_292 => ?_) (fun c_292 => ?_)
        · have c_292 : (nI i) ≤ (nI j) := of_decide_eq_true c_292
          have n_292 : i ≤ j := (le_nI (p := i) (n := j) (by omega) (by omega)).mp c_292
          refine ps_st (S' := (346, [(5, .int ((nI i) + 1)), (0, .ref m0), (4, .int (nI (by2 f (hA + 6)))), (6, .int (nI (hA + 8 + 2 * i))), (7, .int (nI j))], [], M1)) rfl rfl rfl ?_
          rw [nI_add1 (p := i) (k := 1) (x := 1) rfl (by omega)]
          show pl _ _ _ (_, [(5, .int (nI (i + 1))), (0, .ref m0), (4, .int (nI (by2 f (hA + 6)))), (6, .int (nI (hA + 8 + 2 * i))), (7, .int (nI j))], [], M1) _
          refine ps_st (S' := (242, [(0, .ref m0), (4, .int (nI (by2 f (hA + 6)))), (5, .int (nI (i + 1)))], [], M1)) rfl rfl rfl ?_
          exact ih.1 (i + 1) M1 I1 R1 hR1 hEI1 hER1 hl54 hl11 hl51 hl52 hl53 hl58 hF1 hY1 hP1 (hh) (by omega) (by
              rw [← hs, ifS_st (i := i) (by omega), if_neg (by omega), if_neg (by rw [← hd, show i - j = 0 by omega]; exact fun h => h rfl)]) (by
              intro j9 h9
              by_cases e9 : j9 = i
              · rw [e9]; exact hp
              · exact hq j9 (by omega))
        · have c_292 : ¬ ((nI i) ≤ (nI j)) := of_decide_eq_false c_292
          have n_292 : ¬ (i ≤ j) := fun h9 => c_292 ((le_nI (p := i) (n := j) (by omega) (by omega)).mpr h9)
          have hplj := pln_in (hq j (by omega))
          have hcpj := hCP _ hplj.1
          have hpli := pln_in hp
          have hcpi := hCP _ hpli.1
          refine ps_st (S' := (296, [(0, .ref m0), (4, .int (nI (by2 f (hA + 6)))), (5, .int (nI i)), (6, .int (nI (hA + 8 + 2 * i))), (7, .int (nI j))], [.ref m0], M1)) rfl rfl rfl ?_
          refine ps_st (S' := (297, [(0, .ref m0), (4, .int (nI (by2 f (hA + 6)))), (5, .int (nI i)), (6, .int (nI (hA + 8 + 2 * i))), (7, .int (nI j))], [.ref m0, .ref m0], M1)) rfl rfl rfl ?_
          refine ps_st (S' := (298, [(0, .ref m0), (4, .int (nI (by2 f (hA + 6)))), (5, .int (nI i)), (6, .int (nI (hA + 8 + 2 * i))), (7, .int (nI j))], [.ref m0, .ref m0, .ref m0], M1)) rfl rfl rfl ?_
          refine pr_int (j := 54) (S' := (301, [(0, .ref m0), (4, .int (nI (by2 f (hA + 6)))), (5, .int (nI i)), (6, .int (nI (hA + 8 + 2 * i))), (7, .int (nI j))], [.int (nI hA), .ref m0, .ref m0], M1)) rfl hR1 rfl hl54 rfl ?_
          refine ps_st (S' := (303, [(0, .ref m0), (4, .int (nI (by2 f (hA + 6)))), (5, .int (nI i)), (6, .int (nI (hA + 8 + 2 * i))), (7, .int (nI j))], [.int 8, .int (nI hA), .ref m0, .ref m0], M1)) rfl rfl rfl ?_
          refine ps_st (S' := (304, [(0, .ref m0), (4, .int (nI (by2 f (hA + 6)))), (5, .int (nI i)), (6, .int (nI (hA + 8 + 2 * i))), (7, .int (nI j))], [.int ((nI hA) + 8), .ref m0, .ref m0], M1)) rfl rfl rfl ?_
          rw [nI_add1 (p := hA) (k := 8) (x := 8) rfl (by omega)]
          show pl _ _ _ (_, [(0, .ref m0), (4, .int (nI (by2 f (hA + 6)))), (5, .int (nI i)), (6, .int (nI (hA + 8 + 2 * i))), (7, .int (nI j))], [.int (nI (hA + 8)), .ref m0, .ref m0], M1) _
          refine ps_st (S' := (305, [(0, .ref m0), (4, .int (nI (by2 f (hA + 6)))), (5, .int (nI i)), (6, .int (nI (hA + 8 + 2 * i))), (7, .int (nI j))], [.int 2, .int (nI (hA + 8)), .ref m0, .ref m0], M1)) rfl rfl rfl ?_
          refine ps_st (S' := (307, [(0, .ref m0), (4, .int (nI (by2 f (hA + 6)))), (5, .int (nI i)), (6, .int (nI (hA + 8 + 2 * i))), (7, .int (nI j))], [.int (nI j), .int 2, .int (nI (hA + 8)), .ref m0, .ref m0], M1)) rfl rfl rfl ?_
          refine ps_st (S' := (308, [(0, .ref m0), (4, .int (nI (by2 f (hA + 6)))), (5, .int (nI i)), (6, .int (nI (hA + 8 + 2 * i))), (7, .int (nI j))], [.int (2 * (nI j)), .int (nI (hA + 8)), .ref m0, .ref m0], M1)) rfl rfl rfl ?_
          rw [nI_mul1 (p := 2) (k := j) (x := 2) (y := (nI j)) rfl rfl (by omega)]
          show pl _ _ _ (_, [(0, .ref m0), (4, .int (nI (by2 f (hA + 6)))), (5, .int (nI i)), (6, .int (nI (hA + 8 + 2 * i))), (7, .int (nI j))], [.int (nI (2 * j)), .int (nI (hA + 8)), .ref m0, .ref m0], M1) _
          refine ps_st (S' := (309, [(0, .ref m0), (4, .int (nI (by2 f (hA + 6)))), (5, .int (nI i)), (6, .int (nI (hA + 8 + 2 * i))), (7, .int (nI j))], [.int ((nI (hA + 8)) + (nI (2 * j))), .ref m0, .ref m0], M1)) rfl rfl rfl ?_
          rw [nI_add1 (p := hA + 8) (k := 2 * j) (x := (nI (2 * j))) rfl (by omega)]
          show pl _ _ _ (_, [(0, .ref m0), (4, .int (nI (by2 f (hA + 6)))), (5, .int (nI i)), (6, .int (nI (hA + 8 + 2 * i))), (7, .int (nI j))], [.int (nI (hA + 8 + 2 * j)), .ref m0, .ref m0], M1) _
          refine pl_call (a := [.ref m0, .int (nI (hA + 8 + 2 * j))]) (rest := [.ref m0]) rfl rfl rfl (rd_u2 (n := n) (f := f) (p := (hA + 8 + 2 * j)) hR1 hF1 (by omega)) (fun v43 M44 q45 => ?_)
          obtain ⟨rfl, rfl⟩ := q45
          show pl _ _ _ (312, [(0, .ref m0), (4, .int (nI (by2 f (hA + 6)))), (5, .int (nI i)), (6, .int (nI (hA + 8 + 2 * i))), (7, .int (nI j))], [.int (nI (by2 f (hA + 8 + 2 * j))), .ref m0], M1) _
          have hu_309 := by2_lt f (hA + 8 + 2 * j)
          refine pl_call (a := [.ref m0, .int (nI (by2 f (hA + 8 + 2 * j)))]) (rest := []) rfl rfl rfl (rd_className (n := n) (f := f) (tx := tx) (cN := cN) (A := A) (N := N) (mj := mj) (E := E) (k := (by2 f (hA + 8 + 2 * j))) hR1 hl51 hl52 hl53 hF1 hY1 hP1 (hEP) (hN) (hmj) (by omega)) (fun v46 M47 q48 => ?_)
          obtain ⟨s49, q312_s, rfl, rfl⟩ := q48
          show pl _ _ _ (315, [(0, .ref m0), (4, .int (nI (by2 f (hA + 6)))), (5, .int (nI i)), (6, .int (nI (hA + 8 + 2 * i))), (7, .int (nI j))], [.int (nI s49)], M1) _
          have hsl_312 := q312_s.1
          have htl_312 := hY1.1.2.2.1
          refine ps_st (S' := (316, [(0, .ref m0), (4, .int (nI (by2 f (hA + 6)))), (5, .int (nI i)), (6, .int (nI (hA + 8 + 2 * i))), (7, .int (nI j))], [.ref m0, .int (nI s49)], M1)) rfl rfl rfl ?_
          refine ps_st (S' := (317, [(0, .ref m0), (4, .int (nI (by2 f (hA + 6)))), (5, .int (nI i)), (6, .int (nI (hA + 8 + 2 * i))), (7, .int (nI j))], [.ref m0, .ref m0, .int (nI s49)], M1)) rfl rfl rfl ?_
          refine ps_st (S' := (319, [(0, .ref m0), (4, .int (nI (by2 f (hA + 6)))), (5, .int (nI i)), (6, .int (nI (hA + 8 + 2 * i))), (7, .int (nI j))], [.int (nI (hA + 8 + 2 * i)), .ref m0, .ref m0, .int (nI s49)], M1)) rfl rfl rfl ?_
          refine pl_call (a := [.ref m0, .int (nI (hA + 8 + 2 * i))]) (rest := [.ref m0, .int (nI s49)]) rfl rfl rfl (rd_u2 (n := n) (f := f) (p := (hA + 8 + 2 * i)) hR1 hF1 (by omega)) (fun v50 M51 q52 => ?_)
          obtain ⟨rfl, rfl⟩ := q52
          show pl _ _ _ (322, [(0, .ref m0), (4, .int (nI (by2 f (hA + 6)))), (5, .int (nI i)), (6, .int (nI (hA + 8 + 2 * i))), (7, .int (nI j))], [.int (nI (by2 f (hA + 8 + 2 * i))), .ref m0, .int (nI s49)], M1) _
          have hu_319 := by2_lt f (hA + 8 + 2 * i)
          refine pl_call (a := [.ref m0, .int (nI (by2 f (hA + 8 + 2 * i)))]) (rest := [.int (nI s49)]) rfl rfl rfl (rd_className (n := n) (f := f) (tx := tx) (cN := cN) (A := A) (N := N) (mj := mj) (E := E) (k := (by2 f (hA + 8 + 2 * i))) hR1 hl51 hl52 hl53 hF1 hY1 hP1 (hEP) (hN) (hmj) (by omega)) (fun v53 M54 q55 => ?_)
          obtain ⟨s56, q322_s, rfl, rfl⟩ := q55
          show pl _ _ _ (325, [(0, .ref m0), (4, .int (nI (by2 f (hA + 6)))), (5, .int (nI i)), (6, .int (nI (hA + 8 + 2 * i))), (7, .int (nI j))], [.int (nI s56), .int (nI s49)], M1) _
          have hsl_322 := q322_s.1
          have htl_322 := hY1.1.2.2.1
          have hsm := sm_sym (k := fi f E (by2 f (hA + 8 + 2 * j))) (m := fi f E (by2 f (hA + 8 + 2 * i))) hY1 q312_s q322_s (by omega) (by omega)
          refine ps_if2 (S1 := (337, [(0, .ref m0), (4, .int (nI (by2 f (hA + 6)))), (5, .int (nI i)), (6, .int (nI (hA + 8 + 2 * i))), (7, .int (nI j))], [], M1)) (S2 := (328, [(0, .ref m0), (4, .int (nI (by2 f (hA + 6)))), (5, .int (nI i)), (6, .int (nI (hA + 8 + 2 * i))), (7, .int (nI j))], [], M1)) rfl rfl rfl (fun c_325 => ?_) (fun c_325 => ?_)
          · have c_325 : ¬ (nI s49) = (nI s56) := of_decide_eq_true c_325
            have n_325 : ¬ (s49 = s56) := fun h9 => c_325 ((eq_nI (p := s49) (n := s56) (by omega) (by omega)).mpr h9)
            refine ps_st (S' := (340, [(7, .int ((nI j) + 1)), (0, .ref m0), (4, .int (nI (by2 f (hA + 6)))), (5, .int (nI i)), (6, .int (nI (hA + 8 + 2 * i)))], [], M1)) rfl rfl rfl ?_
            rw [nI_add1 (p := j) (k := 1) (x := 1) rfl (by omega)]
            show pl _ _ _ (_, [(7, .int (nI (j + 1))), (0, .ref m0), (4, .int (nI (by2 f (hA + 6)))), (5, .int (nI i)), (6, .int (nI (hA + 8 + 2 * i)))], [], M1) _
            refine ps_st (S' := (288, [(0, .ref m0), (4, .int (nI (by2 f (hA + 6)))), (5, .int (nI i)), (6, .int (nI (hA + 8 + 2 * i))), (7, .int (nI (j + 1)))], [], M1)) rfl rfl rfl ?_
            exact ih.2 (i) (j + 1) M1 I1 R1 hR1 hEI1 hER1 hl54 hl11 hl51 hl52 hl53 hl58 hF1 hY1 hP1 (hh) (hi) (by omega) (hs) (hp) (hq) (by
                rw [← hd, dupN_st (j := j) (by omega), if_pos (by omega)])
          · have c_325 : ¬ (¬ (nI s49) = (nI s56)) := of_decide_eq_false c_325
            have n_325 : s49 = s56 := (eq_nI (p := s49) (n := s56) (by omega) (by omega)).mp (Decidable.not_not.mp c_325)
            refine ps_st (S' := (329, [(0, .ref m0), (4, .int (nI (by2 f (hA + 6)))), (5, .int (nI i)), (6, .int (nI (hA + 8 + 2 * i))), (7, .int (nI j))], [.ref m0], M1)) rfl rfl rfl ?_
            refine ps_st (S' := (331, [(0, .ref m0), (4, .int (nI (by2 f (hA + 6)))), (5, .int (nI i)), (6, .int (nI (hA + 8 + 2 * i))), (7, .int (nI j))], [.int 18, .ref m0], M1)) rfl rfl rfl ?_
            refine ps_st (S' := (333, [(0, .ref m0), (4, .int (nI (by2 f (hA + 6)))), (5, .int (nI i)), (6, .int (nI (hA + 8 + 2 * i))), (7, .int (nI j))], [.int (nI (hA + 8 + 2 * i)), .int 18, .ref m0], M1)) rfl rfl rfl ?_
            refine pl_call (a := [.ref m0, .int 18, .int (nI (hA + 8 + 2 * i))]) (rest := []) rfl rfl rfl (rd_wrong (x1 := 18) (x2 := (nI (hA + 8 + 2 * i))) hR1) (fun v57 M58 q59 => ?_)
            obtain ⟨I60, R61, rfl, hR62, hI63, hX64, hi65, hi66⟩ := q59
            have hi67 := (hI63 54 (by decide)).trans hl54
            have hi68 := (hI63 11 (by decide)).trans hl11
            have hi69 := (hI63 51 (by decide)).trans hl51
            have hi70 := (hI63 52 (by decide)).trans hl52
            have hi71 := (hI63 53 (by decide)).trans hl53
            have hi72 := (hI63 58 (by decide)).trans hl58
            have hF_73 := hF1.mono (cIx hI63 (by decide)) (cRx hX64 (by decide))
            have hY_74 := hY1.mono (cIx hI63 (by decide)) (cRx hX64 (by decide))
            have hP_75 := hP1.mono (cIx hI63 (by decide)) (cRx hX64 (by decide))
            have hEI76 := hEI1.tr hI63 (by decide)
            have hER77 := hER1.tr hX64 (by decide)
            show pl _ _ _ (336, [(0, .ref m0), (4, .int (nI (by2 f (hA + 6)))), (5, .int (nI i)), (6, .int (nI (hA + 8 + 2 * i))), (7, .int (nI j))], [.int 0], M58) _
            exact ps_ret rfl rfl (Or.inr ⟨(18, hA + 8 + 2 * i), I60, R61, by
                unfold ccS
                rw [hh]
                dsimp only
                rw [← hs, ifS_st (i := i) (by omega), if_neg (by omega), if_pos (by rw [← hd, dupN_st (j := j) (by omega), if_neg (by omega)]; decide)], rfl, hR62, hEI76, hER77, hi65, hi66⟩)
  refine ps_st (S' := (1, [(0, .ref m0)], [.ref m0], M)) rfl rfl rfl ?_
  refine ps_st (S' := (2, [(0, .ref m0)], [.ref m0, .ref m0], M)) rfl rfl rfl ?_
  refine pr_int (j := 54) (S' := (5, [(0, .ref m0)], [.int (nI hA), .ref m0], M)) rfl hR rfl hi54 rfl ?_
  refine pl_call (a := [.ref m0, .int (nI hA)]) (rest := []) rfl rfl rfl (rd_u2 (n := n) (f := f) (p := hA) hR hF (by omega)) (fun v78 M79 q80 => ?_)
  obtain ⟨rfl, rfl⟩ := q80
  show pl _ _ _ (8, [(0, .ref m0)], [.int (nI (by2 f hA))], M) _
  have hu_5 := by2_lt f hA
  refine ps_st (S' := (9, [(1, .int (nI (by2 f hA))), (0, .ref m0)], [], M)) rfl rfl rfl ?_
  refine ps_st (S' := (10, [(1, .int (nI (by2 f hA))), (0, .ref m0)], [.ref m0], M)) rfl rfl rfl ?_
  refine ps_st (S' := (11, [(1, .int (nI (by2 f hA))), (0, .ref m0)], [.int (nI (by2 f hA)), .ref m0], M)) rfl rfl rfl ?_
  refine pr_put (j := 58) rfl hR rfl (fun M81 I82 hR83 hi84 hI85 => ?_)
  have hi86 := (hI85 54 (by decide)).trans hi54
  have hi87 := (hI85 11 (by decide)).trans hi11
  have hi88 := (hI85 51 (by decide)).trans hi51
  have hi89 := (hI85 52 (by decide)).trans hi52
  have hi90 := (hI85 53 (by decide)).trans hi53
  have hF_91 := hF.mono (pIx hI85 (by decide)) (fun _ _ => rfl)
  have hY_92 := hY.mono (pIx hI85 (by decide)) (fun _ _ => rfl)
  have hP_93 := hP.mono (pIx hI85 (by decide)) (fun _ _ => rfl)
  have hEI94 := hEI.put hI85 (by decide)
  show pl _ _ _ (14, [(1, .int (nI (by2 f hA))), (0, .ref m0)], [], M81) _
  refine ps_st (S' := (15, [(1, .int (nI (by2 f hA))), (0, .ref m0)], [.int (nI (by2 f hA))], M81)) rfl rfl rfl ?_
  refine ps_st (S' := (18, [(1, .int (nI (by2 f hA))), (0, .ref m0)], [.int 512, .int (nI (by2 f hA))], M81)) rfl rfl rfl ?_
  refine ps_st (S' := (19, [(1, .int (nI (by2 f hA))), (0, .ref m0)], [.int ((nI (by2 f hA)) &&& 512)], M81)) rfl rfl rfl ?_
  rw [nI_an (p := by2 f hA) (k := 512) (x := 512) rfl]
  show pl _ _ _ (_, [(1, .int (nI (by2 f hA))), (0, .ref m0)], [.int (nI (aN (by2 f hA) 512))], M81) _
  refine ps_if (S1 := (26, [(1, .int (nI (by2 f hA))), (0, .ref m0)], [], M81)) (S2 := (22, [(1, .int (nI (by2 f hA))), (0, .ref m0)], [], M81)) rfl rfl rfl (fun c_19 => ?_) (fun c_19 => ?_)
  · have c_19 : (nI (aN (by2 f hA) 512)) = 0 := of_decide_eq_true c_19
    have n_19 : aN (by2 f hA) 512 = 0 := (eq_nI (p := aN (by2 f hA) 512) (n := 0) (Nat.lt_of_le_of_lt (an_le _ _) (by decide)) (by decide)).mp c_19
    refine ps_st (S' := (27, [(0, .ref m0), (1, .int (nI (by2 f hA)))], [.int 0], M81)) rfl rfl rfl ?_
    refine ps_st (S' := (28, [(2, .int 0), (0, .ref m0), (1, .int (nI (by2 f hA)))], [], M81)) rfl rfl rfl ?_
    refine ps_st (S' := (29, [(2, .int 0), (0, .ref m0), (1, .int (nI (by2 f hA)))], [.int (nI (by2 f hA))], M81)) rfl rfl rfl ?_
    refine ps_st (S' := (32, [(2, .int 0), (0, .ref m0), (1, .int (nI (by2 f hA)))], [.int 32768, .int (nI (by2 f hA))], M81)) rfl rfl rfl ?_
    refine ps_st (S' := (33, [(2, .int 0), (0, .ref m0), (1, .int (nI (by2 f hA)))], [.int ((nI (by2 f hA)) &&& 32768)], M81)) rfl rfl rfl ?_
    rw [nI_an (p := by2 f hA) (k := 32768) (x := 32768) rfl]
    show pl _ _ _ (_, [(2, .int 0), (0, .ref m0), (1, .int (nI (by2 f hA)))], [.int (nI (aN (by2 f hA) 32768))], M81) _
    refine ps_if (S1 := (82, [(0, .ref m0), (1, .int (nI (by2 f hA))), (2, .int 0)], [], M81)) (S2 := (36, [(2, .int 0), (0, .ref m0), (1, .int (nI (by2 f hA)))], [], M81)) rfl rfl rfl (fun c_33 => ?_) (fun c_33 => ?_)
    · have c_33 : ¬ (nI (aN (by2 f hA) 32768)) = 0 := of_decide_eq_true c_33
      have n_33 : ¬ (aN (by2 f hA) 32768 = 0) := fun h9 => c_33 ((eq_nI (p := aN (by2 f hA) 32768) (n := 0) (Nat.lt_of_le_of_lt (an_le _ _) (by decide)) (by decide)).mpr h9)
      refine ps_st (S' := (83, [(0, .ref m0), (1, .int (nI (by2 f hA))), (2, .int 0)], [.int 0], M81)) rfl rfl rfl ?_
      refine ps_if (S1 := (110, [(0, .ref m0)], [], M81)) (S2 := (86, [(0, .ref m0), (1, .int (nI (by2 f hA))), (2, .int 0)], [], M81)) rfl rfl rfl (fun c_83 => ?_) (fun c_83 => ?_)
      rotate_left
      · exact absurd (by decide) (of_decide_eq_false c_83)
      refine ps_st (S' := (111, [(0, .ref m0)], [.ref m0], M81)) rfl rfl rfl ?_
      refine ps_st (S' := (113, [(0, .ref m0)], [.int 15, .ref m0], M81)) rfl rfl rfl ?_
      refine ps_st (S' := (114, [(0, .ref m0)], [.ref m0, .int 15, .ref m0], M81)) rfl rfl rfl ?_
      refine pr_int (j := 54) (S' := (117, [(0, .ref m0)], [.int (nI hA), .int 15, .ref m0], M81)) rfl hR83 rfl hi86 rfl ?_
      refine pl_call (a := [.ref m0, .int 15, .int (nI hA)]) (rest := []) rfl rfl rfl (rd_wrong (x1 := 15) (x2 := (nI hA)) hR83) (fun v95 M96 q97 => ?_)
      obtain ⟨I98, R99, rfl, hR100, hI101, hX102, hi103, hi104⟩ := q97
      have hi105 := (hI101 54 (by decide)).trans hi86
      have hi106 := (hI101 11 (by decide)).trans hi87
      have hi107 := (hI101 51 (by decide)).trans hi88
      have hi108 := (hI101 52 (by decide)).trans hi89
      have hi109 := (hI101 53 (by decide)).trans hi90
      have hi110 := (hI101 58 (by decide)).trans hi84
      have hF_111 := hF_91.mono (cIx hI101 (by decide)) (cRx hX102 (by decide))
      have hY_112 := hY_92.mono (cIx hI101 (by decide)) (cRx hX102 (by decide))
      have hP_113 := hP_93.mono (cIx hI101 (by decide)) (cRx hX102 (by decide))
      have hEI114 := hEI94.tr hI101 (by decide)
      have hER115 := hER.tr hX102 (by decide)
      show pl _ _ _ (120, [(0, .ref m0)], [.int 0], M96) _
      exact ps_ret rfl rfl (Or.inr ⟨(15, hA), I98, R99, by
          have ec := cfl_0 (by2 f hA)
          have eh := has_0 (by2 f hA) 512
          unfold ccS
          rw [show hdS f n E hA = some (15, hA) by unfold hdS; first | ((repeat first | rw [if_pos (by omega)] | rw [if_neg (by omega)]) <;> first | rfl | omega) | ((repeat' split) <;> first | rfl | (exfalso; omega) | omega)], rfl, hR100, hEI114, hER115, hi103, hi104⟩)
    · have c_33 : ¬ (¬ (nI (aN (by2 f hA) 32768)) = 0) := of_decide_eq_false c_33
      have n_33 : aN (by2 f hA) 32768 = 0 := (eq_nI (p := aN (by2 f hA) 32768) (n := 0) (Nat.lt_of_le_of_lt (an_le _ _) (by decide)) (by decide)).mp (Decidable.not_not.mp c_33)
      refine ps_st (S' := (37, [(2, .int 0), (0, .ref m0), (1, .int (nI (by2 f hA)))], [.int 0], M81)) rfl rfl rfl ?_
      refine ps_if (S1 := (59, [(2, .int 0), (0, .ref m0), (1, .int (nI (by2 f hA)))], [], M81)) (S2 := (40, [(2, .int 0), (0, .ref m0), (1, .int (nI (by2 f hA)))], [], M81)) rfl rfl rfl (fun c_37 => ?_) (fun c_37 => ?_)
      rotate_left
      · exact absurd (by decide) (of_decide_eq_false c_37)
      refine ps_st (S' := (60, [(2, .int 0), (0, .ref m0), (1, .int (nI (by2 f hA)))], [.int (nI (by2 f hA))], M81)) rfl rfl rfl ?_
      refine ps_st (S' := (63, [(2, .int 0), (0, .ref m0), (1, .int (nI (by2 f hA)))], [.int 8192, .int (nI (by2 f hA))], M81)) rfl rfl rfl ?_
      refine ps_st (S' := (64, [(2, .int 0), (0, .ref m0), (1, .int (nI (by2 f hA)))], [.int ((nI (by2 f hA)) &&& 8192)], M81)) rfl rfl rfl ?_
      rw [nI_an (p := by2 f hA) (k := 8192) (x := 8192) rfl]
      show pl _ _ _ (_, [(2, .int 0), (0, .ref m0), (1, .int (nI (by2 f hA)))], [.int (nI (aN (by2 f hA) 8192))], M81) _
      refine ps_if (S1 := (82, [(0, .ref m0), (1, .int (nI (by2 f hA))), (2, .int 0)], [], M81)) (S2 := (67, [(2, .int 0), (0, .ref m0), (1, .int (nI (by2 f hA)))], [], M81)) rfl rfl rfl (fun c_64 => ?_) (fun c_64 => ?_)
      · have c_64 : ¬ (nI (aN (by2 f hA) 8192)) = 0 := of_decide_eq_true c_64
        have n_64 : ¬ (aN (by2 f hA) 8192 = 0) := fun h9 => c_64 ((eq_nI (p := aN (by2 f hA) 8192) (n := 0) (Nat.lt_of_le_of_lt (an_le _ _) (by decide)) (by decide)).mpr h9)
        refine ps_st (S' := (83, [(0, .ref m0), (1, .int (nI (by2 f hA))), (2, .int 0)], [.int 0], M81)) rfl rfl rfl ?_
        refine ps_if (S1 := (110, [(0, .ref m0)], [], M81)) (S2 := (86, [(0, .ref m0), (1, .int (nI (by2 f hA))), (2, .int 0)], [], M81)) rfl rfl rfl (fun c_83 => ?_) (fun c_83 => ?_)
        rotate_left
        · exact absurd (by decide) (of_decide_eq_false c_83)
        refine ps_st (S' := (111, [(0, .ref m0)], [.ref m0], M81)) rfl rfl rfl ?_
        refine ps_st (S' := (113, [(0, .ref m0)], [.int 15, .ref m0], M81)) rfl rfl rfl ?_
        refine ps_st (S' := (114, [(0, .ref m0)], [.ref m0, .int 15, .ref m0], M81)) rfl rfl rfl ?_
        refine pr_int (j := 54) (S' := (117, [(0, .ref m0)], [.int (nI hA), .int 15, .ref m0], M81)) rfl hR83 rfl hi86 rfl ?_
        refine pl_call (a := [.ref m0, .int 15, .int (nI hA)]) (rest := []) rfl rfl rfl (rd_wrong (x1 := 15) (x2 := (nI hA)) hR83) (fun v116 M117 q118 => ?_)
        obtain ⟨I119, R120, rfl, hR121, hI122, hX123, hi124, hi125⟩ := q118
        have hi126 := (hI122 54 (by decide)).trans hi86
        have hi127 := (hI122 11 (by decide)).trans hi87
        have hi128 := (hI122 51 (by decide)).trans hi88
        have hi129 := (hI122 52 (by decide)).trans hi89
        have hi130 := (hI122 53 (by decide)).trans hi90
        have hi131 := (hI122 58 (by decide)).trans hi84
        have hF_132 := hF_91.mono (cIx hI122 (by decide)) (cRx hX123 (by decide))
        have hY_133 := hY_92.mono (cIx hI122 (by decide)) (cRx hX123 (by decide))
        have hP_134 := hP_93.mono (cIx hI122 (by decide)) (cRx hX123 (by decide))
        have hEI135 := hEI94.tr hI122 (by decide)
        have hER136 := hER.tr hX123 (by decide)
        show pl _ _ _ (120, [(0, .ref m0)], [.int 0], M117) _
        exact ps_ret rfl rfl (Or.inr ⟨(15, hA), I119, R120, by
            have ec := cfl_0 (by2 f hA)
            have eh := has_0 (by2 f hA) 512
            unfold ccS
            rw [show hdS f n E hA = some (15, hA) by unfold hdS; first | ((repeat first | rw [if_pos (by omega)] | rw [if_neg (by omega)]) <;> first | rfl | omega) | ((repeat' split) <;> first | rfl | (exfalso; omega) | omega)], rfl, hR121, hEI135, hER136, hi124, hi125⟩)
      · have c_64 : ¬ (¬ (nI (aN (by2 f hA) 8192)) = 0) := of_decide_eq_false c_64
        have n_64 : aN (by2 f hA) 8192 = 0 := (eq_nI (p := aN (by2 f hA) 8192) (n := 0) (Nat.lt_of_le_of_lt (an_le _ _) (by decide)) (by decide)).mp (Decidable.not_not.mp c_64)
        refine ps_st (S' := (68, [(2, .int 0), (0, .ref m0), (1, .int (nI (by2 f hA)))], [.int (nI (by2 f hA))], M81)) rfl rfl rfl ?_
        refine ps_st (S' := (70, [(2, .int 0), (0, .ref m0), (1, .int (nI (by2 f hA)))], [.int 16, .int (nI (by2 f hA))], M81)) rfl rfl rfl ?_
        refine ps_st (S' := (71, [(2, .int 0), (0, .ref m0), (1, .int (nI (by2 f hA)))], [.int ((nI (by2 f hA)) &&& 16)], M81)) rfl rfl rfl ?_
        rw [nI_an (p := by2 f hA) (k := 16) (x := 16) rfl]
        show pl _ _ _ (_, [(2, .int 0), (0, .ref m0), (1, .int (nI (by2 f hA)))], [.int (nI (aN (by2 f hA) 16))], M81) _
        refine ps_if (S1 := (121, [(0, .ref m0), (2, .int 0)], [], M81)) (S2 := (74, [(2, .int 0), (0, .ref m0), (1, .int (nI (by2 f hA)))], [], M81)) rfl rfl rfl (fun c_71 => ?_) (fun c_71 => ?_)
        · have c_71 : (nI (aN (by2 f hA) 16)) = 0 := of_decide_eq_true c_71
          have n_71 : aN (by2 f hA) 16 = 0 := (eq_nI (p := aN (by2 f hA) 16) (n := 0) (Nat.lt_of_le_of_lt (an_le _ _) (by decide)) (by decide)).mp c_71
          refine ps_st (S' := (122, [(0, .ref m0), (2, .int 0)], [.ref m0], M81)) rfl rfl rfl ?_
          refine ps_st (S' := (123, [(0, .ref m0), (2, .int 0)], [.ref m0, .ref m0], M81)) rfl rfl rfl ?_
          refine ps_st (S' := (124, [(0, .ref m0), (2, .int 0)], [.ref m0, .ref m0, .ref m0], M81)) rfl rfl rfl ?_
          refine pr_int (j := 54) (S' := (127, [(0, .ref m0), (2, .int 0)], [.int (nI hA), .ref m0, .ref m0], M81)) rfl hR83 rfl hi86 rfl ?_
          refine ps_st (S' := (128, [(0, .ref m0), (2, .int 0)], [.int 2, .int (nI hA), .ref m0, .ref m0], M81)) rfl rfl rfl ?_
          refine ps_st (S' := (129, [(0, .ref m0), (2, .int 0)], [.int ((nI hA) + 2), .ref m0, .ref m0], M81)) rfl rfl rfl ?_
          rw [nI_add1 (p := hA) (k := 2) (x := 2) rfl (by omega)]
          show pl _ _ _ (_, [(0, .ref m0), (2, .int 0)], [.int (nI (hA + 2)), .ref m0, .ref m0], M81) _
          refine pl_call (a := [.ref m0, .int (nI (hA + 2))]) (rest := [.ref m0]) rfl rfl rfl (rd_u2 (n := n) (f := f) (p := (hA + 2)) hR83 hF_91 (by omega)) (fun v137 M138 q139 => ?_)
          obtain ⟨rfl, rfl⟩ := q139
          show pl _ _ _ (132, [(0, .ref m0), (2, .int 0)], [.int (nI (by2 f (hA + 2))), .ref m0], M81) _
          have hu_129 := by2_lt f (hA + 2)
          refine pl_call (a := [.ref m0, .int (nI (by2 f (hA + 2)))]) (rest := []) rfl rfl rfl (rd_plainClass (n := n) (f := f) (tx := tx) (cN := cN) (A := A) (N := N) (mj := mj) (E := E) (k := (by2 f (hA + 2))) hR83 hi88 hi89 hi90 hF_91 hY_92 hP_93 (hEP) (hN) (hmj) (by2_lt _ _) (hCP)) (fun v140 M141 q142 => ?_)
          obtain ⟨rfl, rfl⟩ := q142
          show pl _ _ _ (135, [(0, .ref m0), (2, .int 0)], [.int (nI (plnN f n E (by2 f (hA + 2))))], M81) _
          refine ps_if (S1 := (151, [(0, .ref m0), (2, .int 0)], [], M81)) (S2 := (138, [(0, .ref m0), (2, .int 0)], [], M81)) rfl rfl rfl (fun c_135 => ?_) (fun c_135 => ?_)
          · have c_135 : ¬ (nI (plnN f n E (by2 f (hA + 2)))) = 0 := of_decide_eq_true c_135
            have n_135 : ¬ (plnN f n E (by2 f (hA + 2)) = 0) := fun h9 => c_135 ((eq_nI (p := plnN f n E (by2 f (hA + 2))) (n := 0) (Nat.lt_trans (le1_pln _ _ _ _) (by decide)) (by decide)).mpr h9)
            have hpl2 := pln_in (f := f) (n := n) (E := E) (k := by2 f (hA + 2)) (by omega)
            have hcp2 := hCP (by2 f (hA + 2)) hpl2.1
            refine ps_st (S' := (152, [(0, .ref m0), (2, .int 0)], [.ref m0], M81)) rfl rfl rfl ?_
            refine ps_st (S' := (153, [(0, .ref m0), (2, .int 0)], [.ref m0, .ref m0], M81)) rfl rfl rfl ?_
            refine ps_st (S' := (154, [(0, .ref m0), (2, .int 0)], [.ref m0, .ref m0, .ref m0], M81)) rfl rfl rfl ?_
            refine ps_st (S' := (155, [(0, .ref m0), (2, .int 0)], [.ref m0, .ref m0, .ref m0, .ref m0], M81)) rfl rfl rfl ?_
            refine pr_int (j := 54) (S' := (158, [(0, .ref m0), (2, .int 0)], [.int (nI hA), .ref m0, .ref m0, .ref m0], M81)) rfl hR83 rfl hi86 rfl ?_
            refine ps_st (S' := (159, [(0, .ref m0), (2, .int 0)], [.int 2, .int (nI hA), .ref m0, .ref m0, .ref m0], M81)) rfl rfl rfl ?_
            refine ps_st (S' := (160, [(0, .ref m0), (2, .int 0)], [.int ((nI hA) + 2), .ref m0, .ref m0, .ref m0], M81)) rfl rfl rfl ?_
            rw [nI_add1 (p := hA) (k := 2) (x := 2) rfl (by omega)]
            show pl _ _ _ (_, [(0, .ref m0), (2, .int 0)], [.int (nI (hA + 2)), .ref m0, .ref m0, .ref m0], M81) _
            refine pl_call (a := [.ref m0, .int (nI (hA + 2))]) (rest := [.ref m0, .ref m0]) rfl rfl rfl (rd_u2 (n := n) (f := f) (p := (hA + 2)) hR83 hF_91 (by omega)) (fun v143 M144 q145 => ?_)
            obtain ⟨rfl, rfl⟩ := q145
            show pl _ _ _ (163, [(0, .ref m0), (2, .int 0)], [.int (nI (by2 f (hA + 2))), .ref m0, .ref m0], M81) _
            have hu_160 := by2_lt f (hA + 2)
            refine pl_call (a := [.ref m0, .int (nI (by2 f (hA + 2)))]) (rest := [.ref m0]) rfl rfl rfl (rd_className (n := n) (f := f) (tx := tx) (cN := cN) (A := A) (N := N) (mj := mj) (E := E) (k := (by2 f (hA + 2))) hR83 hi88 hi89 hi90 hF_91 hY_92 hP_93 (hEP) (hN) (hmj) (by omega)) (fun v146 M147 q148 => ?_)
            obtain ⟨s149, q163_s, rfl, rfl⟩ := q148
            show pl _ _ _ (166, [(0, .ref m0), (2, .int 0)], [.int (nI s149), .ref m0], M81) _
            have hsl_163 := q163_s.1
            have htl_163 := hY_92.1.2.2.1
            refine pr_put (j := 59) rfl hR83 rfl (fun M150 I151 hR152 hi153 hI154 => ?_)
            have hi155 := (hI154 54 (by decide)).trans hi86
            have hi156 := (hI154 11 (by decide)).trans hi87
            have hi157 := (hI154 51 (by decide)).trans hi88
            have hi158 := (hI154 52 (by decide)).trans hi89
            have hi159 := (hI154 53 (by decide)).trans hi90
            have hi160 := (hI154 58 (by decide)).trans hi84
            have hF_161 := hF_91.mono (pIx hI154 (by decide)) (fun _ _ => rfl)
            have hY_162 := hY_92.mono (pIx hI154 (by decide)) (fun _ _ => rfl)
            have hP_163 := hP_93.mono (pIx hI154 (by decide)) (fun _ _ => rfl)
            have hEI164 := hEI94.put hI154 (by decide)
            show pl _ _ _ (169, [(0, .ref m0), (2, .int 0)], [], M150) _
            refine ps_st (S' := (170, [(0, .ref m0), (2, .int 0)], [.ref m0], M150)) rfl rfl rfl ?_
            refine ps_st (S' := (171, [(0, .ref m0), (2, .int 0)], [.ref m0, .ref m0], M150)) rfl rfl rfl ?_
            refine pr_int (j := 54) (S' := (174, [(0, .ref m0), (2, .int 0)], [.int (nI hA), .ref m0], M150)) rfl hR152 rfl hi155 rfl ?_
            refine ps_st (S' := (175, [(0, .ref m0), (2, .int 0)], [.int 4, .int (nI hA), .ref m0], M150)) rfl rfl rfl ?_
            refine ps_st (S' := (176, [(0, .ref m0), (2, .int 0)], [.int ((nI hA) + 4), .ref m0], M150)) rfl rfl rfl ?_
            rw [nI_add1 (p := hA) (k := 4) (x := 4) rfl (by omega)]
            show pl _ _ _ (_, [(0, .ref m0), (2, .int 0)], [.int (nI (hA + 4)), .ref m0], M150) _
            refine pl_call (a := [.ref m0, .int (nI (hA + 4))]) (rest := []) rfl rfl rfl (rd_u2 (n := n) (f := f) (p := (hA + 4)) hR152 hF_161 (by omega)) (fun v165 M166 q167 => ?_)
            obtain ⟨rfl, rfl⟩ := q167
            show pl _ _ _ (179, [(0, .ref m0), (2, .int 0)], [.int (nI (by2 f (hA + 4)))], M150) _
            have hu_176 := by2_lt f (hA + 4)
            refine ps_st (S' := (180, [(3, .int (nI (by2 f (hA + 4)))), (0, .ref m0), (2, .int 0)], [], M150)) rfl rfl rfl ?_
            refine ps_st (S' := (181, [(3, .int (nI (by2 f (hA + 4)))), (0, .ref m0), (2, .int 0)], [.ref m0], M150)) rfl rfl rfl ?_
            refine ps_st (S' := (182, [(3, .int (nI (by2 f (hA + 4)))), (0, .ref m0), (2, .int 0)], [.int (nI (by2 f (hA + 4))), .ref m0], M150)) rfl rfl rfl ?_
            refine pl_call (a := [.ref m0, .int (nI (by2 f (hA + 4)))]) (rest := []) rfl rfl rfl (rd_plainClass (n := n) (f := f) (tx := tx) (cN := cN) (A := A) (N := N) (mj := mj) (E := E) (k := (by2 f (hA + 4))) hR152 hi157 hi158 hi159 hF_161 hY_162 hP_163 (hEP) (hN) (hmj) (by2_lt _ _) (hCP)) (fun v168 M169 q170 => ?_)
            obtain ⟨rfl, rfl⟩ := q170
            show pl _ _ _ (185, [(3, .int (nI (by2 f (hA + 4)))), (0, .ref m0), (2, .int 0)], [.int (nI (plnN f n E (by2 f (hA + 4))))], M150) _
            refine ps_if (S1 := (204, [(0, .ref m0)], [], M150)) (S2 := (188, [(3, .int (nI (by2 f (hA + 4)))), (0, .ref m0), (2, .int 0)], [], M150)) rfl rfl rfl (fun c_185 => ?_) (fun c_185 => ?_)
            · have c_185 : (nI (plnN f n E (by2 f (hA + 4)))) = 0 := of_decide_eq_true c_185
              have n_185 : plnN f n E (by2 f (hA + 4)) = 0 := (eq_nI (p := plnN f n E (by2 f (hA + 4))) (n := 0) (Nat.lt_trans (le1_pln _ _ _ _) (by decide)) (by decide)).mp c_185
              refine ps_st (S' := (205, [(0, .ref m0)], [.ref m0], M150)) rfl rfl rfl ?_
              refine ps_st (S' := (207, [(0, .ref m0)], [.int 17, .ref m0], M150)) rfl rfl rfl ?_
              refine ps_st (S' := (208, [(0, .ref m0)], [.ref m0, .int 17, .ref m0], M150)) rfl rfl rfl ?_
              refine pr_int (j := 54) (S' := (211, [(0, .ref m0)], [.int (nI hA), .int 17, .ref m0], M150)) rfl hR152 rfl hi155 rfl ?_
              refine ps_st (S' := (212, [(0, .ref m0)], [.int 4, .int (nI hA), .int 17, .ref m0], M150)) rfl rfl rfl ?_
              refine ps_st (S' := (213, [(0, .ref m0)], [.int ((nI hA) + 4), .int 17, .ref m0], M150)) rfl rfl rfl ?_
              rw [nI_add1 (p := hA) (k := 4) (x := 4) rfl (by omega)]
              show pl _ _ _ (_, [(0, .ref m0)], [.int (nI (hA + 4)), .int 17, .ref m0], M150) _
              refine pl_call (a := [.ref m0, .int 17, .int (nI (hA + 4))]) (rest := []) rfl rfl rfl (rd_wrong (x1 := 17) (x2 := (nI (hA + 4))) hR152) (fun v171 M172 q173 => ?_)
              obtain ⟨I174, R175, rfl, hR176, hI177, hX178, hi179, hi180⟩ := q173
              have hi181 := (hI177 54 (by decide)).trans hi155
              have hi182 := (hI177 11 (by decide)).trans hi156
              have hi183 := (hI177 51 (by decide)).trans hi157
              have hi184 := (hI177 52 (by decide)).trans hi158
              have hi185 := (hI177 53 (by decide)).trans hi159
              have hi186 := (hI177 58 (by decide)).trans hi160
              have hi187 := (hI177 59 (by decide)).trans hi153
              have hF_188 := hF_161.mono (cIx hI177 (by decide)) (cRx hX178 (by decide))
              have hY_189 := hY_162.mono (cIx hI177 (by decide)) (cRx hX178 (by decide))
              have hP_190 := hP_163.mono (cIx hI177 (by decide)) (cRx hX178 (by decide))
              have hEI191 := hEI164.tr hI177 (by decide)
              have hER192 := hER.tr hX178 (by decide)
              show pl _ _ _ (216, [(0, .ref m0)], [.int 0], M172) _
              exact ps_ret rfl rfl (Or.inr ⟨(17, hA + 4), I174, R175, by
                  have ec := cfl_0 (by2 f hA)
                  have eh := has_0 (by2 f hA) 512
                  unfold ccS
                  rw [show hdS f n E hA = some (17, hA + 4) by unfold hdS; first | ((repeat first | rw [if_pos (by omega)] | rw [if_neg (by omega)]) <;> first | rfl | omega) | ((repeat' split) <;> first | rfl | (exfalso; omega) | omega)], rfl, hR176, hEI191, hER192, hi179, hi180⟩)
            · have c_185 : ¬ ((nI (plnN f n E (by2 f (hA + 4)))) = 0) := of_decide_eq_false c_185
              have n_185 : ¬ (plnN f n E (by2 f (hA + 4)) = 0) := fun h9 => c_185 ((eq_nI (p := plnN f n E (by2 f (hA + 4))) (n := 0) (Nat.lt_trans (le1_pln _ _ _ _) (by decide)) (by decide)).mpr h9)
              have hpl4 := pln_in (f := f) (n := n) (E := E) (k := by2 f (hA + 4)) (by omega)
              have hcp4 := hCP (by2 f (hA + 4)) hpl4.1
              refine ps_st (S' := (189, [(3, .int (nI (by2 f (hA + 4)))), (0, .ref m0), (2, .int 0)], [.int 0], M150)) rfl rfl rfl ?_
              refine ps_if (S1 := (217, [(0, .ref m0), (3, .int (nI (by2 f (hA + 4))))], [], M150)) (S2 := (192, [(3, .int (nI (by2 f (hA + 4)))), (0, .ref m0), (2, .int 0)], [], M150)) rfl rfl rfl (fun c_189 => ?_) (fun c_189 => ?_)
              rotate_left
              · exact absurd (by decide) (of_decide_eq_false c_189)
              refine ps_st (S' := (218, [(0, .ref m0), (3, .int (nI (by2 f (hA + 4))))], [.ref m0], M150)) rfl rfl rfl ?_
              refine ps_st (S' := (219, [(0, .ref m0), (3, .int (nI (by2 f (hA + 4))))], [.ref m0, .ref m0], M150)) rfl rfl rfl ?_
              refine ps_st (S' := (220, [(0, .ref m0), (3, .int (nI (by2 f (hA + 4))))], [.int (nI (by2 f (hA + 4))), .ref m0, .ref m0], M150)) rfl rfl rfl ?_
              refine pl_call (a := [.ref m0, .int (nI (by2 f (hA + 4)))]) (rest := [.ref m0]) rfl rfl rfl (rd_className (n := n) (f := f) (tx := tx) (cN := cN) (A := A) (N := N) (mj := mj) (E := E) (k := (by2 f (hA + 4))) hR152 hi157 hi158 hi159 hF_161 hY_162 hP_163 (hEP) (hN) (hmj) (by omega)) (fun v193 M194 q195 => ?_)
              obtain ⟨s196, q220_s, rfl, rfl⟩ := q195
              show pl _ _ _ (223, [(0, .ref m0), (3, .int (nI (by2 f (hA + 4))))], [.int (nI s196), .ref m0], M150) _
              have hsl_220 := q220_s.1
              have htl_220 := hY_162.1.2.2.1
              refine pr_put (j := 60) rfl hR152 rfl (fun M197 I198 hR199 hi200 hI201 => ?_)
              have hi202 := (hI201 54 (by decide)).trans hi155
              have hi203 := (hI201 11 (by decide)).trans hi156
              have hi204 := (hI201 51 (by decide)).trans hi157
              have hi205 := (hI201 52 (by decide)).trans hi158
              have hi206 := (hI201 53 (by decide)).trans hi159
              have hi207 := (hI201 58 (by decide)).trans hi160
              have hi208 := (hI201 59 (by decide)).trans hi153
              have hF_209 := hF_161.mono (pIx hI201 (by decide)) (fun _ _ => rfl)
              have hY_210 := hY_162.mono (pIx hI201 (by decide)) (fun _ _ => rfl)
              have hP_211 := hP_163.mono (pIx hI201 (by decide)) (fun _ _ => rfl)
              have hEI212 := hEI164.put hI201 (by decide)
              show pl _ _ _ (226, [(0, .ref m0), (3, .int (nI (by2 f (hA + 4))))], [], M197) _
              have hh : hdS f n E hA = none := by
                have ec := cfl_0 (by2 f hA)
                have eh := has_0 (by2 f hA) 512
                unfold hdS
                first | ((repeat first | rw [if_pos (by omega)] | rw [if_neg (by omega)]) <;> first | rfl | omega) | ((repeat' split) <;> first | rfl | (exfalso; omega) | omega)
              refine ps_st (S' := (227, [(0, .ref m0), (3, .int (nI (by2 f (hA + 4))))], [.ref m0], M197)) rfl rfl rfl ?_
              refine ps_st (S' := (228, [(0, .ref m0), (3, .int (nI (by2 f (hA + 4))))], [.ref m0, .ref m0], M197)) rfl rfl rfl ?_
              refine pr_int (j := 54) (S' := (231, [(0, .ref m0), (3, .int (nI (by2 f (hA + 4))))], [.int (nI hA), .ref m0], M197)) rfl hR199 rfl hi202 rfl ?_
              refine ps_st (S' := (233, [(0, .ref m0), (3, .int (nI (by2 f (hA + 4))))], [.int 6, .int (nI hA), .ref m0], M197)) rfl rfl rfl ?_
              refine ps_st (S' := (234, [(0, .ref m0), (3, .int (nI (by2 f (hA + 4))))], [.int ((nI hA) + 6), .ref m0], M197)) rfl rfl rfl ?_
              rw [nI_add1 (p := hA) (k := 6) (x := 6) rfl (by omega)]
              show pl _ _ _ (_, [(0, .ref m0), (3, .int (nI (by2 f (hA + 4))))], [.int (nI (hA + 6)), .ref m0], M197) _
              refine pl_call (a := [.ref m0, .int (nI (hA + 6))]) (rest := []) rfl rfl rfl (rd_u2 (n := n) (f := f) (p := (hA + 6)) hR199 hF_209 (by omega)) (fun v213 M214 q215 => ?_)
              obtain ⟨rfl, rfl⟩ := q215
              show pl _ _ _ (237, [(0, .ref m0), (3, .int (nI (by2 f (hA + 4))))], [.int (nI (by2 f (hA + 6)))], M197) _
              have hu_234 := by2_lt f (hA + 6)
              refine ps_st (S' := (239, [(4, .int (nI (by2 f (hA + 6)))), (0, .ref m0), (3, .int (nI (by2 f (hA + 4))))], [], M197)) rfl rfl rfl ?_
              refine ps_st (S' := (240, [(4, .int (nI (by2 f (hA + 6)))), (0, .ref m0), (3, .int (nI (by2 f (hA + 4))))], [.int 0], M197)) rfl rfl rfl ?_
              refine ps_st (S' := (242, [(0, .ref m0), (4, .int (nI (by2 f (hA + 6)))), (5, .int 0)], [], M197)) rfl rfl rfl ?_
              exact (LL kf).1 (0) M197 I198 R hR199 hEI212 hER hi202 hi203 hi204 hi205 hi206 hi207 hF_209 hY_210 hP_211 (hh) (by omega) (rfl) (fun j hj => by omega)
          · have c_135 : ¬ (¬ (nI (plnN f n E (by2 f (hA + 2)))) = 0) := of_decide_eq_false c_135
            have n_135 : plnN f n E (by2 f (hA + 2)) = 0 := (eq_nI (p := plnN f n E (by2 f (hA + 2))) (n := 0) (Nat.lt_trans (le1_pln _ _ _ _) (by decide)) (by decide)).mp (Decidable.not_not.mp c_135)
            refine ps_st (S' := (139, [(0, .ref m0), (2, .int 0)], [.ref m0], M81)) rfl rfl rfl ?_
            refine ps_st (S' := (141, [(0, .ref m0), (2, .int 0)], [.int 16, .ref m0], M81)) rfl rfl rfl ?_
            refine ps_st (S' := (142, [(0, .ref m0), (2, .int 0)], [.ref m0, .int 16, .ref m0], M81)) rfl rfl rfl ?_
            refine pr_int (j := 54) (S' := (145, [(0, .ref m0), (2, .int 0)], [.int (nI hA), .int 16, .ref m0], M81)) rfl hR83 rfl hi86 rfl ?_
            refine ps_st (S' := (146, [(0, .ref m0), (2, .int 0)], [.int 2, .int (nI hA), .int 16, .ref m0], M81)) rfl rfl rfl ?_
            refine ps_st (S' := (147, [(0, .ref m0), (2, .int 0)], [.int ((nI hA) + 2), .int 16, .ref m0], M81)) rfl rfl rfl ?_
            rw [nI_add1 (p := hA) (k := 2) (x := 2) rfl (by omega)]
            show pl _ _ _ (_, [(0, .ref m0), (2, .int 0)], [.int (nI (hA + 2)), .int 16, .ref m0], M81) _
            refine pl_call (a := [.ref m0, .int 16, .int (nI (hA + 2))]) (rest := []) rfl rfl rfl (rd_wrong (x1 := 16) (x2 := (nI (hA + 2))) hR83) (fun v216 M217 q218 => ?_)
            obtain ⟨I219, R220, rfl, hR221, hI222, hX223, hi224, hi225⟩ := q218
            have hi226 := (hI222 54 (by decide)).trans hi86
            have hi227 := (hI222 11 (by decide)).trans hi87
            have hi228 := (hI222 51 (by decide)).trans hi88
            have hi229 := (hI222 52 (by decide)).trans hi89
            have hi230 := (hI222 53 (by decide)).trans hi90
            have hi231 := (hI222 58 (by decide)).trans hi84
            have hF_232 := hF_91.mono (cIx hI222 (by decide)) (cRx hX223 (by decide))
            have hY_233 := hY_92.mono (cIx hI222 (by decide)) (cRx hX223 (by decide))
            have hP_234 := hP_93.mono (cIx hI222 (by decide)) (cRx hX223 (by decide))
            have hEI235 := hEI94.tr hI222 (by decide)
            have hER236 := hER.tr hX223 (by decide)
            show pl _ _ _ (150, [(0, .ref m0), (2, .int 0)], [.int 0], M217) _
            exact ps_ret rfl rfl (Or.inr ⟨(16, hA + 2), I219, R220, by
                have ec := cfl_0 (by2 f hA)
                have eh := has_0 (by2 f hA) 512
                unfold ccS
                rw [show hdS f n E hA = some (16, hA + 2) by unfold hdS; first | ((repeat first | rw [if_pos (by omega)] | rw [if_neg (by omega)]) <;> first | rfl | omega) | ((repeat' split) <;> first | rfl | (exfalso; omega) | omega)], rfl, hR221, hEI235, hER236, hi224, hi225⟩)
        · have c_71 : ¬ ((nI (aN (by2 f hA) 16)) = 0) := of_decide_eq_false c_71
          have n_71 : ¬ (aN (by2 f hA) 16 = 0) := fun h9 => c_71 ((eq_nI (p := aN (by2 f hA) 16) (n := 0) (Nat.lt_of_le_of_lt (an_le _ _) (by decide)) (by decide)).mpr h9)
          refine ps_st (S' := (75, [(2, .int 0), (0, .ref m0), (1, .int (nI (by2 f hA)))], [.int (nI (by2 f hA))], M81)) rfl rfl rfl ?_
          refine ps_st (S' := (78, [(2, .int 0), (0, .ref m0), (1, .int (nI (by2 f hA)))], [.int 1024, .int (nI (by2 f hA))], M81)) rfl rfl rfl ?_
          refine ps_st (S' := (79, [(2, .int 0), (0, .ref m0), (1, .int (nI (by2 f hA)))], [.int ((nI (by2 f hA)) &&& 1024)], M81)) rfl rfl rfl ?_
          rw [nI_an (p := by2 f hA) (k := 1024) (x := 1024) rfl]
          show pl _ _ _ (_, [(2, .int 0), (0, .ref m0), (1, .int (nI (by2 f hA)))], [.int (nI (aN (by2 f hA) 1024))], M81) _
          refine ps_if (S1 := (121, [(0, .ref m0), (2, .int 0)], [], M81)) (S2 := (82, [(0, .ref m0), (1, .int (nI (by2 f hA))), (2, .int 0)], [], M81)) rfl rfl rfl (fun c_79 => ?_) (fun c_79 => ?_)
          · have c_79 : (nI (aN (by2 f hA) 1024)) = 0 := of_decide_eq_true c_79
            have n_79 : aN (by2 f hA) 1024 = 0 := (eq_nI (p := aN (by2 f hA) 1024) (n := 0) (Nat.lt_of_le_of_lt (an_le _ _) (by decide)) (by decide)).mp c_79
            refine ps_st (S' := (122, [(0, .ref m0), (2, .int 0)], [.ref m0], M81)) rfl rfl rfl ?_
            refine ps_st (S' := (123, [(0, .ref m0), (2, .int 0)], [.ref m0, .ref m0], M81)) rfl rfl rfl ?_
            refine ps_st (S' := (124, [(0, .ref m0), (2, .int 0)], [.ref m0, .ref m0, .ref m0], M81)) rfl rfl rfl ?_
            refine pr_int (j := 54) (S' := (127, [(0, .ref m0), (2, .int 0)], [.int (nI hA), .ref m0, .ref m0], M81)) rfl hR83 rfl hi86 rfl ?_
            refine ps_st (S' := (128, [(0, .ref m0), (2, .int 0)], [.int 2, .int (nI hA), .ref m0, .ref m0], M81)) rfl rfl rfl ?_
            refine ps_st (S' := (129, [(0, .ref m0), (2, .int 0)], [.int ((nI hA) + 2), .ref m0, .ref m0], M81)) rfl rfl rfl ?_
            rw [nI_add1 (p := hA) (k := 2) (x := 2) rfl (by omega)]
            show pl _ _ _ (_, [(0, .ref m0), (2, .int 0)], [.int (nI (hA + 2)), .ref m0, .ref m0], M81) _
            refine pl_call (a := [.ref m0, .int (nI (hA + 2))]) (rest := [.ref m0]) rfl rfl rfl (rd_u2 (n := n) (f := f) (p := (hA + 2)) hR83 hF_91 (by omega)) (fun v237 M238 q239 => ?_)
            obtain ⟨rfl, rfl⟩ := q239
            show pl _ _ _ (132, [(0, .ref m0), (2, .int 0)], [.int (nI (by2 f (hA + 2))), .ref m0], M81) _
            have hu_129 := by2_lt f (hA + 2)
            refine pl_call (a := [.ref m0, .int (nI (by2 f (hA + 2)))]) (rest := []) rfl rfl rfl (rd_plainClass (n := n) (f := f) (tx := tx) (cN := cN) (A := A) (N := N) (mj := mj) (E := E) (k := (by2 f (hA + 2))) hR83 hi88 hi89 hi90 hF_91 hY_92 hP_93 (hEP) (hN) (hmj) (by2_lt _ _) (hCP)) (fun v240 M241 q242 => ?_)
            obtain ⟨rfl, rfl⟩ := q242
            show pl _ _ _ (135, [(0, .ref m0), (2, .int 0)], [.int (nI (plnN f n E (by2 f (hA + 2))))], M81) _
            refine ps_if (S1 := (151, [(0, .ref m0), (2, .int 0)], [], M81)) (S2 := (138, [(0, .ref m0), (2, .int 0)], [], M81)) rfl rfl rfl (fun c_135 => ?_) (fun c_135 => ?_)
            · have c_135 : ¬ (nI (plnN f n E (by2 f (hA + 2)))) = 0 := of_decide_eq_true c_135
              have n_135 : ¬ (plnN f n E (by2 f (hA + 2)) = 0) := fun h9 => c_135 ((eq_nI (p := plnN f n E (by2 f (hA + 2))) (n := 0) (Nat.lt_trans (le1_pln _ _ _ _) (by decide)) (by decide)).mpr h9)
              have hpl2 := pln_in (f := f) (n := n) (E := E) (k := by2 f (hA + 2)) (by omega)
              have hcp2 := hCP (by2 f (hA + 2)) hpl2.1
              refine ps_st (S' := (152, [(0, .ref m0), (2, .int 0)], [.ref m0], M81)) rfl rfl rfl ?_
              refine ps_st (S' := (153, [(0, .ref m0), (2, .int 0)], [.ref m0, .ref m0], M81)) rfl rfl rfl ?_
              refine ps_st (S' := (154, [(0, .ref m0), (2, .int 0)], [.ref m0, .ref m0, .ref m0], M81)) rfl rfl rfl ?_
              refine ps_st (S' := (155, [(0, .ref m0), (2, .int 0)], [.ref m0, .ref m0, .ref m0, .ref m0], M81)) rfl rfl rfl ?_
              refine pr_int (j := 54) (S' := (158, [(0, .ref m0), (2, .int 0)], [.int (nI hA), .ref m0, .ref m0, .ref m0], M81)) rfl hR83 rfl hi86 rfl ?_
              refine ps_st (S' := (159, [(0, .ref m0), (2, .int 0)], [.int 2, .int (nI hA), .ref m0, .ref m0, .ref m0], M81)) rfl rfl rfl ?_
              refine ps_st (S' := (160, [(0, .ref m0), (2, .int 0)], [.int ((nI hA) + 2), .ref m0, .ref m0, .ref m0], M81)) rfl rfl rfl ?_
              rw [nI_add1 (p := hA) (k := 2) (x := 2) rfl (by omega)]
              show pl _ _ _ (_, [(0, .ref m0), (2, .int 0)], [.int (nI (hA + 2)), .ref m0, .ref m0, .ref m0], M81) _
              refine pl_call (a := [.ref m0, .int (nI (hA + 2))]) (rest := [.ref m0, .ref m0]) rfl rfl rfl (rd_u2 (n := n) (f := f) (p := (hA + 2)) hR83 hF_91 (by omega)) (fun v243 M244 q245 => ?_)
              obtain ⟨rfl, rfl⟩ := q245
              show pl _ _ _ (163, [(0, .ref m0), (2, .int 0)], [.int (nI (by2 f (hA + 2))), .ref m0, .ref m0], M81) _
              have hu_160 := by2_lt f (hA + 2)
              refine pl_call (a := [.ref m0, .int (nI (by2 f (hA + 2)))]) (rest := [.ref m0]) rfl rfl rfl (rd_className (n := n) (f := f) (tx := tx) (cN := cN) (A := A) (N := N) (mj := mj) (E := E) (k := (by2 f (hA + 2))) hR83 hi88 hi89 hi90 hF_91 hY_92 hP_93 (hEP) (hN) (hmj) (by omega)) (fun v246 M247 q248 => ?_)
              obtain ⟨s249, q163_s, rfl, rfl⟩ := q248
              show pl _ _ _ (166, [(0, .ref m0), (2, .int 0)], [.int (nI s249), .ref m0], M81) _
              have hsl_163 := q163_s.1
              have htl_163 := hY_92.1.2.2.1
              refine pr_put (j := 59) rfl hR83 rfl (fun M250 I251 hR252 hi253 hI254 => ?_)
              have hi255 := (hI254 54 (by decide)).trans hi86
              have hi256 := (hI254 11 (by decide)).trans hi87
              have hi257 := (hI254 51 (by decide)).trans hi88
              have hi258 := (hI254 52 (by decide)).trans hi89
              have hi259 := (hI254 53 (by decide)).trans hi90
              have hi260 := (hI254 58 (by decide)).trans hi84
              have hF_261 := hF_91.mono (pIx hI254 (by decide)) (fun _ _ => rfl)
              have hY_262 := hY_92.mono (pIx hI254 (by decide)) (fun _ _ => rfl)
              have hP_263 := hP_93.mono (pIx hI254 (by decide)) (fun _ _ => rfl)
              have hEI264 := hEI94.put hI254 (by decide)
              show pl _ _ _ (169, [(0, .ref m0), (2, .int 0)], [], M250) _
              refine ps_st (S' := (170, [(0, .ref m0), (2, .int 0)], [.ref m0], M250)) rfl rfl rfl ?_
              refine ps_st (S' := (171, [(0, .ref m0), (2, .int 0)], [.ref m0, .ref m0], M250)) rfl rfl rfl ?_
              refine pr_int (j := 54) (S' := (174, [(0, .ref m0), (2, .int 0)], [.int (nI hA), .ref m0], M250)) rfl hR252 rfl hi255 rfl ?_
              refine ps_st (S' := (175, [(0, .ref m0), (2, .int 0)], [.int 4, .int (nI hA), .ref m0], M250)) rfl rfl rfl ?_
              refine ps_st (S' := (176, [(0, .ref m0), (2, .int 0)], [.int ((nI hA) + 4), .ref m0], M250)) rfl rfl rfl ?_
              rw [nI_add1 (p := hA) (k := 4) (x := 4) rfl (by omega)]
              show pl _ _ _ (_, [(0, .ref m0), (2, .int 0)], [.int (nI (hA + 4)), .ref m0], M250) _
              refine pl_call (a := [.ref m0, .int (nI (hA + 4))]) (rest := []) rfl rfl rfl (rd_u2 (n := n) (f := f) (p := (hA + 4)) hR252 hF_261 (by omega)) (fun v265 M266 q267 => ?_)
              obtain ⟨rfl, rfl⟩ := q267
              show pl _ _ _ (179, [(0, .ref m0), (2, .int 0)], [.int (nI (by2 f (hA + 4)))], M250) _
              have hu_176 := by2_lt f (hA + 4)
              refine ps_st (S' := (180, [(3, .int (nI (by2 f (hA + 4)))), (0, .ref m0), (2, .int 0)], [], M250)) rfl rfl rfl ?_
              refine ps_st (S' := (181, [(3, .int (nI (by2 f (hA + 4)))), (0, .ref m0), (2, .int 0)], [.ref m0], M250)) rfl rfl rfl ?_
              refine ps_st (S' := (182, [(3, .int (nI (by2 f (hA + 4)))), (0, .ref m0), (2, .int 0)], [.int (nI (by2 f (hA + 4))), .ref m0], M250)) rfl rfl rfl ?_
              refine pl_call (a := [.ref m0, .int (nI (by2 f (hA + 4)))]) (rest := []) rfl rfl rfl (rd_plainClass (n := n) (f := f) (tx := tx) (cN := cN) (A := A) (N := N) (mj := mj) (E := E) (k := (by2 f (hA + 4))) hR252 hi257 hi258 hi259 hF_261 hY_262 hP_263 (hEP) (hN) (hmj) (by2_lt _ _) (hCP)) (fun v268 M269 q270 => ?_)
              obtain ⟨rfl, rfl⟩ := q270
              show pl _ _ _ (185, [(3, .int (nI (by2 f (hA + 4)))), (0, .ref m0), (2, .int 0)], [.int (nI (plnN f n E (by2 f (hA + 4))))], M250) _
              refine ps_if (S1 := (204, [(0, .ref m0)], [], M250)) (S2 := (188, [(3, .int (nI (by2 f (hA + 4)))), (0, .ref m0), (2, .int 0)], [], M250)) rfl rfl rfl (fun c_185 => ?_) (fun c_185 => ?_)
              · have c_185 : (nI (plnN f n E (by2 f (hA + 4)))) = 0 := of_decide_eq_true c_185
                have n_185 : plnN f n E (by2 f (hA + 4)) = 0 := (eq_nI (p := plnN f n E (by2 f (hA + 4))) (n := 0) (Nat.lt_trans (le1_pln _ _ _ _) (by decide)) (by decide)).mp c_185
                refine ps_st (S' := (205, [(0, .ref m0)], [.ref m0], M250)) rfl rfl rfl ?_
                refine ps_st (S' := (207, [(0, .ref m0)], [.int 17, .ref m0], M250)) rfl rfl rfl ?_
                refine ps_st (S' := (208, [(0, .ref m0)], [.ref m0, .int 17, .ref m0], M250)) rfl rfl rfl ?_
                refine pr_int (j := 54) (S' := (211, [(0, .ref m0)], [.int (nI hA), .int 17, .ref m0], M250)) rfl hR252 rfl hi255 rfl ?_
                refine ps_st (S' := (212, [(0, .ref m0)], [.int 4, .int (nI hA), .int 17, .ref m0], M250)) rfl rfl rfl ?_
                refine ps_st (S' := (213, [(0, .ref m0)], [.int ((nI hA) + 4), .int 17, .ref m0], M250)) rfl rfl rfl ?_
                rw [nI_add1 (p := hA) (k := 4) (x := 4) rfl (by omega)]
                show pl _ _ _ (_, [(0, .ref m0)], [.int (nI (hA + 4)), .int 17, .ref m0], M250) _
                refine pl_call (a := [.ref m0, .int 17, .int (nI (hA + 4))]) (rest := []) rfl rfl rfl (rd_wrong (x1 := 17) (x2 := (nI (hA + 4))) hR252) (fun v271 M272 q273 => ?_)
                obtain ⟨I274, R275, rfl, hR276, hI277, hX278, hi279, hi280⟩ := q273
                have hi281 := (hI277 54 (by decide)).trans hi255
                have hi282 := (hI277 11 (by decide)).trans hi256
                have hi283 := (hI277 51 (by decide)).trans hi257
                have hi284 := (hI277 52 (by decide)).trans hi258
                have hi285 := (hI277 53 (by decide)).trans hi259
                have hi286 := (hI277 58 (by decide)).trans hi260
                have hi287 := (hI277 59 (by decide)).trans hi253
                have hF_288 := hF_261.mono (cIx hI277 (by decide)) (cRx hX278 (by decide))
                have hY_289 := hY_262.mono (cIx hI277 (by decide)) (cRx hX278 (by decide))
                have hP_290 := hP_263.mono (cIx hI277 (by decide)) (cRx hX278 (by decide))
                have hEI291 := hEI264.tr hI277 (by decide)
                have hER292 := hER.tr hX278 (by decide)
                show pl _ _ _ (216, [(0, .ref m0)], [.int 0], M272) _
                exact ps_ret rfl rfl (Or.inr ⟨(17, hA + 4), I274, R275, by
                    have ec := cfl_0 (by2 f hA)
                    have eh := has_0 (by2 f hA) 512
                    unfold ccS
                    rw [show hdS f n E hA = some (17, hA + 4) by unfold hdS; first | ((repeat first | rw [if_pos (by omega)] | rw [if_neg (by omega)]) <;> first | rfl | omega) | ((repeat' split) <;> first | rfl | (exfalso; omega) | omega)], rfl, hR276, hEI291, hER292, hi279, hi280⟩)
              · have c_185 : ¬ ((nI (plnN f n E (by2 f (hA + 4)))) = 0) := of_decide_eq_false c_185
                have n_185 : ¬ (plnN f n E (by2 f (hA + 4)) = 0) := fun h9 => c_185 ((eq_nI (p := plnN f n E (by2 f (hA + 4))) (n := 0) (Nat.lt_trans (le1_pln _ _ _ _) (by decide)) (by decide)).mpr h9)
                have hpl4 := pln_in (f := f) (n := n) (E := E) (k := by2 f (hA + 4)) (by omega)
                have hcp4 := hCP (by2 f (hA + 4)) hpl4.1
                refine ps_st (S' := (189, [(3, .int (nI (by2 f (hA + 4)))), (0, .ref m0), (2, .int 0)], [.int 0], M250)) rfl rfl rfl ?_
                refine ps_if (S1 := (217, [(0, .ref m0), (3, .int (nI (by2 f (hA + 4))))], [], M250)) (S2 := (192, [(3, .int (nI (by2 f (hA + 4)))), (0, .ref m0), (2, .int 0)], [], M250)) rfl rfl rfl (fun c_189 => ?_) (fun c_189 => ?_)
                rotate_left
                · exact absurd (by decide) (of_decide_eq_false c_189)
                refine ps_st (S' := (218, [(0, .ref m0), (3, .int (nI (by2 f (hA + 4))))], [.ref m0], M250)) rfl rfl rfl ?_
                refine ps_st (S' := (219, [(0, .ref m0), (3, .int (nI (by2 f (hA + 4))))], [.ref m0, .ref m0], M250)) rfl rfl rfl ?_
                refine ps_st (S' := (220, [(0, .ref m0), (3, .int (nI (by2 f (hA + 4))))], [.int (nI (by2 f (hA + 4))), .ref m0, .ref m0], M250)) rfl rfl rfl ?_
                refine pl_call (a := [.ref m0, .int (nI (by2 f (hA + 4)))]) (rest := [.ref m0]) rfl rfl rfl (rd_className (n := n) (f := f) (tx := tx) (cN := cN) (A := A) (N := N) (mj := mj) (E := E) (k := (by2 f (hA + 4))) hR252 hi257 hi258 hi259 hF_261 hY_262 hP_263 (hEP) (hN) (hmj) (by omega)) (fun v293 M294 q295 => ?_)
                obtain ⟨s296, q220_s, rfl, rfl⟩ := q295
                show pl _ _ _ (223, [(0, .ref m0), (3, .int (nI (by2 f (hA + 4))))], [.int (nI s296), .ref m0], M250) _
                have hsl_220 := q220_s.1
                have htl_220 := hY_262.1.2.2.1
                refine pr_put (j := 60) rfl hR252 rfl (fun M297 I298 hR299 hi300 hI301 => ?_)
                have hi302 := (hI301 54 (by decide)).trans hi255
                have hi303 := (hI301 11 (by decide)).trans hi256
                have hi304 := (hI301 51 (by decide)).trans hi257
                have hi305 := (hI301 52 (by decide)).trans hi258
                have hi306 := (hI301 53 (by decide)).trans hi259
                have hi307 := (hI301 58 (by decide)).trans hi260
                have hi308 := (hI301 59 (by decide)).trans hi253
                have hF_309 := hF_261.mono (pIx hI301 (by decide)) (fun _ _ => rfl)
                have hY_310 := hY_262.mono (pIx hI301 (by decide)) (fun _ _ => rfl)
                have hP_311 := hP_263.mono (pIx hI301 (by decide)) (fun _ _ => rfl)
                have hEI312 := hEI264.put hI301 (by decide)
                show pl _ _ _ (226, [(0, .ref m0), (3, .int (nI (by2 f (hA + 4))))], [], M297) _
                have hh : hdS f n E hA = none := by
                  have ec := cfl_0 (by2 f hA)
                  have eh := has_0 (by2 f hA) 512
                  unfold hdS
                  first | ((repeat first | rw [if_pos (by omega)] | rw [if_neg (by omega)]) <;> first | rfl | omega) | ((repeat' split) <;> first | rfl | (exfalso; omega) | omega)
                refine ps_st (S' := (227, [(0, .ref m0), (3, .int (nI (by2 f (hA + 4))))], [.ref m0], M297)) rfl rfl rfl ?_
                refine ps_st (S' := (228, [(0, .ref m0), (3, .int (nI (by2 f (hA + 4))))], [.ref m0, .ref m0], M297)) rfl rfl rfl ?_
                refine pr_int (j := 54) (S' := (231, [(0, .ref m0), (3, .int (nI (by2 f (hA + 4))))], [.int (nI hA), .ref m0], M297)) rfl hR299 rfl hi302 rfl ?_
                refine ps_st (S' := (233, [(0, .ref m0), (3, .int (nI (by2 f (hA + 4))))], [.int 6, .int (nI hA), .ref m0], M297)) rfl rfl rfl ?_
                refine ps_st (S' := (234, [(0, .ref m0), (3, .int (nI (by2 f (hA + 4))))], [.int ((nI hA) + 6), .ref m0], M297)) rfl rfl rfl ?_
                rw [nI_add1 (p := hA) (k := 6) (x := 6) rfl (by omega)]
                show pl _ _ _ (_, [(0, .ref m0), (3, .int (nI (by2 f (hA + 4))))], [.int (nI (hA + 6)), .ref m0], M297) _
                refine pl_call (a := [.ref m0, .int (nI (hA + 6))]) (rest := []) rfl rfl rfl (rd_u2 (n := n) (f := f) (p := (hA + 6)) hR299 hF_309 (by omega)) (fun v313 M314 q315 => ?_)
                obtain ⟨rfl, rfl⟩ := q315
                show pl _ _ _ (237, [(0, .ref m0), (3, .int (nI (by2 f (hA + 4))))], [.int (nI (by2 f (hA + 6)))], M297) _
                have hu_234 := by2_lt f (hA + 6)
                refine ps_st (S' := (239, [(4, .int (nI (by2 f (hA + 6)))), (0, .ref m0), (3, .int (nI (by2 f (hA + 4))))], [], M297)) rfl rfl rfl ?_
                refine ps_st (S' := (240, [(4, .int (nI (by2 f (hA + 6)))), (0, .ref m0), (3, .int (nI (by2 f (hA + 4))))], [.int 0], M297)) rfl rfl rfl ?_
                refine ps_st (S' := (242, [(0, .ref m0), (4, .int (nI (by2 f (hA + 6)))), (5, .int 0)], [], M297)) rfl rfl rfl ?_
                exact (LL kf).1 (0) M297 I298 R hR299 hEI312 hER hi302 hi303 hi304 hi305 hi306 hi307 hF_309 hY_310 hP_311 (hh) (by omega) (rfl) (fun j hj => by omega)
            · have c_135 : ¬ (¬ (nI (plnN f n E (by2 f (hA + 2)))) = 0) := of_decide_eq_false c_135
              have n_135 : plnN f n E (by2 f (hA + 2)) = 0 := (eq_nI (p := plnN f n E (by2 f (hA + 2))) (n := 0) (Nat.lt_trans (le1_pln _ _ _ _) (by decide)) (by decide)).mp (Decidable.not_not.mp c_135)
              refine ps_st (S' := (139, [(0, .ref m0), (2, .int 0)], [.ref m0], M81)) rfl rfl rfl ?_
              refine ps_st (S' := (141, [(0, .ref m0), (2, .int 0)], [.int 16, .ref m0], M81)) rfl rfl rfl ?_
              refine ps_st (S' := (142, [(0, .ref m0), (2, .int 0)], [.ref m0, .int 16, .ref m0], M81)) rfl rfl rfl ?_
              refine pr_int (j := 54) (S' := (145, [(0, .ref m0), (2, .int 0)], [.int (nI hA), .int 16, .ref m0], M81)) rfl hR83 rfl hi86 rfl ?_
              refine ps_st (S' := (146, [(0, .ref m0), (2, .int 0)], [.int 2, .int (nI hA), .int 16, .ref m0], M81)) rfl rfl rfl ?_
              refine ps_st (S' := (147, [(0, .ref m0), (2, .int 0)], [.int ((nI hA) + 2), .int 16, .ref m0], M81)) rfl rfl rfl ?_
              rw [nI_add1 (p := hA) (k := 2) (x := 2) rfl (by omega)]
              show pl _ _ _ (_, [(0, .ref m0), (2, .int 0)], [.int (nI (hA + 2)), .int 16, .ref m0], M81) _
              refine pl_call (a := [.ref m0, .int 16, .int (nI (hA + 2))]) (rest := []) rfl rfl rfl (rd_wrong (x1 := 16) (x2 := (nI (hA + 2))) hR83) (fun v316 M317 q318 => ?_)
              obtain ⟨I319, R320, rfl, hR321, hI322, hX323, hi324, hi325⟩ := q318
              have hi326 := (hI322 54 (by decide)).trans hi86
              have hi327 := (hI322 11 (by decide)).trans hi87
              have hi328 := (hI322 51 (by decide)).trans hi88
              have hi329 := (hI322 52 (by decide)).trans hi89
              have hi330 := (hI322 53 (by decide)).trans hi90
              have hi331 := (hI322 58 (by decide)).trans hi84
              have hF_332 := hF_91.mono (cIx hI322 (by decide)) (cRx hX323 (by decide))
              have hY_333 := hY_92.mono (cIx hI322 (by decide)) (cRx hX323 (by decide))
              have hP_334 := hP_93.mono (cIx hI322 (by decide)) (cRx hX323 (by decide))
              have hEI335 := hEI94.tr hI322 (by decide)
              have hER336 := hER.tr hX323 (by decide)
              show pl _ _ _ (150, [(0, .ref m0), (2, .int 0)], [.int 0], M317) _
              exact ps_ret rfl rfl (Or.inr ⟨(16, hA + 2), I319, R320, by
                  have ec := cfl_0 (by2 f hA)
                  have eh := has_0 (by2 f hA) 512
                  unfold ccS
                  rw [show hdS f n E hA = some (16, hA + 2) by unfold hdS; first | ((repeat first | rw [if_pos (by omega)] | rw [if_neg (by omega)]) <;> first | rfl | omega) | ((repeat' split) <;> first | rfl | (exfalso; omega) | omega)], rfl, hR321, hEI335, hER336, hi324, hi325⟩)
          · have c_79 : ¬ ((nI (aN (by2 f hA) 1024)) = 0) := of_decide_eq_false c_79
            have n_79 : ¬ (aN (by2 f hA) 1024 = 0) := fun h9 => c_79 ((eq_nI (p := aN (by2 f hA) 1024) (n := 0) (Nat.lt_of_le_of_lt (an_le _ _) (by decide)) (by decide)).mpr h9)
            refine ps_st (S' := (83, [(0, .ref m0), (1, .int (nI (by2 f hA))), (2, .int 0)], [.int 0], M81)) rfl rfl rfl ?_
            refine ps_if (S1 := (110, [(0, .ref m0)], [], M81)) (S2 := (86, [(0, .ref m0), (1, .int (nI (by2 f hA))), (2, .int 0)], [], M81)) rfl rfl rfl (fun c_83 => ?_) (fun c_83 => ?_)
            rotate_left
            · exact absurd (by decide) (of_decide_eq_false c_83)
            refine ps_st (S' := (111, [(0, .ref m0)], [.ref m0], M81)) rfl rfl rfl ?_
            refine ps_st (S' := (113, [(0, .ref m0)], [.int 15, .ref m0], M81)) rfl rfl rfl ?_
            refine ps_st (S' := (114, [(0, .ref m0)], [.ref m0, .int 15, .ref m0], M81)) rfl rfl rfl ?_
            refine pr_int (j := 54) (S' := (117, [(0, .ref m0)], [.int (nI hA), .int 15, .ref m0], M81)) rfl hR83 rfl hi86 rfl ?_
            refine pl_call (a := [.ref m0, .int 15, .int (nI hA)]) (rest := []) rfl rfl rfl (rd_wrong (x1 := 15) (x2 := (nI hA)) hR83) (fun v337 M338 q339 => ?_)
            obtain ⟨I340, R341, rfl, hR342, hI343, hX344, hi345, hi346⟩ := q339
            have hi347 := (hI343 54 (by decide)).trans hi86
            have hi348 := (hI343 11 (by decide)).trans hi87
            have hi349 := (hI343 51 (by decide)).trans hi88
            have hi350 := (hI343 52 (by decide)).trans hi89
            have hi351 := (hI343 53 (by decide)).trans hi90
            have hi352 := (hI343 58 (by decide)).trans hi84
            have hF_353 := hF_91.mono (cIx hI343 (by decide)) (cRx hX344 (by decide))
            have hY_354 := hY_92.mono (cIx hI343 (by decide)) (cRx hX344 (by decide))
            have hP_355 := hP_93.mono (cIx hI343 (by decide)) (cRx hX344 (by decide))
            have hEI356 := hEI94.tr hI343 (by decide)
            have hER357 := hER.tr hX344 (by decide)
            show pl _ _ _ (120, [(0, .ref m0)], [.int 0], M338) _
            exact ps_ret rfl rfl (Or.inr ⟨(15, hA), I340, R341, by
                have ec := cfl_0 (by2 f hA)
                have eh := has_0 (by2 f hA) 512
                unfold ccS
                rw [show hdS f n E hA = some (15, hA) by unfold hdS; first | ((repeat first | rw [if_pos (by omega)] | rw [if_neg (by omega)]) <;> first | rfl | omega) | ((repeat' split) <;> first | rfl | (exfalso; omega) | omega)], rfl, hR342, hEI356, hER357, hi345, hi346⟩)
  · have c_19 : ¬ ((nI (aN (by2 f hA) 512)) = 0) := of_decide_eq_false c_19
    have n_19 : ¬ (aN (by2 f hA) 512 = 0) := fun h9 => c_19 ((eq_nI (p := aN (by2 f hA) 512) (n := 0) (Nat.lt_of_le_of_lt (an_le _ _) (by decide)) (by decide)).mpr h9)
    refine ps_st (S' := (23, [(1, .int (nI (by2 f hA))), (0, .ref m0)], [.int 1], M81)) rfl rfl rfl ?_
    refine ps_st (S' := (27, [(0, .ref m0), (1, .int (nI (by2 f hA)))], [.int 1], M81)) rfl rfl rfl ?_
    refine ps_st (S' := (28, [(2, .int 1), (0, .ref m0), (1, .int (nI (by2 f hA)))], [], M81)) rfl rfl rfl ?_
    refine ps_st (S' := (29, [(2, .int 1), (0, .ref m0), (1, .int (nI (by2 f hA)))], [.int (nI (by2 f hA))], M81)) rfl rfl rfl ?_
    refine ps_st (S' := (32, [(2, .int 1), (0, .ref m0), (1, .int (nI (by2 f hA)))], [.int 32768, .int (nI (by2 f hA))], M81)) rfl rfl rfl ?_
    refine ps_st (S' := (33, [(2, .int 1), (0, .ref m0), (1, .int (nI (by2 f hA)))], [.int ((nI (by2 f hA)) &&& 32768)], M81)) rfl rfl rfl ?_
    rw [nI_an (p := by2 f hA) (k := 32768) (x := 32768) rfl]
    show pl _ _ _ (_, [(2, .int 1), (0, .ref m0), (1, .int (nI (by2 f hA)))], [.int (nI (aN (by2 f hA) 32768))], M81) _
    refine ps_if (S1 := (82, [(0, .ref m0), (1, .int (nI (by2 f hA))), (2, .int 1)], [], M81)) (S2 := (36, [(2, .int 1), (0, .ref m0), (1, .int (nI (by2 f hA)))], [], M81)) rfl rfl rfl (fun c_33 => ?_) (fun c_33 => ?_)
    · have c_33 : ¬ (nI (aN (by2 f hA) 32768)) = 0 := of_decide_eq_true c_33
      have n_33 : ¬ (aN (by2 f hA) 32768 = 0) := fun h9 => c_33 ((eq_nI (p := aN (by2 f hA) 32768) (n := 0) (Nat.lt_of_le_of_lt (an_le _ _) (by decide)) (by decide)).mpr h9)
      refine ps_st (S' := (83, [(0, .ref m0), (1, .int (nI (by2 f hA))), (2, .int 1)], [.int 1], M81)) rfl rfl rfl ?_
      refine ps_if (S1 := (110, [(0, .ref m0)], [], M81)) (S2 := (86, [(0, .ref m0), (1, .int (nI (by2 f hA))), (2, .int 1)], [], M81)) rfl rfl rfl (fun c_83 => ?_) (fun c_83 => ?_)
      · exact absurd (of_decide_eq_true c_83) (by decide)
      refine ps_st (S' := (87, [(0, .ref m0), (1, .int (nI (by2 f hA))), (2, .int 1)], [.int (nI (by2 f hA))], M81)) rfl rfl rfl ?_
      refine ps_st (S' := (90, [(0, .ref m0), (1, .int (nI (by2 f hA))), (2, .int 1)], [.int 32768, .int (nI (by2 f hA))], M81)) rfl rfl rfl ?_
      refine ps_st (S' := (91, [(0, .ref m0), (1, .int (nI (by2 f hA))), (2, .int 1)], [.int ((nI (by2 f hA)) &&& 32768)], M81)) rfl rfl rfl ?_
      rw [nI_an (p := by2 f hA) (k := 32768) (x := 32768) rfl]
      show pl _ _ _ (_, [(0, .ref m0), (1, .int (nI (by2 f hA))), (2, .int 1)], [.int (nI (aN (by2 f hA) 32768))], M81) _
      refine ps_if (S1 := (110, [(0, .ref m0)], [], M81)) (S2 := (94, [(0, .ref m0), (1, .int (nI (by2 f hA))), (2, .int 1)], [], M81)) rfl rfl rfl (fun c_91 => ?_) (fun c_91 => ?_)
      rotate_left
      · exact absurd (show ¬ ((nI (aN (by2 f hA) 32768)) = 0) from fun h9 => absurd ((eq_nI (p := aN (by2 f hA) 32768) (n := 0) (Nat.lt_of_le_of_lt (an_le _ _) (by decide)) (by decide)).mp h9) (by omega)) (of_decide_eq_false c_91)
      refine ps_st (S' := (111, [(0, .ref m0)], [.ref m0], M81)) rfl rfl rfl ?_
      refine ps_st (S' := (113, [(0, .ref m0)], [.int 15, .ref m0], M81)) rfl rfl rfl ?_
      refine ps_st (S' := (114, [(0, .ref m0)], [.ref m0, .int 15, .ref m0], M81)) rfl rfl rfl ?_
      refine pr_int (j := 54) (S' := (117, [(0, .ref m0)], [.int (nI hA), .int 15, .ref m0], M81)) rfl hR83 rfl hi86 rfl ?_
      refine pl_call (a := [.ref m0, .int 15, .int (nI hA)]) (rest := []) rfl rfl rfl (rd_wrong (x1 := 15) (x2 := (nI hA)) hR83) (fun v358 M359 q360 => ?_)
      obtain ⟨I361, R362, rfl, hR363, hI364, hX365, hi366, hi367⟩ := q360
      have hi368 := (hI364 54 (by decide)).trans hi86
      have hi369 := (hI364 11 (by decide)).trans hi87
      have hi370 := (hI364 51 (by decide)).trans hi88
      have hi371 := (hI364 52 (by decide)).trans hi89
      have hi372 := (hI364 53 (by decide)).trans hi90
      have hi373 := (hI364 58 (by decide)).trans hi84
      have hF_374 := hF_91.mono (cIx hI364 (by decide)) (cRx hX365 (by decide))
      have hY_375 := hY_92.mono (cIx hI364 (by decide)) (cRx hX365 (by decide))
      have hP_376 := hP_93.mono (cIx hI364 (by decide)) (cRx hX365 (by decide))
      have hEI377 := hEI94.tr hI364 (by decide)
      have hER378 := hER.tr hX365 (by decide)
      show pl _ _ _ (120, [(0, .ref m0)], [.int 0], M359) _
      exact ps_ret rfl rfl (Or.inr ⟨(15, hA), I361, R362, by
          have ec := cfl_0 (by2 f hA)
          have eh := has_0 (by2 f hA) 512
          unfold ccS
          rw [show hdS f n E hA = some (15, hA) by unfold hdS; first | ((repeat first | rw [if_pos (by omega)] | rw [if_neg (by omega)]) <;> first | rfl | omega) | ((repeat' split) <;> first | rfl | (exfalso; omega) | omega)], rfl, hR363, hEI377, hER378, hi366, hi367⟩)
    · have c_33 : ¬ (¬ (nI (aN (by2 f hA) 32768)) = 0) := of_decide_eq_false c_33
      have n_33 : aN (by2 f hA) 32768 = 0 := (eq_nI (p := aN (by2 f hA) 32768) (n := 0) (Nat.lt_of_le_of_lt (an_le _ _) (by decide)) (by decide)).mp (Decidable.not_not.mp c_33)
      refine ps_st (S' := (37, [(2, .int 1), (0, .ref m0), (1, .int (nI (by2 f hA)))], [.int 1], M81)) rfl rfl rfl ?_
      refine ps_if (S1 := (59, [(2, .int 1), (0, .ref m0), (1, .int (nI (by2 f hA)))], [], M81)) (S2 := (40, [(2, .int 1), (0, .ref m0), (1, .int (nI (by2 f hA)))], [], M81)) rfl rfl rfl (fun c_37 => ?_) (fun c_37 => ?_)
      · exact absurd (of_decide_eq_true c_37) (by decide)
      refine ps_st (S' := (41, [(2, .int 1), (0, .ref m0), (1, .int (nI (by2 f hA)))], [.int (nI (by2 f hA))], M81)) rfl rfl rfl ?_
      refine ps_st (S' := (44, [(2, .int 1), (0, .ref m0), (1, .int (nI (by2 f hA)))], [.int 1024, .int (nI (by2 f hA))], M81)) rfl rfl rfl ?_
      refine ps_st (S' := (45, [(2, .int 1), (0, .ref m0), (1, .int (nI (by2 f hA)))], [.int ((nI (by2 f hA)) &&& 1024)], M81)) rfl rfl rfl ?_
      rw [nI_an (p := by2 f hA) (k := 1024) (x := 1024) rfl]
      show pl _ _ _ (_, [(2, .int 1), (0, .ref m0), (1, .int (nI (by2 f hA)))], [.int (nI (aN (by2 f hA) 1024))], M81) _
      refine ps_if (S1 := (82, [(0, .ref m0), (1, .int (nI (by2 f hA))), (2, .int 1)], [], M81)) (S2 := (48, [(2, .int 1), (0, .ref m0), (1, .int (nI (by2 f hA)))], [], M81)) rfl rfl rfl (fun c_45 => ?_) (fun c_45 => ?_)
      · have c_45 : (nI (aN (by2 f hA) 1024)) = 0 := of_decide_eq_true c_45
        have n_45 : aN (by2 f hA) 1024 = 0 := (eq_nI (p := aN (by2 f hA) 1024) (n := 0) (Nat.lt_of_le_of_lt (an_le _ _) (by decide)) (by decide)).mp c_45
        refine ps_st (S' := (83, [(0, .ref m0), (1, .int (nI (by2 f hA))), (2, .int 1)], [.int 1], M81)) rfl rfl rfl ?_
        refine ps_if (S1 := (110, [(0, .ref m0)], [], M81)) (S2 := (86, [(0, .ref m0), (1, .int (nI (by2 f hA))), (2, .int 1)], [], M81)) rfl rfl rfl (fun c_83 => ?_) (fun c_83 => ?_)
        · exact absurd (of_decide_eq_true c_83) (by decide)
        refine ps_st (S' := (87, [(0, .ref m0), (1, .int (nI (by2 f hA))), (2, .int 1)], [.int (nI (by2 f hA))], M81)) rfl rfl rfl ?_
        refine ps_st (S' := (90, [(0, .ref m0), (1, .int (nI (by2 f hA))), (2, .int 1)], [.int 32768, .int (nI (by2 f hA))], M81)) rfl rfl rfl ?_
        refine ps_st (S' := (91, [(0, .ref m0), (1, .int (nI (by2 f hA))), (2, .int 1)], [.int ((nI (by2 f hA)) &&& 32768)], M81)) rfl rfl rfl ?_
        rw [nI_an (p := by2 f hA) (k := 32768) (x := 32768) rfl]
        show pl _ _ _ (_, [(0, .ref m0), (1, .int (nI (by2 f hA))), (2, .int 1)], [.int (nI (aN (by2 f hA) 32768))], M81) _
        refine ps_if (S1 := (110, [(0, .ref m0)], [], M81)) (S2 := (94, [(0, .ref m0), (1, .int (nI (by2 f hA))), (2, .int 1)], [], M81)) rfl rfl rfl (fun c_91 => ?_) (fun c_91 => ?_)
        · exact absurd (of_decide_eq_true c_91) (fun h9 => h9 ((eq_nI (p := aN (by2 f hA) 32768) (n := 0) (Nat.lt_of_le_of_lt (an_le _ _) (by decide)) (by decide)).mpr (by omega)))
        refine ps_st (S' := (95, [(0, .ref m0), (1, .int (nI (by2 f hA))), (2, .int 1)], [.int (nI (by2 f hA))], M81)) rfl rfl rfl ?_
        refine ps_st (S' := (98, [(0, .ref m0), (1, .int (nI (by2 f hA))), (2, .int 1)], [.int 1024, .int (nI (by2 f hA))], M81)) rfl rfl rfl ?_
        refine ps_st (S' := (99, [(0, .ref m0), (1, .int (nI (by2 f hA))), (2, .int 1)], [.int ((nI (by2 f hA)) &&& 1024)], M81)) rfl rfl rfl ?_
        rw [nI_an (p := by2 f hA) (k := 1024) (x := 1024) rfl]
        show pl _ _ _ (_, [(0, .ref m0), (1, .int (nI (by2 f hA))), (2, .int 1)], [.int (nI (aN (by2 f hA) 1024))], M81) _
        refine ps_if (S1 := (110, [(0, .ref m0)], [], M81)) (S2 := (102, [(0, .ref m0), (1, .int (nI (by2 f hA))), (2, .int 1)], [], M81)) rfl rfl rfl (fun c_99 => ?_) (fun c_99 => ?_)
        rotate_left
        · exact absurd ((eq_nI (p := aN (by2 f hA) 1024) (n := 0) (Nat.lt_of_le_of_lt (an_le _ _) (by decide)) (by decide)).mpr (by omega)) (of_decide_eq_false c_99)
        refine ps_st (S' := (111, [(0, .ref m0)], [.ref m0], M81)) rfl rfl rfl ?_
        refine ps_st (S' := (113, [(0, .ref m0)], [.int 15, .ref m0], M81)) rfl rfl rfl ?_
        refine ps_st (S' := (114, [(0, .ref m0)], [.ref m0, .int 15, .ref m0], M81)) rfl rfl rfl ?_
        refine pr_int (j := 54) (S' := (117, [(0, .ref m0)], [.int (nI hA), .int 15, .ref m0], M81)) rfl hR83 rfl hi86 rfl ?_
        refine pl_call (a := [.ref m0, .int 15, .int (nI hA)]) (rest := []) rfl rfl rfl (rd_wrong (x1 := 15) (x2 := (nI hA)) hR83) (fun v379 M380 q381 => ?_)
        obtain ⟨I382, R383, rfl, hR384, hI385, hX386, hi387, hi388⟩ := q381
        have hi389 := (hI385 54 (by decide)).trans hi86
        have hi390 := (hI385 11 (by decide)).trans hi87
        have hi391 := (hI385 51 (by decide)).trans hi88
        have hi392 := (hI385 52 (by decide)).trans hi89
        have hi393 := (hI385 53 (by decide)).trans hi90
        have hi394 := (hI385 58 (by decide)).trans hi84
        have hF_395 := hF_91.mono (cIx hI385 (by decide)) (cRx hX386 (by decide))
        have hY_396 := hY_92.mono (cIx hI385 (by decide)) (cRx hX386 (by decide))
        have hP_397 := hP_93.mono (cIx hI385 (by decide)) (cRx hX386 (by decide))
        have hEI398 := hEI94.tr hI385 (by decide)
        have hER399 := hER.tr hX386 (by decide)
        show pl _ _ _ (120, [(0, .ref m0)], [.int 0], M380) _
        exact ps_ret rfl rfl (Or.inr ⟨(15, hA), I382, R383, by
            have ec := cfl_0 (by2 f hA)
            have eh := has_0 (by2 f hA) 512
            unfold ccS
            rw [show hdS f n E hA = some (15, hA) by unfold hdS; first | ((repeat first | rw [if_pos (by omega)] | rw [if_neg (by omega)]) <;> first | rfl | omega) | ((repeat' split) <;> first | rfl | (exfalso; omega) | omega)], rfl, hR384, hEI398, hER399, hi387, hi388⟩)
      · have c_45 : ¬ ((nI (aN (by2 f hA) 1024)) = 0) := of_decide_eq_false c_45
        have n_45 : ¬ (aN (by2 f hA) 1024 = 0) := fun h9 => c_45 ((eq_nI (p := aN (by2 f hA) 1024) (n := 0) (Nat.lt_of_le_of_lt (an_le _ _) (by decide)) (by decide)).mpr h9)
        refine ps_st (S' := (49, [(2, .int 1), (0, .ref m0), (1, .int (nI (by2 f hA)))], [.int (nI (by2 f hA))], M81)) rfl rfl rfl ?_
        refine ps_st (S' := (52, [(2, .int 1), (0, .ref m0), (1, .int (nI (by2 f hA)))], [.int 16432, .int (nI (by2 f hA))], M81)) rfl rfl rfl ?_
        refine ps_st (S' := (53, [(2, .int 1), (0, .ref m0), (1, .int (nI (by2 f hA)))], [.int ((nI (by2 f hA)) &&& 16432)], M81)) rfl rfl rfl ?_
        rw [nI_an (p := by2 f hA) (k := 16432) (x := 16432) rfl]
        show pl _ _ _ (_, [(2, .int 1), (0, .ref m0), (1, .int (nI (by2 f hA)))], [.int (nI (aN (by2 f hA) 16432))], M81) _
        refine ps_if (S1 := (121, [(0, .ref m0), (2, .int 1)], [], M81)) (S2 := (56, [(2, .int 1), (0, .ref m0), (1, .int (nI (by2 f hA)))], [], M81)) rfl rfl rfl (fun c_53 => ?_) (fun c_53 => ?_)
        · have c_53 : (nI (aN (by2 f hA) 16432)) = 0 := of_decide_eq_true c_53
          have n_53 : aN (by2 f hA) 16432 = 0 := (eq_nI (p := aN (by2 f hA) 16432) (n := 0) (Nat.lt_of_le_of_lt (an_le _ _) (by decide)) (by decide)).mp c_53
          refine ps_st (S' := (122, [(0, .ref m0), (2, .int 1)], [.ref m0], M81)) rfl rfl rfl ?_
          refine ps_st (S' := (123, [(0, .ref m0), (2, .int 1)], [.ref m0, .ref m0], M81)) rfl rfl rfl ?_
          refine ps_st (S' := (124, [(0, .ref m0), (2, .int 1)], [.ref m0, .ref m0, .ref m0], M81)) rfl rfl rfl ?_
          refine pr_int (j := 54) (S' := (127, [(0, .ref m0), (2, .int 1)], [.int (nI hA), .ref m0, .ref m0], M81)) rfl hR83 rfl hi86 rfl ?_
          refine ps_st (S' := (128, [(0, .ref m0), (2, .int 1)], [.int 2, .int (nI hA), .ref m0, .ref m0], M81)) rfl rfl rfl ?_
          refine ps_st (S' := (129, [(0, .ref m0), (2, .int 1)], [.int ((nI hA) + 2), .ref m0, .ref m0], M81)) rfl rfl rfl ?_
          rw [nI_add1 (p := hA) (k := 2) (x := 2) rfl (by omega)]
          show pl _ _ _ (_, [(0, .ref m0), (2, .int 1)], [.int (nI (hA + 2)), .ref m0, .ref m0], M81) _
          refine pl_call (a := [.ref m0, .int (nI (hA + 2))]) (rest := [.ref m0]) rfl rfl rfl (rd_u2 (n := n) (f := f) (p := (hA + 2)) hR83 hF_91 (by omega)) (fun v400 M401 q402 => ?_)
          obtain ⟨rfl, rfl⟩ := q402
          show pl _ _ _ (132, [(0, .ref m0), (2, .int 1)], [.int (nI (by2 f (hA + 2))), .ref m0], M81) _
          have hu_129 := by2_lt f (hA + 2)
          refine pl_call (a := [.ref m0, .int (nI (by2 f (hA + 2)))]) (rest := []) rfl rfl rfl (rd_plainClass (n := n) (f := f) (tx := tx) (cN := cN) (A := A) (N := N) (mj := mj) (E := E) (k := (by2 f (hA + 2))) hR83 hi88 hi89 hi90 hF_91 hY_92 hP_93 (hEP) (hN) (hmj) (by2_lt _ _) (hCP)) (fun v403 M404 q405 => ?_)
          obtain ⟨rfl, rfl⟩ := q405
          show pl _ _ _ (135, [(0, .ref m0), (2, .int 1)], [.int (nI (plnN f n E (by2 f (hA + 2))))], M81) _
          refine ps_if (S1 := (151, [(0, .ref m0), (2, .int 1)], [], M81)) (S2 := (138, [(0, .ref m0), (2, .int 1)], [], M81)) rfl rfl rfl (fun c_135 => ?_) (fun c_135 => ?_)
          · have c_135 : ¬ (nI (plnN f n E (by2 f (hA + 2)))) = 0 := of_decide_eq_true c_135
            have n_135 : ¬ (plnN f n E (by2 f (hA + 2)) = 0) := fun h9 => c_135 ((eq_nI (p := plnN f n E (by2 f (hA + 2))) (n := 0) (Nat.lt_trans (le1_pln _ _ _ _) (by decide)) (by decide)).mpr h9)
            have hpl2 := pln_in (f := f) (n := n) (E := E) (k := by2 f (hA + 2)) (by omega)
            have hcp2 := hCP (by2 f (hA + 2)) hpl2.1
            refine ps_st (S' := (152, [(0, .ref m0), (2, .int 1)], [.ref m0], M81)) rfl rfl rfl ?_
            refine ps_st (S' := (153, [(0, .ref m0), (2, .int 1)], [.ref m0, .ref m0], M81)) rfl rfl rfl ?_
            refine ps_st (S' := (154, [(0, .ref m0), (2, .int 1)], [.ref m0, .ref m0, .ref m0], M81)) rfl rfl rfl ?_
            refine ps_st (S' := (155, [(0, .ref m0), (2, .int 1)], [.ref m0, .ref m0, .ref m0, .ref m0], M81)) rfl rfl rfl ?_
            refine pr_int (j := 54) (S' := (158, [(0, .ref m0), (2, .int 1)], [.int (nI hA), .ref m0, .ref m0, .ref m0], M81)) rfl hR83 rfl hi86 rfl ?_
            refine ps_st (S' := (159, [(0, .ref m0), (2, .int 1)], [.int 2, .int (nI hA), .ref m0, .ref m0, .ref m0], M81)) rfl rfl rfl ?_
            refine ps_st (S' := (160, [(0, .ref m0), (2, .int 1)], [.int ((nI hA) + 2), .ref m0, .ref m0, .ref m0], M81)) rfl rfl rfl ?_
            rw [nI_add1 (p := hA) (k := 2) (x := 2) rfl (by omega)]
            show pl _ _ _ (_, [(0, .ref m0), (2, .int 1)], [.int (nI (hA + 2)), .ref m0, .ref m0, .ref m0], M81) _
            refine pl_call (a := [.ref m0, .int (nI (hA + 2))]) (rest := [.ref m0, .ref m0]) rfl rfl rfl (rd_u2 (n := n) (f := f) (p := (hA + 2)) hR83 hF_91 (by omega)) (fun v406 M407 q408 => ?_)
            obtain ⟨rfl, rfl⟩ := q408
            show pl _ _ _ (163, [(0, .ref m0), (2, .int 1)], [.int (nI (by2 f (hA + 2))), .ref m0, .ref m0], M81) _
            have hu_160 := by2_lt f (hA + 2)
            refine pl_call (a := [.ref m0, .int (nI (by2 f (hA + 2)))]) (rest := [.ref m0]) rfl rfl rfl (rd_className (n := n) (f := f) (tx := tx) (cN := cN) (A := A) (N := N) (mj := mj) (E := E) (k := (by2 f (hA + 2))) hR83 hi88 hi89 hi90 hF_91 hY_92 hP_93 (hEP) (hN) (hmj) (by omega)) (fun v409 M410 q411 => ?_)
            obtain ⟨s412, q163_s, rfl, rfl⟩ := q411
            show pl _ _ _ (166, [(0, .ref m0), (2, .int 1)], [.int (nI s412), .ref m0], M81) _
            have hsl_163 := q163_s.1
            have htl_163 := hY_92.1.2.2.1
            refine pr_put (j := 59) rfl hR83 rfl (fun M413 I414 hR415 hi416 hI417 => ?_)
            have hi418 := (hI417 54 (by decide)).trans hi86
            have hi419 := (hI417 11 (by decide)).trans hi87
            have hi420 := (hI417 51 (by decide)).trans hi88
            have hi421 := (hI417 52 (by decide)).trans hi89
            have hi422 := (hI417 53 (by decide)).trans hi90
            have hi423 := (hI417 58 (by decide)).trans hi84
            have hF_424 := hF_91.mono (pIx hI417 (by decide)) (fun _ _ => rfl)
            have hY_425 := hY_92.mono (pIx hI417 (by decide)) (fun _ _ => rfl)
            have hP_426 := hP_93.mono (pIx hI417 (by decide)) (fun _ _ => rfl)
            have hEI427 := hEI94.put hI417 (by decide)
            show pl _ _ _ (169, [(0, .ref m0), (2, .int 1)], [], M413) _
            refine ps_st (S' := (170, [(0, .ref m0), (2, .int 1)], [.ref m0], M413)) rfl rfl rfl ?_
            refine ps_st (S' := (171, [(0, .ref m0), (2, .int 1)], [.ref m0, .ref m0], M413)) rfl rfl rfl ?_
            refine pr_int (j := 54) (S' := (174, [(0, .ref m0), (2, .int 1)], [.int (nI hA), .ref m0], M413)) rfl hR415 rfl hi418 rfl ?_
            refine ps_st (S' := (175, [(0, .ref m0), (2, .int 1)], [.int 4, .int (nI hA), .ref m0], M413)) rfl rfl rfl ?_
            refine ps_st (S' := (176, [(0, .ref m0), (2, .int 1)], [.int ((nI hA) + 4), .ref m0], M413)) rfl rfl rfl ?_
            rw [nI_add1 (p := hA) (k := 4) (x := 4) rfl (by omega)]
            show pl _ _ _ (_, [(0, .ref m0), (2, .int 1)], [.int (nI (hA + 4)), .ref m0], M413) _
            refine pl_call (a := [.ref m0, .int (nI (hA + 4))]) (rest := []) rfl rfl rfl (rd_u2 (n := n) (f := f) (p := (hA + 4)) hR415 hF_424 (by omega)) (fun v428 M429 q430 => ?_)
            obtain ⟨rfl, rfl⟩ := q430
            show pl _ _ _ (179, [(0, .ref m0), (2, .int 1)], [.int (nI (by2 f (hA + 4)))], M413) _
            have hu_176 := by2_lt f (hA + 4)
            refine ps_st (S' := (180, [(3, .int (nI (by2 f (hA + 4)))), (0, .ref m0), (2, .int 1)], [], M413)) rfl rfl rfl ?_
            refine ps_st (S' := (181, [(3, .int (nI (by2 f (hA + 4)))), (0, .ref m0), (2, .int 1)], [.ref m0], M413)) rfl rfl rfl ?_
            refine ps_st (S' := (182, [(3, .int (nI (by2 f (hA + 4)))), (0, .ref m0), (2, .int 1)], [.int (nI (by2 f (hA + 4))), .ref m0], M413)) rfl rfl rfl ?_
            refine pl_call (a := [.ref m0, .int (nI (by2 f (hA + 4)))]) (rest := []) rfl rfl rfl (rd_plainClass (n := n) (f := f) (tx := tx) (cN := cN) (A := A) (N := N) (mj := mj) (E := E) (k := (by2 f (hA + 4))) hR415 hi420 hi421 hi422 hF_424 hY_425 hP_426 (hEP) (hN) (hmj) (by2_lt _ _) (hCP)) (fun v431 M432 q433 => ?_)
            obtain ⟨rfl, rfl⟩ := q433
            show pl _ _ _ (185, [(3, .int (nI (by2 f (hA + 4)))), (0, .ref m0), (2, .int 1)], [.int (nI (plnN f n E (by2 f (hA + 4))))], M413) _
            refine ps_if (S1 := (204, [(0, .ref m0)], [], M413)) (S2 := (188, [(3, .int (nI (by2 f (hA + 4)))), (0, .ref m0), (2, .int 1)], [], M413)) rfl rfl rfl (fun c_185 => ?_) (fun c_185 => ?_)
            · have c_185 : (nI (plnN f n E (by2 f (hA + 4)))) = 0 := of_decide_eq_true c_185
              have n_185 : plnN f n E (by2 f (hA + 4)) = 0 := (eq_nI (p := plnN f n E (by2 f (hA + 4))) (n := 0) (Nat.lt_trans (le1_pln _ _ _ _) (by decide)) (by decide)).mp c_185
              refine ps_st (S' := (205, [(0, .ref m0)], [.ref m0], M413)) rfl rfl rfl ?_
              refine ps_st (S' := (207, [(0, .ref m0)], [.int 17, .ref m0], M413)) rfl rfl rfl ?_
              refine ps_st (S' := (208, [(0, .ref m0)], [.ref m0, .int 17, .ref m0], M413)) rfl rfl rfl ?_
              refine pr_int (j := 54) (S' := (211, [(0, .ref m0)], [.int (nI hA), .int 17, .ref m0], M413)) rfl hR415 rfl hi418 rfl ?_
              refine ps_st (S' := (212, [(0, .ref m0)], [.int 4, .int (nI hA), .int 17, .ref m0], M413)) rfl rfl rfl ?_
              refine ps_st (S' := (213, [(0, .ref m0)], [.int ((nI hA) + 4), .int 17, .ref m0], M413)) rfl rfl rfl ?_
              rw [nI_add1 (p := hA) (k := 4) (x := 4) rfl (by omega)]
              show pl _ _ _ (_, [(0, .ref m0)], [.int (nI (hA + 4)), .int 17, .ref m0], M413) _
              refine pl_call (a := [.ref m0, .int 17, .int (nI (hA + 4))]) (rest := []) rfl rfl rfl (rd_wrong (x1 := 17) (x2 := (nI (hA + 4))) hR415) (fun v434 M435 q436 => ?_)
              obtain ⟨I437, R438, rfl, hR439, hI440, hX441, hi442, hi443⟩ := q436
              have hi444 := (hI440 54 (by decide)).trans hi418
              have hi445 := (hI440 11 (by decide)).trans hi419
              have hi446 := (hI440 51 (by decide)).trans hi420
              have hi447 := (hI440 52 (by decide)).trans hi421
              have hi448 := (hI440 53 (by decide)).trans hi422
              have hi449 := (hI440 58 (by decide)).trans hi423
              have hi450 := (hI440 59 (by decide)).trans hi416
              have hF_451 := hF_424.mono (cIx hI440 (by decide)) (cRx hX441 (by decide))
              have hY_452 := hY_425.mono (cIx hI440 (by decide)) (cRx hX441 (by decide))
              have hP_453 := hP_426.mono (cIx hI440 (by decide)) (cRx hX441 (by decide))
              have hEI454 := hEI427.tr hI440 (by decide)
              have hER455 := hER.tr hX441 (by decide)
              show pl _ _ _ (216, [(0, .ref m0)], [.int 0], M435) _
              exact ps_ret rfl rfl (Or.inr ⟨(17, hA + 4), I437, R438, by
                  have ec := cfl_0 (by2 f hA)
                  have eh := has_0 (by2 f hA) 512
                  unfold ccS
                  rw [show hdS f n E hA = some (17, hA + 4) by unfold hdS; first | ((repeat first | rw [if_pos (by omega)] | rw [if_neg (by omega)]) <;> first | rfl | omega) | ((repeat' split) <;> first | rfl | (exfalso; omega) | omega)], rfl, hR439, hEI454, hER455, hi442, hi443⟩)
            · have c_185 : ¬ ((nI (plnN f n E (by2 f (hA + 4)))) = 0) := of_decide_eq_false c_185
              have n_185 : ¬ (plnN f n E (by2 f (hA + 4)) = 0) := fun h9 => c_185 ((eq_nI (p := plnN f n E (by2 f (hA + 4))) (n := 0) (Nat.lt_trans (le1_pln _ _ _ _) (by decide)) (by decide)).mpr h9)
              have hpl4 := pln_in (f := f) (n := n) (E := E) (k := by2 f (hA + 4)) (by omega)
              have hcp4 := hCP (by2 f (hA + 4)) hpl4.1
              refine ps_st (S' := (189, [(3, .int (nI (by2 f (hA + 4)))), (0, .ref m0), (2, .int 1)], [.int 1], M413)) rfl rfl rfl ?_
              refine ps_if (S1 := (217, [(0, .ref m0), (3, .int (nI (by2 f (hA + 4))))], [], M413)) (S2 := (192, [(3, .int (nI (by2 f (hA + 4)))), (0, .ref m0), (2, .int 1)], [], M413)) rfl rfl rfl (fun c_189 => ?_) (fun c_189 => ?_)
              · exact absurd (of_decide_eq_true c_189) (by decide)
              refine ps_st (S' := (193, [(3, .int (nI (by2 f (hA + 4)))), (0, .ref m0), (2, .int 1)], [.ref m0], M413)) rfl rfl rfl ?_
              refine ps_st (S' := (194, [(3, .int (nI (by2 f (hA + 4)))), (0, .ref m0), (2, .int 1)], [.int (nI (by2 f (hA + 4))), .ref m0], M413)) rfl rfl rfl ?_
              refine pl_call (a := [.ref m0, .int (nI (by2 f (hA + 4)))]) (rest := []) rfl rfl rfl (rd_className (n := n) (f := f) (tx := tx) (cN := cN) (A := A) (N := N) (mj := mj) (E := E) (k := (by2 f (hA + 4))) hR415 hi420 hi421 hi422 hF_424 hY_425 hP_426 (hEP) (hN) (hmj) (by omega)) (fun v456 M457 q458 => ?_)
              obtain ⟨s459, q194_s, rfl, rfl⟩ := q458
              show pl _ _ _ (197, [(3, .int (nI (by2 f (hA + 4)))), (0, .ref m0), (2, .int 1)], [.int (nI s459)], M413) _
              have hsl_194 := q194_s.1
              have htl_194 := hY_425.1.2.2.1
              have he9 := sym_eq hY_425 q194_s hs3
              rw [lt_eq.2.2.2] at he9
              refine ps_st (S' := (198, [(3, .int (nI (by2 f (hA + 4)))), (0, .ref m0), (2, .int 1)], [.ref m0, .int (nI s459)], M413)) rfl rfl rfl ?_
              refine pr_int (j := 11) (S' := (201, [(3, .int (nI (by2 f (hA + 4)))), (0, .ref m0), (2, .int 1)], [.int (nI s3), .int (nI s459)], M413)) rfl hR415 rfl hi419 rfl ?_
              refine ps_if2 (S1 := (217, [(0, .ref m0), (3, .int (nI (by2 f (hA + 4))))], [], M413)) (S2 := (204, [(0, .ref m0)], [], M413)) rfl rfl rfl (fun c_201 => ?_) (fun c_201 => ?_)
              · have c_201 : (nI s459) = (nI s3) := of_decide_eq_true c_201
                have n_201 : s459 = s3 := (eq_nI (p := s459) (n := s3) (by omega) (by omega)).mp c_201
                refine ps_st (S' := (218, [(0, .ref m0), (3, .int (nI (by2 f (hA + 4))))], [.ref m0], M413)) rfl rfl rfl ?_
                refine ps_st (S' := (219, [(0, .ref m0), (3, .int (nI (by2 f (hA + 4))))], [.ref m0, .ref m0], M413)) rfl rfl rfl ?_
                refine ps_st (S' := (220, [(0, .ref m0), (3, .int (nI (by2 f (hA + 4))))], [.int (nI (by2 f (hA + 4))), .ref m0, .ref m0], M413)) rfl rfl rfl ?_
                refine pl_call (a := [.ref m0, .int (nI (by2 f (hA + 4)))]) (rest := [.ref m0]) rfl rfl rfl (rd_className (n := n) (f := f) (tx := tx) (cN := cN) (A := A) (N := N) (mj := mj) (E := E) (k := (by2 f (hA + 4))) hR415 hi420 hi421 hi422 hF_424 hY_425 hP_426 (hEP) (hN) (hmj) (by omega)) (fun v460 M461 q462 => ?_)
                obtain ⟨s463, q220_s, rfl, rfl⟩ := q462
                show pl _ _ _ (223, [(0, .ref m0), (3, .int (nI (by2 f (hA + 4))))], [.int (nI s463), .ref m0], M413) _
                have hsl_220 := q220_s.1
                have htl_220 := hY_425.1.2.2.1
                refine pr_put (j := 60) rfl hR415 rfl (fun M464 I465 hR466 hi467 hI468 => ?_)
                have hi469 := (hI468 54 (by decide)).trans hi418
                have hi470 := (hI468 11 (by decide)).trans hi419
                have hi471 := (hI468 51 (by decide)).trans hi420
                have hi472 := (hI468 52 (by decide)).trans hi421
                have hi473 := (hI468 53 (by decide)).trans hi422
                have hi474 := (hI468 58 (by decide)).trans hi423
                have hi475 := (hI468 59 (by decide)).trans hi416
                have hF_476 := hF_424.mono (pIx hI468 (by decide)) (fun _ _ => rfl)
                have hY_477 := hY_425.mono (pIx hI468 (by decide)) (fun _ _ => rfl)
                have hP_478 := hP_426.mono (pIx hI468 (by decide)) (fun _ _ => rfl)
                have hEI479 := hEI427.put hI468 (by decide)
                show pl _ _ _ (226, [(0, .ref m0), (3, .int (nI (by2 f (hA + 4))))], [], M464) _
                have hh : hdS f n E hA = none := by
                  have ec := cfl_0 (by2 f hA)
                  have eh := has_0 (by2 f hA) 512
                  unfold hdS
                  first | ((repeat first | rw [if_pos (by omega)] | rw [if_neg (by omega)]) <;> first | rfl | omega) | ((repeat' split) <;> first | rfl | (exfalso; omega) | omega)
                refine ps_st (S' := (227, [(0, .ref m0), (3, .int (nI (by2 f (hA + 4))))], [.ref m0], M464)) rfl rfl rfl ?_
                refine ps_st (S' := (228, [(0, .ref m0), (3, .int (nI (by2 f (hA + 4))))], [.ref m0, .ref m0], M464)) rfl rfl rfl ?_
                refine pr_int (j := 54) (S' := (231, [(0, .ref m0), (3, .int (nI (by2 f (hA + 4))))], [.int (nI hA), .ref m0], M464)) rfl hR466 rfl hi469 rfl ?_
                refine ps_st (S' := (233, [(0, .ref m0), (3, .int (nI (by2 f (hA + 4))))], [.int 6, .int (nI hA), .ref m0], M464)) rfl rfl rfl ?_
                refine ps_st (S' := (234, [(0, .ref m0), (3, .int (nI (by2 f (hA + 4))))], [.int ((nI hA) + 6), .ref m0], M464)) rfl rfl rfl ?_
                rw [nI_add1 (p := hA) (k := 6) (x := 6) rfl (by omega)]
                show pl _ _ _ (_, [(0, .ref m0), (3, .int (nI (by2 f (hA + 4))))], [.int (nI (hA + 6)), .ref m0], M464) _
                refine pl_call (a := [.ref m0, .int (nI (hA + 6))]) (rest := []) rfl rfl rfl (rd_u2 (n := n) (f := f) (p := (hA + 6)) hR466 hF_476 (by omega)) (fun v480 M481 q482 => ?_)
                obtain ⟨rfl, rfl⟩ := q482
                show pl _ _ _ (237, [(0, .ref m0), (3, .int (nI (by2 f (hA + 4))))], [.int (nI (by2 f (hA + 6)))], M464) _
                have hu_234 := by2_lt f (hA + 6)
                refine ps_st (S' := (239, [(4, .int (nI (by2 f (hA + 6)))), (0, .ref m0), (3, .int (nI (by2 f (hA + 4))))], [], M464)) rfl rfl rfl ?_
                refine ps_st (S' := (240, [(4, .int (nI (by2 f (hA + 6)))), (0, .ref m0), (3, .int (nI (by2 f (hA + 4))))], [.int 0], M464)) rfl rfl rfl ?_
                refine ps_st (S' := (242, [(0, .ref m0), (4, .int (nI (by2 f (hA + 6)))), (5, .int 0)], [], M464)) rfl rfl rfl ?_
                exact (LL kf).1 (0) M464 I465 R hR466 hEI479 hER hi469 hi470 hi471 hi472 hi473 hi474 hF_476 hY_477 hP_478 (hh) (by omega) (rfl) (fun j hj => by omega)
              · have c_201 : ¬ ((nI s459) = (nI s3)) := of_decide_eq_false c_201
                have n_201 : ¬ (s459 = s3) := fun h9 => c_201 ((eq_nI (p := s459) (n := s3) (by omega) (by omega)).mpr h9)
                refine ps_st (S' := (205, [(0, .ref m0)], [.ref m0], M413)) rfl rfl rfl ?_
                refine ps_st (S' := (207, [(0, .ref m0)], [.int 17, .ref m0], M413)) rfl rfl rfl ?_
                refine ps_st (S' := (208, [(0, .ref m0)], [.ref m0, .int 17, .ref m0], M413)) rfl rfl rfl ?_
                refine pr_int (j := 54) (S' := (211, [(0, .ref m0)], [.int (nI hA), .int 17, .ref m0], M413)) rfl hR415 rfl hi418 rfl ?_
                refine ps_st (S' := (212, [(0, .ref m0)], [.int 4, .int (nI hA), .int 17, .ref m0], M413)) rfl rfl rfl ?_
                refine ps_st (S' := (213, [(0, .ref m0)], [.int ((nI hA) + 4), .int 17, .ref m0], M413)) rfl rfl rfl ?_
                rw [nI_add1 (p := hA) (k := 4) (x := 4) rfl (by omega)]
                show pl _ _ _ (_, [(0, .ref m0)], [.int (nI (hA + 4)), .int 17, .ref m0], M413) _
                refine pl_call (a := [.ref m0, .int 17, .int (nI (hA + 4))]) (rest := []) rfl rfl rfl (rd_wrong (x1 := 17) (x2 := (nI (hA + 4))) hR415) (fun v483 M484 q485 => ?_)
                obtain ⟨I486, R487, rfl, hR488, hI489, hX490, hi491, hi492⟩ := q485
                have hi493 := (hI489 54 (by decide)).trans hi418
                have hi494 := (hI489 11 (by decide)).trans hi419
                have hi495 := (hI489 51 (by decide)).trans hi420
                have hi496 := (hI489 52 (by decide)).trans hi421
                have hi497 := (hI489 53 (by decide)).trans hi422
                have hi498 := (hI489 58 (by decide)).trans hi423
                have hi499 := (hI489 59 (by decide)).trans hi416
                have hF_500 := hF_424.mono (cIx hI489 (by decide)) (cRx hX490 (by decide))
                have hY_501 := hY_425.mono (cIx hI489 (by decide)) (cRx hX490 (by decide))
                have hP_502 := hP_426.mono (cIx hI489 (by decide)) (cRx hX490 (by decide))
                have hEI503 := hEI427.tr hI489 (by decide)
                have hER504 := hER.tr hX490 (by decide)
                show pl _ _ _ (216, [(0, .ref m0)], [.int 0], M484) _
                exact ps_ret rfl rfl (Or.inr ⟨(17, hA + 4), I486, R487, by
                    have ec := cfl_0 (by2 f hA)
                    have eh := has_0 (by2 f hA) 512
                    unfold ccS
                    rw [show hdS f n E hA = some (17, hA + 4) by unfold hdS; first | ((repeat first | rw [if_pos (by omega)] | rw [if_neg (by omega)]) <;> first | rfl | omega) | ((repeat' split) <;> first | rfl | (exfalso; omega) | omega)], rfl, hR488, hEI503, hER504, hi491, hi492⟩)
          · have c_135 : ¬ (¬ (nI (plnN f n E (by2 f (hA + 2)))) = 0) := of_decide_eq_false c_135
            have n_135 : plnN f n E (by2 f (hA + 2)) = 0 := (eq_nI (p := plnN f n E (by2 f (hA + 2))) (n := 0) (Nat.lt_trans (le1_pln _ _ _ _) (by decide)) (by decide)).mp (Decidable.not_not.mp c_135)
            refine ps_st (S' := (139, [(0, .ref m0), (2, .int 1)], [.ref m0], M81)) rfl rfl rfl ?_
            refine ps_st (S' := (141, [(0, .ref m0), (2, .int 1)], [.int 16, .ref m0], M81)) rfl rfl rfl ?_
            refine ps_st (S' := (142, [(0, .ref m0), (2, .int 1)], [.ref m0, .int 16, .ref m0], M81)) rfl rfl rfl ?_
            refine pr_int (j := 54) (S' := (145, [(0, .ref m0), (2, .int 1)], [.int (nI hA), .int 16, .ref m0], M81)) rfl hR83 rfl hi86 rfl ?_
            refine ps_st (S' := (146, [(0, .ref m0), (2, .int 1)], [.int 2, .int (nI hA), .int 16, .ref m0], M81)) rfl rfl rfl ?_
            refine ps_st (S' := (147, [(0, .ref m0), (2, .int 1)], [.int ((nI hA) + 2), .int 16, .ref m0], M81)) rfl rfl rfl ?_
            rw [nI_add1 (p := hA) (k := 2) (x := 2) rfl (by omega)]
            show pl _ _ _ (_, [(0, .ref m0), (2, .int 1)], [.int (nI (hA + 2)), .int 16, .ref m0], M81) _
            refine pl_call (a := [.ref m0, .int 16, .int (nI (hA + 2))]) (rest := []) rfl rfl rfl (rd_wrong (x1 := 16) (x2 := (nI (hA + 2))) hR83) (fun v505 M506 q507 => ?_)
            obtain ⟨I508, R509, rfl, hR510, hI511, hX512, hi513, hi514⟩ := q507
            have hi515 := (hI511 54 (by decide)).trans hi86
            have hi516 := (hI511 11 (by decide)).trans hi87
            have hi517 := (hI511 51 (by decide)).trans hi88
            have hi518 := (hI511 52 (by decide)).trans hi89
            have hi519 := (hI511 53 (by decide)).trans hi90
            have hi520 := (hI511 58 (by decide)).trans hi84
            have hF_521 := hF_91.mono (cIx hI511 (by decide)) (cRx hX512 (by decide))
            have hY_522 := hY_92.mono (cIx hI511 (by decide)) (cRx hX512 (by decide))
            have hP_523 := hP_93.mono (cIx hI511 (by decide)) (cRx hX512 (by decide))
            have hEI524 := hEI94.tr hI511 (by decide)
            have hER525 := hER.tr hX512 (by decide)
            show pl _ _ _ (150, [(0, .ref m0), (2, .int 1)], [.int 0], M506) _
            exact ps_ret rfl rfl (Or.inr ⟨(16, hA + 2), I508, R509, by
                have ec := cfl_0 (by2 f hA)
                have eh := has_0 (by2 f hA) 512
                unfold ccS
                rw [show hdS f n E hA = some (16, hA + 2) by unfold hdS; first | ((repeat first | rw [if_pos (by omega)] | rw [if_neg (by omega)]) <;> first | rfl | omega) | ((repeat' split) <;> first | rfl | (exfalso; omega) | omega)], rfl, hR510, hEI524, hER525, hi513, hi514⟩)
        · have c_53 : ¬ ((nI (aN (by2 f hA) 16432)) = 0) := of_decide_eq_false c_53
          have n_53 : ¬ (aN (by2 f hA) 16432 = 0) := fun h9 => c_53 ((eq_nI (p := aN (by2 f hA) 16432) (n := 0) (Nat.lt_of_le_of_lt (an_le _ _) (by decide)) (by decide)).mpr h9)
          refine ps_st (S' := (82, [(0, .ref m0), (1, .int (nI (by2 f hA))), (2, .int 1)], [], M81)) rfl rfl rfl ?_
          refine ps_st (S' := (83, [(0, .ref m0), (1, .int (nI (by2 f hA))), (2, .int 1)], [.int 1], M81)) rfl rfl rfl ?_
          refine ps_if (S1 := (110, [(0, .ref m0)], [], M81)) (S2 := (86, [(0, .ref m0), (1, .int (nI (by2 f hA))), (2, .int 1)], [], M81)) rfl rfl rfl (fun c_83 => ?_) (fun c_83 => ?_)
          · exact absurd (of_decide_eq_true c_83) (by decide)
          refine ps_st (S' := (87, [(0, .ref m0), (1, .int (nI (by2 f hA))), (2, .int 1)], [.int (nI (by2 f hA))], M81)) rfl rfl rfl ?_
          refine ps_st (S' := (90, [(0, .ref m0), (1, .int (nI (by2 f hA))), (2, .int 1)], [.int 32768, .int (nI (by2 f hA))], M81)) rfl rfl rfl ?_
          refine ps_st (S' := (91, [(0, .ref m0), (1, .int (nI (by2 f hA))), (2, .int 1)], [.int ((nI (by2 f hA)) &&& 32768)], M81)) rfl rfl rfl ?_
          rw [nI_an (p := by2 f hA) (k := 32768) (x := 32768) rfl]
          show pl _ _ _ (_, [(0, .ref m0), (1, .int (nI (by2 f hA))), (2, .int 1)], [.int (nI (aN (by2 f hA) 32768))], M81) _
          refine ps_if (S1 := (110, [(0, .ref m0)], [], M81)) (S2 := (94, [(0, .ref m0), (1, .int (nI (by2 f hA))), (2, .int 1)], [], M81)) rfl rfl rfl (fun c_91 => ?_) (fun c_91 => ?_)
          · exact absurd (of_decide_eq_true c_91) (fun h9 => h9 ((eq_nI (p := aN (by2 f hA) 32768) (n := 0) (Nat.lt_of_le_of_lt (an_le _ _) (by decide)) (by decide)).mpr (by omega)))
          refine ps_st (S' := (95, [(0, .ref m0), (1, .int (nI (by2 f hA))), (2, .int 1)], [.int (nI (by2 f hA))], M81)) rfl rfl rfl ?_
          refine ps_st (S' := (98, [(0, .ref m0), (1, .int (nI (by2 f hA))), (2, .int 1)], [.int 1024, .int (nI (by2 f hA))], M81)) rfl rfl rfl ?_
          refine ps_st (S' := (99, [(0, .ref m0), (1, .int (nI (by2 f hA))), (2, .int 1)], [.int ((nI (by2 f hA)) &&& 1024)], M81)) rfl rfl rfl ?_
          rw [nI_an (p := by2 f hA) (k := 1024) (x := 1024) rfl]
          show pl _ _ _ (_, [(0, .ref m0), (1, .int (nI (by2 f hA))), (2, .int 1)], [.int (nI (aN (by2 f hA) 1024))], M81) _
          refine ps_if (S1 := (110, [(0, .ref m0)], [], M81)) (S2 := (102, [(0, .ref m0), (1, .int (nI (by2 f hA))), (2, .int 1)], [], M81)) rfl rfl rfl (fun c_99 => ?_) (fun c_99 => ?_)
          · exact absurd (of_decide_eq_true c_99) (show ¬ ((nI (aN (by2 f hA) 1024)) = 0) from fun h9 => absurd ((eq_nI (p := aN (by2 f hA) 1024) (n := 0) (Nat.lt_of_le_of_lt (an_le _ _) (by decide)) (by decide)).mp h9) (by omega))
          refine ps_st (S' := (103, [(0, .ref m0), (1, .int (nI (by2 f hA))), (2, .int 1)], [.int (nI (by2 f hA))], M81)) rfl rfl rfl ?_
          refine ps_st (S' := (106, [(0, .ref m0), (1, .int (nI (by2 f hA))), (2, .int 1)], [.int 16400, .int (nI (by2 f hA))], M81)) rfl rfl rfl ?_
          refine ps_st (S' := (107, [(0, .ref m0), (1, .int (nI (by2 f hA))), (2, .int 1)], [.int ((nI (by2 f hA)) &&& 16400)], M81)) rfl rfl rfl ?_
          rw [nI_an (p := by2 f hA) (k := 16400) (x := 16400) rfl]
          show pl _ _ _ (_, [(0, .ref m0), (1, .int (nI (by2 f hA))), (2, .int 1)], [.int (nI (aN (by2 f hA) 16400))], M81) _
          refine ps_if (S1 := (110, [(0, .ref m0)], [], M81)) (S2 := (110, [(0, .ref m0)], [], M81)) rfl rfl rfl (fun c_107 => ?_) (fun c_107 => ?_)
          · have c_107 : ¬ (nI (aN (by2 f hA) 16400)) = 0 := of_decide_eq_true c_107
            have n_107 : ¬ (aN (by2 f hA) 16400 = 0) := fun h9 => c_107 ((eq_nI (p := aN (by2 f hA) 16400) (n := 0) (Nat.lt_of_le_of_lt (an_le _ _) (by decide)) (by decide)).mpr h9)
            refine ps_st (S' := (111, [(0, .ref m0)], [.ref m0], M81)) rfl rfl rfl ?_
            refine ps_st (S' := (113, [(0, .ref m0)], [.int 15, .ref m0], M81)) rfl rfl rfl ?_
            refine ps_st (S' := (114, [(0, .ref m0)], [.ref m0, .int 15, .ref m0], M81)) rfl rfl rfl ?_
            refine pr_int (j := 54) (S' := (117, [(0, .ref m0)], [.int (nI hA), .int 15, .ref m0], M81)) rfl hR83 rfl hi86 rfl ?_
            refine pl_call (a := [.ref m0, .int 15, .int (nI hA)]) (rest := []) rfl rfl rfl (rd_wrong (x1 := 15) (x2 := (nI hA)) hR83) (fun v526 M527 q528 => ?_)
            obtain ⟨I529, R530, rfl, hR531, hI532, hX533, hi534, hi535⟩ := q528
            have hi536 := (hI532 54 (by decide)).trans hi86
            have hi537 := (hI532 11 (by decide)).trans hi87
            have hi538 := (hI532 51 (by decide)).trans hi88
            have hi539 := (hI532 52 (by decide)).trans hi89
            have hi540 := (hI532 53 (by decide)).trans hi90
            have hi541 := (hI532 58 (by decide)).trans hi84
            have hF_542 := hF_91.mono (cIx hI532 (by decide)) (cRx hX533 (by decide))
            have hY_543 := hY_92.mono (cIx hI532 (by decide)) (cRx hX533 (by decide))
            have hP_544 := hP_93.mono (cIx hI532 (by decide)) (cRx hX533 (by decide))
            have hEI545 := hEI94.tr hI532 (by decide)
            have hER546 := hER.tr hX533 (by decide)
            show pl _ _ _ (120, [(0, .ref m0)], [.int 0], M527) _
            exact ps_ret rfl rfl (Or.inr ⟨(15, hA), I529, R530, by
                have ec := cfl_0 (by2 f hA)
                have eh := has_0 (by2 f hA) 512
                unfold ccS
                rw [show hdS f n E hA = some (15, hA) by unfold hdS; first | ((repeat first | rw [if_pos (by omega)] | rw [if_neg (by omega)]) <;> first | rfl | omega) | ((repeat' split) <;> first | rfl | (exfalso; omega) | omega)], rfl, hR531, hEI545, hER546, hi534, hi535⟩)
          · have c_107 : ¬ (¬ (nI (aN (by2 f hA) 16400)) = 0) := of_decide_eq_false c_107
            have n_107 : aN (by2 f hA) 16400 = 0 := (eq_nI (p := aN (by2 f hA) 16400) (n := 0) (Nat.lt_of_le_of_lt (an_le _ _) (by decide)) (by decide)).mp (Decidable.not_not.mp c_107)
            refine ps_st (S' := (111, [(0, .ref m0)], [.ref m0], M81)) rfl rfl rfl ?_
            refine ps_st (S' := (113, [(0, .ref m0)], [.int 15, .ref m0], M81)) rfl rfl rfl ?_
            refine ps_st (S' := (114, [(0, .ref m0)], [.ref m0, .int 15, .ref m0], M81)) rfl rfl rfl ?_
            refine pr_int (j := 54) (S' := (117, [(0, .ref m0)], [.int (nI hA), .int 15, .ref m0], M81)) rfl hR83 rfl hi86 rfl ?_
            refine pl_call (a := [.ref m0, .int 15, .int (nI hA)]) (rest := []) rfl rfl rfl (rd_wrong (x1 := 15) (x2 := (nI hA)) hR83) (fun v547 M548 q549 => ?_)
            obtain ⟨I550, R551, rfl, hR552, hI553, hX554, hi555, hi556⟩ := q549
            have hi557 := (hI553 54 (by decide)).trans hi86
            have hi558 := (hI553 11 (by decide)).trans hi87
            have hi559 := (hI553 51 (by decide)).trans hi88
            have hi560 := (hI553 52 (by decide)).trans hi89
            have hi561 := (hI553 53 (by decide)).trans hi90
            have hi562 := (hI553 58 (by decide)).trans hi84
            have hF_563 := hF_91.mono (cIx hI553 (by decide)) (cRx hX554 (by decide))
            have hY_564 := hY_92.mono (cIx hI553 (by decide)) (cRx hX554 (by decide))
            have hP_565 := hP_93.mono (cIx hI553 (by decide)) (cRx hX554 (by decide))
            have hEI566 := hEI94.tr hI553 (by decide)
            have hER567 := hER.tr hX554 (by decide)
            show pl _ _ _ (120, [(0, .ref m0)], [.int 0], M548) _
            exact ps_ret rfl rfl (Or.inr ⟨(15, hA), I550, R551, by
                have ec := cfl_0 (by2 f hA)
                have eh := has_0 (by2 f hA) 512
                unfold ccS
                rw [show hdS f n E hA = some (15, hA) by unfold hdS; first | ((repeat first | rw [if_pos (by omega)] | rw [if_neg (by omega)]) <;> first | rfl | omega) | ((repeat' split) <;> first | rfl | (exfalso; omega) | omega)], rfl, hR552, hEI566, hER567, hi555, hi556⟩)
end
section
/-! bootstraps and records as the reference checks them (laid by wip/p4/e10.py) -/

theorem fe_2 {f : Nat → Int32} {k p e : Nat} (h : e < p + 2) : ¬ s_fe f k p e = some e := by
  unfold s_fe
  rw [if_pos h]
  exact fun h9 => by cases h9
theorem fe_6 {f : Nat → Int32} {p e : Nat} (h : p + 2 ≤ e) : s_fe f 6 p e = s_bsE f e (by2 f p) (p + 2) := by
  unfold s_fe
  rw [if_neg (by omega), if_neg (by decide), if_neg (by decide), if_neg (by decide), if_pos rfl]
theorem fe_9 {f : Nat → Int32} {p e : Nat} (h : p + 2 ≤ e) : s_fe f 9 p e = s_rcE f e (by2 f p) (p + 2) := by
  unfold s_fe
  rw [if_neg (by omega), if_neg (by decide), if_neg (by decide), if_neg (by decide), if_neg (by decide), if_pos rfl]
set_option maxHeartbeats 4000000 in
theorem rd_bootstraps {g : xe_G} {m0 : Nat} {q : Nat → Nat} {z : Nat × Nat} {I : rI} {R : rR} {M : mi_H} {n : Nat} {f : Nat → Int32} {tx : List (List Nat)} {cN : Nat} {A : Nat → Nat} {N mj : Nat} {E : List (Nat × Nat)} {p0 e : Nat} (hR : RS g m0 q z I R M) (hi51 : I 51 = some 0) (hi52 : I 52 = some (nI N)) (hi53 : I 53 = some (nI mj)) (hF : FK n f I R) (hY : SYT tx cN A I R) (hP : RPV f n E tx N I R) (hEP : EP f n E) (hN : N < 65536) (hmj : mj < 65536) (he : p0 ≤ e ∧ e ≤ n) : pt (mT g) 185 [.ref m0, .int (nI p0), .int (nI e)] M (fun v M' => (∃  (I' : rI) (R' : rR), (¬ s_fe f 6 p0 e = some e) ∧ v = some (.int 30) ∧ RS g m0 q z I' R' M' ∧ eqI [70, 71] I I' ∧ eqR [] R R') ∨ (∃  (I' : rI) (R' : rR), (s_fe f 6 p0 e = some e) ∧ (bsA f E (by2 f p0) (p0 + 2) = 0) ∧ v = some (.int 38) ∧ RS g m0 q z I' R' M' ∧ eqI [70, 71] I I' ∧ eqR [] R R') ∨ (∃  (I' : rI) (R' : rR), (s_fe f 6 p0 e = some e) ∧ (¬ bsA f E (by2 f p0) (p0 + 2) = 0) ∧ v = some (.int 0) ∧ RS g m0 q z I' R' M' ∧ eqI [70, 71] I I' ∧ eqR [] R R' ∧ I' 71 = some (nI (by2 f p0)))) := by
  refine pt_in (b := mb_185 g) rfl (fun kf => ?_)
  show pl (mT g) kf (mb_185 g).2 (0, [(0, .ref m0), (1, .int (nI p0)), (2, .int (nI e))], [], M) _
  have hEI : eqI [70, 71] I I := eqI.rf
  have hER : eqR [] R R := eqR.rf
  have hn := hF.1
  have LL : ∀ (kf : Nat), (∀ (i p : Nat) (M1 : mi_H) (I1 : rI) (R1 : rR), (RS g m0 q z I1 R1 M1) → (eqI [70, 71] I I1) → (eqR [] R R1) → (I1 51 = some 0) → (I1 52 = some (nI N)) → (I1 53 = some (nI mj)) → (FK n f I1 R1) → (SYT tx cN A I1 R1) → (RPV f n E tx N I1 R1) → (p0 + 2 ≤ e) → (i ≤ by2 f p0) → (p0 + 2 ≤ p ∧ p ≤ e) → (s_bsE f e (by2 f p0 - i) p = s_bsE f e (by2 f p0) (p0 + 2)) →  pl (mT g) kf (mb_185 g).2 (24, [(0, .ref m0), (1, .int (nI p0)), (2, .int (nI e)), (3, .int (nI (by2 f p0))), (4, .int (nI p)), (5, .int (nI i))], [], M1) (fun v M' => (∃  (I' : rI) (R' : rR), (¬ s_fe f 6 p0 e = some e) ∧ v = some (.int 30) ∧ RS g m0 q z I' R' M' ∧ eqI [70, 71] I I' ∧ eqR [] R R') ∨ (∃  (I' : rI) (R' : rR), (s_fe f 6 p0 e = some e) ∧ (bsA f E (by2 f p0) (p0 + 2) = 0) ∧ v = some (.int 38) ∧ RS g m0 q z I' R' M' ∧ eqI [70, 71] I I' ∧ eqR [] R R') ∨ (∃  (I' : rI) (R' : rR), (s_fe f 6 p0 e = some e) ∧ (¬ bsA f E (by2 f p0) (p0 + 2) = 0) ∧ v = some (.int 0) ∧ RS g m0 q z I' R' M' ∧ eqI [70, 71] I I' ∧ eqR [] R R' ∧ I' 71 = some (nI (by2 f p0))))) ∧ (∀ (i p : Nat) (M1 : mi_H) (I1 : rI) (R1 : rR), (RS g m0 q z I1 R1 M1) → (eqI [70, 71] I I1) → (eqR [] R R1) → (I1 51 = some 0) → (I1 52 = some (nI N)) → (I1 53 = some (nI mj)) → (FK n f I1 R1) → (SYT tx cN A I1 R1) → (RPV f n E tx N I1 R1) → (s_fe f 6 p0 e = some e) → (i ≤ by2 f p0) → (p ≤ e) → (s_bsE f e (by2 f p0 - i) p = some e) → (bsA f E (by2 f p0 - i) p = bsA f E (by2 f p0) (p0 + 2)) →  pl (mT g) kf (mb_185 g).2 (100, [(0, .ref m0), (1, .int (nI p0)), (3, .int (nI (by2 f p0))), (4, .int (nI p)), (5, .int (nI i))], [], M1) (fun v M' => (∃  (I' : rI) (R' : rR), (¬ s_fe f 6 p0 e = some e) ∧ v = some (.int 30) ∧ RS g m0 q z I' R' M' ∧ eqI [70, 71] I I' ∧ eqR [] R R') ∨ (∃  (I' : rI) (R' : rR), (s_fe f 6 p0 e = some e) ∧ (bsA f E (by2 f p0) (p0 + 2) = 0) ∧ v = some (.int 38) ∧ RS g m0 q z I' R' M' ∧ eqI [70, 71] I I' ∧ eqR [] R R') ∨ (∃  (I' : rI) (R' : rR), (s_fe f 6 p0 e = some e) ∧ (¬ bsA f E (by2 f p0) (p0 + 2) = 0) ∧ v = some (.int 0) ∧ RS g m0 q z I' R' M' ∧ eqI [70, 71] I I' ∧ eqR [] R R' ∧ I' 71 = some (nI (by2 f p0))))) ∧ (∀ (i p j : Nat) (M1 : mi_H) (I1 : rI) (R1 : rR), (RS g m0 q z I1 R1 M1) → (eqI [70, 71] I I1) → (eqR [] R R1) → (I1 51 = some 0) → (I1 52 = some (nI N)) → (I1 53 = some (nI mj)) → (FK n f I1 R1) → (SYT tx cN A I1 R1) → (RPV f n E tx N I1 R1) → (s_fe f 6 p0 e = some e) → (i < by2 f p0) → (j ≤ by2 f (p + 2)) → (p + 4 + 2 * by2 f (p + 2) ≤ e) → (s_bsE f e (by2 f p0 - (i + 1)) (p + 4 + 2 * by2 f (p + 2)) = some e) → (tg f E (by2 f p) = 15) → (bsA f E (by2 f p0 - i) p = bsA f E (by2 f p0) (p0 + 2)) → (ldA f E (by2 f (p + 2) - j) (p + 4 + 2 * j) = ldA f E (by2 f (p + 2)) (p + 4)) →  pl (mT g) kf (mb_185 g).2 (127, [(0, .ref m0), (1, .int (nI p0)), (3, .int (nI (by2 f p0))), (4, .int (nI p)), (5, .int (nI i)), (6, .int (nI j))], [], M1) (fun v M' => (∃  (I' : rI) (R' : rR), (¬ s_fe f 6 p0 e = some e) ∧ v = some (.int 30) ∧ RS g m0 q z I' R' M' ∧ eqI [70, 71] I I' ∧ eqR [] R R') ∨ (∃  (I' : rI) (R' : rR), (s_fe f 6 p0 e = some e) ∧ (bsA f E (by2 f p0) (p0 + 2) = 0) ∧ v = some (.int 38) ∧ RS g m0 q z I' R' M' ∧ eqI [70, 71] I I' ∧ eqR [] R R') ∨ (∃  (I' : rI) (R' : rR), (s_fe f 6 p0 e = some e) ∧ (¬ bsA f E (by2 f p0) (p0 + 2) = 0) ∧ v = some (.int 0) ∧ RS g m0 q z I' R' M' ∧ eqI [70, 71] I I' ∧ eqR [] R R' ∧ I' 71 = some (nI (by2 f p0))))) := by
    intro kf
    induction kf with
    | zero => exact ⟨by intros; exact pl_0, by intros; exact pl_0, by intros; exact pl_0⟩
    | succ kf ih =>
      refine ⟨?_, ?_, ?_⟩
      · skip
        intro i p M1 I1 R1 hR1 hEI1 hER1 hl51 hl52 hl53 hF1 hY1 hP1 h2 hi hp hs
        have hn := hF1.1
        have hu9 := by2_lt f p0
        refine ps_st1 (S' := (26, [(0, .ref m0), (1, .int (nI p0)), (2, .int (nI e)), (3, .int (nI (by2 f p0))), (4, .int (nI p)), (5, .int (nI i))], [.int (nI i)], M1)) rfl rfl rfl ?_
        refine ps_st (S' := (27, [(0, .ref m0), (1, .int (nI p0)), (2, .int (nI e)), (3, .int (nI (by2 f p0))), (4, .int (nI p)), (5, .int (nI i))], [.int (nI (by2 f p0)), .int (nI i)], M1)) rfl rfl rfl ?_
        refine ps_if2 (S1 := (83, [(0, .ref m0), (1, .int (nI p0)), (2, .int (nI e)), (3, .int (nI (by2 f p0))), (4, .int (nI p)), (5, .int (nI i))], [], M1)) (S2 := (30, [(0, .ref m0), (1, .int (nI p0)), (2, .int (nI e)), (3, .int (nI (by2 f p0))), (4, .int (nI p)), (5, .int (nI i))], [], M1)) rfl rfl rfl (fun c_27 => ?_) (fun c_27 => ?_)
        · have c_27 : (nI (by2 f p0)) ≤ (nI i) := of_decide_eq_true c_27
          have n_27 : by2 f p0 ≤ i := (le_nI (p := by2 f p0) (n := i) (Nat.lt_trans (by2_lt _ _) (by decide)) (by omega)).mp c_27
          refine ps_st (S' := (85, [(0, .ref m0), (1, .int (nI p0)), (2, .int (nI e)), (3, .int (nI (by2 f p0))), (4, .int (nI p)), (5, .int (nI i))], [.int (nI p)], M1)) rfl rfl rfl ?_
          refine ps_st (S' := (86, [(0, .ref m0), (1, .int (nI p0)), (2, .int (nI e)), (3, .int (nI (by2 f p0))), (4, .int (nI p)), (5, .int (nI i))], [.int (nI e), .int (nI p)], M1)) rfl rfl rfl ?_
          refine ps_if2 (S1 := (92, [(0, .ref m0), (1, .int (nI p0)), (2, .int (nI e)), (3, .int (nI (by2 f p0))), (4, .int (nI p)), (5, .int (nI i))], [], M1)) (S2 := (89, [(0, .ref m0), (1, .int (nI p0)), (2, .int (nI e)), (3, .int (nI (by2 f p0))), (4, .int (nI p)), (5, .int (nI i))], [], M1)) rfl rfl rfl (fun c_86 => ?_) (fun c_86 => ?_)
          · have c_86 : (nI p) = (nI e) := of_decide_eq_true c_86
            have n_86 : p = e := (eq_nI (p := p) (n := e) (by omega) (by omega)).mp c_86
            refine ps_st (S' := (93, [(0, .ref m0), (1, .int (nI p0)), (2, .int (nI e)), (3, .int (nI (by2 f p0))), (4, .int (nI p)), (5, .int (nI i))], [.int (nI p0)], M1)) rfl rfl rfl ?_
            refine ps_st (S' := (94, [(0, .ref m0), (1, .int (nI p0)), (2, .int (nI e)), (3, .int (nI (by2 f p0))), (4, .int (nI p)), (5, .int (nI i))], [.int 2, .int (nI p0)], M1)) rfl rfl rfl ?_
            refine ps_st (S' := (95, [(0, .ref m0), (1, .int (nI p0)), (2, .int (nI e)), (3, .int (nI (by2 f p0))), (4, .int (nI p)), (5, .int (nI i))], [.int ((nI p0) + 2)], M1)) rfl rfl rfl ?_
            rw [nI_add1 (p := p0) (k := 2) (x := 2) rfl (by omega)]
            show pl _ _ _ (_, [(0, .ref m0), (1, .int (nI p0)), (2, .int (nI e)), (3, .int (nI (by2 f p0))), (4, .int (nI p)), (5, .int (nI i))], [.int (nI (p0 + 2))], M1) _
            refine ps_st (S' := (97, [(4, .int (nI (p0 + 2))), (0, .ref m0), (1, .int (nI p0)), (2, .int (nI e)), (3, .int (nI (by2 f p0))), (5, .int (nI i))], [], M1)) rfl rfl rfl ?_
            refine ps_st (S' := (98, [(4, .int (nI (p0 + 2))), (0, .ref m0), (1, .int (nI p0)), (2, .int (nI e)), (3, .int (nI (by2 f p0))), (5, .int (nI i))], [.int 0], M1)) rfl rfl rfl ?_
            refine ps_st (S' := (100, [(0, .ref m0), (1, .int (nI p0)), (3, .int (nI (by2 f p0))), (4, .int (nI (p0 + 2))), (5, .int 0)], [], M1)) rfl rfl rfl ?_
            exact ih.2.1 (0) (p0 + 2) M1 I1 R1 hR1 hEI1 hER1 hl51 hl52 hl53 hF1 hY1 hP1 (by
                rw [fe_6 h2, ← hs, show by2 f p0 - i = 0 by omega, show p = e by omega]
                rfl) (by omega) (by omega) (by
                rw [show by2 f p0 - 0 = by2 f p0 from rfl, ← hs, show by2 f p0 - i = 0 by omega, show p = e by omega]
                rfl) (rfl)
          · have c_86 : ¬ ((nI p) = (nI e)) := of_decide_eq_false c_86
            have n_86 : ¬ (p = e) := fun h9 => c_86 ((eq_nI (p := p) (n := e) (by omega) (by omega)).mpr h9)
            refine ps_st (S' := (91, [(0, .ref m0), (1, .int (nI p0)), (2, .int (nI e)), (3, .int (nI (by2 f p0))), (4, .int (nI p)), (5, .int (nI i))], [.int 30], M1)) rfl rfl rfl ?_
            exact ps_ret rfl rfl (Or.inl ⟨I1, R1, by
                rw [fe_6 h2, ← hs]
                rw [show by2 f p0 - i = 0 by omega]
                exact fun h9 => n_86 (Option.some.inj h9), rfl, hR1, hEI1, hER1⟩)
        · have c_27 : ¬ ((nI (by2 f p0)) ≤ (nI i)) := of_decide_eq_false c_27
          have n_27 : ¬ (by2 f p0 ≤ i) := fun h9 => c_27 ((le_nI (p := by2 f p0) (n := i) (Nat.lt_trans (by2_lt _ _) (by decide)) (by omega)).mpr h9)
          refine ps_st (S' := (32, [(0, .ref m0), (1, .int (nI p0)), (2, .int (nI e)), (3, .int (nI (by2 f p0))), (4, .int (nI p)), (5, .int (nI i))], [.int (nI p)], M1)) rfl rfl rfl ?_
          refine ps_st (S' := (33, [(0, .ref m0), (1, .int (nI p0)), (2, .int (nI e)), (3, .int (nI (by2 f p0))), (4, .int (nI p)), (5, .int (nI i))], [.int 4, .int (nI p)], M1)) rfl rfl rfl ?_
          refine ps_st (S' := (34, [(0, .ref m0), (1, .int (nI p0)), (2, .int (nI e)), (3, .int (nI (by2 f p0))), (4, .int (nI p)), (5, .int (nI i))], [.int ((nI p) + 4)], M1)) rfl rfl rfl ?_
          rw [nI_add1 (p := p) (k := 4) (x := 4) rfl (by omega)]
          show pl _ _ _ (_, [(0, .ref m0), (1, .int (nI p0)), (2, .int (nI e)), (3, .int (nI (by2 f p0))), (4, .int (nI p)), (5, .int (nI i))], [.int (nI (p + 4))], M1) _
          refine ps_st (S' := (35, [(0, .ref m0), (1, .int (nI p0)), (2, .int (nI e)), (3, .int (nI (by2 f p0))), (4, .int (nI p)), (5, .int (nI i))], [.int (nI e), .int (nI (p + 4))], M1)) rfl rfl rfl ?_
          refine ps_if2 (S1 := (57, [], [], M1)) (S2 := (38, [(0, .ref m0), (1, .int (nI p0)), (2, .int (nI e)), (3, .int (nI (by2 f p0))), (4, .int (nI p)), (5, .int (nI i))], [], M1)) rfl rfl rfl (fun c_35 => ?_) (fun c_35 => ?_)
          · have c_35 : (nI e) < (nI (p + 4)) := of_decide_eq_true c_35
            have n_35 : e < p + 4 := (lt_nI (p := e) (n := p + 4) (by omega) (by omega)).mp c_35
            refine ps_st (S' := (59, [], [.int 30], M1)) rfl rfl rfl ?_
            exact ps_ret rfl rfl (Or.inl ⟨I1, R1, by
                rw [fe_6 h2, ← hs]
                rw [s_bsE_st (i := i) (p := p) (by omega), if_pos (by omega)]
                exact (fun h9 => (by cases h9)), rfl, hR1, hEI1, hER1⟩)
          · have c_35 : ¬ ((nI e) < (nI (p + 4))) := of_decide_eq_false c_35
            have n_35 : ¬ (e < p + 4) := fun h9 => c_35 ((lt_nI (p := e) (n := p + 4) (by omega) (by omega)).mpr h9)
            refine ps_st (S' := (40, [(0, .ref m0), (1, .int (nI p0)), (2, .int (nI e)), (3, .int (nI (by2 f p0))), (4, .int (nI p)), (5, .int (nI i))], [.int (nI p)], M1)) rfl rfl rfl ?_
            refine ps_st (S' := (41, [(0, .ref m0), (1, .int (nI p0)), (2, .int (nI e)), (3, .int (nI (by2 f p0))), (4, .int (nI p)), (5, .int (nI i))], [.int 4, .int (nI p)], M1)) rfl rfl rfl ?_
            refine ps_st (S' := (42, [(0, .ref m0), (1, .int (nI p0)), (2, .int (nI e)), (3, .int (nI (by2 f p0))), (4, .int (nI p)), (5, .int (nI i))], [.int ((nI p) + 4)], M1)) rfl rfl rfl ?_
            rw [nI_add1 (p := p) (k := 4) (x := 4) rfl (by omega)]
            show pl _ _ _ (_, [(0, .ref m0), (1, .int (nI p0)), (2, .int (nI e)), (3, .int (nI (by2 f p0))), (4, .int (nI p)), (5, .int (nI i))], [.int (nI (p + 4))], M1) _
            refine ps_st (S' := (43, [(0, .ref m0), (1, .int (nI p0)), (2, .int (nI e)), (3, .int (nI (by2 f p0))), (4, .int (nI p)), (5, .int (nI i))], [.int 2, .int (nI (p + 4))], M1)) rfl rfl rfl ?_
            refine ps_st (S' := (44, [(0, .ref m0), (1, .int (nI p0)), (2, .int (nI e)), (3, .int (nI (by2 f p0))), (4, .int (nI p)), (5, .int (nI i))], [.ref m0, .int 2, .int (nI (p + 4))], M1)) rfl rfl rfl ?_
            refine ps_st (S' := (46, [(0, .ref m0), (1, .int (nI p0)), (2, .int (nI e)), (3, .int (nI (by2 f p0))), (4, .int (nI p)), (5, .int (nI i))], [.int (nI p), .ref m0, .int 2, .int (nI (p + 4))], M1)) rfl rfl rfl ?_
            refine ps_st (S' := (47, [(0, .ref m0), (1, .int (nI p0)), (2, .int (nI e)), (3, .int (nI (by2 f p0))), (4, .int (nI p)), (5, .int (nI i))], [.int 2, .int (nI p), .ref m0, .int 2, .int (nI (p + 4))], M1)) rfl rfl rfl ?_
            refine ps_st (S' := (48, [(0, .ref m0), (1, .int (nI p0)), (2, .int (nI e)), (3, .int (nI (by2 f p0))), (4, .int (nI p)), (5, .int (nI i))], [.int ((nI p) + 2), .ref m0, .int 2, .int (nI (p + 4))], M1)) rfl rfl rfl ?_
            rw [nI_add1 (p := p) (k := 2) (x := 2) rfl (by omega)]
            show pl _ _ _ (_, [(0, .ref m0), (1, .int (nI p0)), (2, .int (nI e)), (3, .int (nI (by2 f p0))), (4, .int (nI p)), (5, .int (nI i))], [.int (nI (p + 2)), .ref m0, .int 2, .int (nI (p + 4))], M1) _
            refine pl_call (a := [.ref m0, .int (nI (p + 2))]) (rest := [.int 2, .int (nI (p + 4))]) rfl rfl rfl (rd_u2 (n := n) (f := f) (p := (p + 2)) hR1 hF1 (by omega)) (fun v1 M2 q3 => ?_)
            obtain ⟨rfl, rfl⟩ := q3
            show pl _ _ _ (51, [(0, .ref m0), (1, .int (nI p0)), (2, .int (nI e)), (3, .int (nI (by2 f p0))), (4, .int (nI p)), (5, .int (nI i))], [.int (nI (by2 f (p + 2))), .int 2, .int (nI (p + 4))], M1) _
            have hu_48 := by2_lt f (p + 2)
            refine ps_st (S' := (52, [(0, .ref m0), (1, .int (nI p0)), (2, .int (nI e)), (3, .int (nI (by2 f p0))), (4, .int (nI p)), (5, .int (nI i))], [.int (2 * (nI (by2 f (p + 2)))), .int (nI (p + 4))], M1)) rfl rfl rfl ?_
            rw [nI_mul1 (p := 2) (k := by2 f (p + 2)) (x := 2) (y := (nI (by2 f (p + 2)))) rfl rfl (by omega)]
            show pl _ _ _ (_, [(0, .ref m0), (1, .int (nI p0)), (2, .int (nI e)), (3, .int (nI (by2 f p0))), (4, .int (nI p)), (5, .int (nI i))], [.int (nI (2 * (by2 f (p + 2)))), .int (nI (p + 4))], M1) _
            refine ps_st (S' := (53, [(0, .ref m0), (1, .int (nI p0)), (2, .int (nI e)), (3, .int (nI (by2 f p0))), (4, .int (nI p)), (5, .int (nI i))], [.int ((nI (p + 4)) + (nI (2 * (by2 f (p + 2)))))], M1)) rfl rfl rfl ?_
            rw [nI_add1 (p := p + 4) (k := 2 * (by2 f (p + 2))) (x := (nI (2 * (by2 f (p + 2))))) rfl (by omega)]
            show pl _ _ _ (_, [(0, .ref m0), (1, .int (nI p0)), (2, .int (nI e)), (3, .int (nI (by2 f p0))), (4, .int (nI p)), (5, .int (nI i))], [.int (nI (p + 4 + 2 * (by2 f (p + 2))))], M1) _
            refine ps_st (S' := (54, [(0, .ref m0), (1, .int (nI p0)), (2, .int (nI e)), (3, .int (nI (by2 f p0))), (4, .int (nI p)), (5, .int (nI i))], [.int (nI e), .int (nI (p + 4 + 2 * (by2 f (p + 2))))], M1)) rfl rfl rfl ?_
            refine ps_if2 (S1 := (60, [(0, .ref m0), (1, .int (nI p0)), (2, .int (nI e)), (3, .int (nI (by2 f p0))), (4, .int (nI p)), (5, .int (nI i))], [], M1)) (S2 := (57, [], [], M1)) rfl rfl rfl (fun c_54 => ?_) (fun c_54 => ?_)
            · have c_54 : (nI (p + 4 + 2 * (by2 f (p + 2)))) ≤ (nI e) := of_decide_eq_true c_54
              have n_54 : p + 4 + 2 * (by2 f (p + 2)) ≤ e := (le_nI (p := p + 4 + 2 * (by2 f (p + 2))) (n := e) (by omega) (by omega)).mp c_54
              refine ps_st (S' := (62, [(0, .ref m0), (1, .int (nI p0)), (2, .int (nI e)), (3, .int (nI (by2 f p0))), (4, .int (nI p)), (5, .int (nI i))], [.int (nI p)], M1)) rfl rfl rfl ?_
              refine ps_st (S' := (63, [(0, .ref m0), (1, .int (nI p0)), (2, .int (nI e)), (3, .int (nI (by2 f p0))), (4, .int (nI p)), (5, .int (nI i))], [.int 4, .int (nI p)], M1)) rfl rfl rfl ?_
              refine ps_st (S' := (64, [(0, .ref m0), (1, .int (nI p0)), (2, .int (nI e)), (3, .int (nI (by2 f p0))), (4, .int (nI p)), (5, .int (nI i))], [.int 2, .int 4, .int (nI p)], M1)) rfl rfl rfl ?_
              refine ps_st (S' := (65, [(0, .ref m0), (1, .int (nI p0)), (2, .int (nI e)), (3, .int (nI (by2 f p0))), (4, .int (nI p)), (5, .int (nI i))], [.ref m0, .int 2, .int 4, .int (nI p)], M1)) rfl rfl rfl ?_
              refine ps_st (S' := (67, [(0, .ref m0), (1, .int (nI p0)), (2, .int (nI e)), (3, .int (nI (by2 f p0))), (4, .int (nI p)), (5, .int (nI i))], [.int (nI p), .ref m0, .int 2, .int 4, .int (nI p)], M1)) rfl rfl rfl ?_
              refine ps_st (S' := (68, [(0, .ref m0), (1, .int (nI p0)), (2, .int (nI e)), (3, .int (nI (by2 f p0))), (4, .int (nI p)), (5, .int (nI i))], [.int 2, .int (nI p), .ref m0, .int 2, .int 4, .int (nI p)], M1)) rfl rfl rfl ?_
              refine ps_st (S' := (69, [(0, .ref m0), (1, .int (nI p0)), (2, .int (nI e)), (3, .int (nI (by2 f p0))), (4, .int (nI p)), (5, .int (nI i))], [.int ((nI p) + 2), .ref m0, .int 2, .int 4, .int (nI p)], M1)) rfl rfl rfl ?_
              rw [nI_add1 (p := p) (k := 2) (x := 2) rfl (by omega)]
              show pl _ _ _ (_, [(0, .ref m0), (1, .int (nI p0)), (2, .int (nI e)), (3, .int (nI (by2 f p0))), (4, .int (nI p)), (5, .int (nI i))], [.int (nI (p + 2)), .ref m0, .int 2, .int 4, .int (nI p)], M1) _
              refine pl_call (a := [.ref m0, .int (nI (p + 2))]) (rest := [.int 2, .int 4, .int (nI p)]) rfl rfl rfl (rd_u2 (n := n) (f := f) (p := (p + 2)) hR1 hF1 (by omega)) (fun v4 M5 q6 => ?_)
              obtain ⟨rfl, rfl⟩ := q6
              show pl _ _ _ (72, [(0, .ref m0), (1, .int (nI p0)), (2, .int (nI e)), (3, .int (nI (by2 f p0))), (4, .int (nI p)), (5, .int (nI i))], [.int (nI (by2 f (p + 2))), .int 2, .int 4, .int (nI p)], M1) _
              have hu_69 := by2_lt f (p + 2)
              refine ps_st (S' := (73, [(0, .ref m0), (1, .int (nI p0)), (2, .int (nI e)), (3, .int (nI (by2 f p0))), (4, .int (nI p)), (5, .int (nI i))], [.int (2 * (nI (by2 f (p + 2)))), .int 4, .int (nI p)], M1)) rfl rfl rfl ?_
              rw [nI_mul1 (p := 2) (k := by2 f (p + 2)) (x := 2) (y := (nI (by2 f (p + 2)))) rfl rfl (by omega)]
              show pl _ _ _ (_, [(0, .ref m0), (1, .int (nI p0)), (2, .int (nI e)), (3, .int (nI (by2 f p0))), (4, .int (nI p)), (5, .int (nI i))], [.int (nI (2 * (by2 f (p + 2)))), .int 4, .int (nI p)], M1) _
              refine ps_st (S' := (74, [(0, .ref m0), (1, .int (nI p0)), (2, .int (nI e)), (3, .int (nI (by2 f p0))), (4, .int (nI p)), (5, .int (nI i))], [.int (4 + (nI (2 * (by2 f (p + 2))))), .int (nI p)], M1)) rfl rfl rfl ?_
              rw [nI_add2 (p := 4) (k := 2 * (by2 f (p + 2))) (x := 4) (y := (nI (2 * (by2 f (p + 2))))) rfl rfl (by omega)]
              show pl _ _ _ (_, [(0, .ref m0), (1, .int (nI p0)), (2, .int (nI e)), (3, .int (nI (by2 f p0))), (4, .int (nI p)), (5, .int (nI i))], [.int (nI (4 + 2 * (by2 f (p + 2)))), .int (nI p)], M1) _
              refine ps_st (S' := (75, [(0, .ref m0), (1, .int (nI p0)), (2, .int (nI e)), (3, .int (nI (by2 f p0))), (4, .int (nI p)), (5, .int (nI i))], [.int ((nI p) + (nI (4 + 2 * (by2 f (p + 2)))))], M1)) rfl rfl rfl ?_
              rw [nI_add1 (p := p) (k := 4 + 2 * (by2 f (p + 2))) (x := (nI (4 + 2 * (by2 f (p + 2))))) rfl (by omega)]
              rw [show nI (p + (4 + 2 * (by2 f (p + 2)))) = nI (p + 4 + 2 * (by2 f (p + 2))) from congrArg nI (by omega)]
              show pl _ _ _ (_, [(0, .ref m0), (1, .int (nI p0)), (2, .int (nI e)), (3, .int (nI (by2 f p0))), (4, .int (nI p)), (5, .int (nI i))], [.int (nI (p + 4 + 2 * (by2 f (p + 2))))], M1) _
              refine ps_st (S' := (77, [(4, .int (nI (p + 4 + 2 * (by2 f (p + 2))))), (0, .ref m0), (1, .int (nI p0)), (2, .int (nI e)), (3, .int (nI (by2 f p0))), (5, .int (nI i))], [], M1)) rfl rfl rfl ?_
              refine ps_st (S' := (80, [(5, .int ((nI i) + 1)), (4, .int (nI (p + 4 + 2 * (by2 f (p + 2))))), (0, .ref m0), (1, .int (nI p0)), (2, .int (nI e)), (3, .int (nI (by2 f p0)))], [], M1)) rfl rfl rfl ?_
              rw [nI_add1 (p := i) (k := 1) (x := 1) rfl (by omega)]
              show pl _ _ _ (_, [(5, .int (nI (i + 1))), (4, .int (nI (p + 4 + 2 * (by2 f (p + 2))))), (0, .ref m0), (1, .int (nI p0)), (2, .int (nI e)), (3, .int (nI (by2 f p0)))], [], M1) _
              refine ps_st (S' := (24, [(0, .ref m0), (1, .int (nI p0)), (2, .int (nI e)), (3, .int (nI (by2 f p0))), (4, .int (nI (p + 4 + 2 * (by2 f (p + 2))))), (5, .int (nI (i + 1)))], [], M1)) rfl rfl rfl ?_
              exact ih.1 (i + 1) (p + 4 + 2 * by2 f (p + 2)) M1 I1 R1 hR1 hEI1 hER1 hl51 hl52 hl53 hF1 hY1 hP1 (h2) (by omega) (by omega) (by
                  rw [← hs, s_bsE_st (i := i) (p := p) (by omega), if_neg (by omega)])
            · have c_54 : ¬ ((nI (p + 4 + 2 * (by2 f (p + 2)))) ≤ (nI e)) := of_decide_eq_false c_54
              have n_54 : ¬ (p + 4 + 2 * (by2 f (p + 2)) ≤ e) := fun h9 => c_54 ((le_nI (p := p + 4 + 2 * (by2 f (p + 2))) (n := e) (by omega) (by omega)).mpr h9)
              refine ps_st (S' := (59, [], [.int 30], M1)) rfl rfl rfl ?_
              exact ps_ret rfl rfl (Or.inl ⟨I1, R1, by
                  rw [fe_6 h2, ← hs]
                  rw [s_bsE_st (i := i) (p := p) (by omega), if_neg (by omega)]
                  exact (fun h9 => (by have := s_bsE_le h9; omega)), rfl, hR1, hEI1, hER1⟩)
      · skip
        intro i p M1 I1 R1 hR1 hEI1 hER1 hl51 hl52 hl53 hF1 hY1 hP1 hfe hi hp hf hs
        have hn := hF1.1
        have hu9 := by2_lt f p0
        refine ps_st1 (S' := (102, [(0, .ref m0), (1, .int (nI p0)), (3, .int (nI (by2 f p0))), (4, .int (nI p)), (5, .int (nI i))], [.int (nI i)], M1)) rfl rfl rfl ?_
        refine ps_st (S' := (103, [(0, .ref m0), (1, .int (nI p0)), (3, .int (nI (by2 f p0))), (4, .int (nI p)), (5, .int (nI i))], [.int (nI (by2 f p0)), .int (nI i)], M1)) rfl rfl rfl ?_
        refine ps_if2 (S1 := (218, [(0, .ref m0), (1, .int (nI p0)), (3, .int (nI (by2 f p0))), (4, .int (nI p)), (5, .int (nI i))], [], M1)) (S2 := (106, [(0, .ref m0), (1, .int (nI p0)), (3, .int (nI (by2 f p0))), (4, .int (nI p)), (5, .int (nI i))], [], M1)) rfl rfl rfl (fun c_103 => ?_) (fun c_103 => ?_)
        · have c_103 : (nI (by2 f p0)) ≤ (nI i) := of_decide_eq_true c_103
          have n_103 : by2 f p0 ≤ i := (le_nI (p := by2 f p0) (n := i) (Nat.lt_trans (by2_lt _ _) (by decide)) (by omega)).mp c_103
          refine ps_st (S' := (219, [(0, .ref m0), (1, .int (nI p0)), (3, .int (nI (by2 f p0))), (4, .int (nI p)), (5, .int (nI i))], [.ref m0], M1)) rfl rfl rfl ?_
          refine ps_st (S' := (220, [(0, .ref m0), (1, .int (nI p0)), (3, .int (nI (by2 f p0))), (4, .int (nI p)), (5, .int (nI i))], [.int (nI p0), .ref m0], M1)) rfl rfl rfl ?_
          refine pr_put (j := 70) rfl hR1 rfl (fun M7 I8 hR9 hi10 hI11 => ?_)
          have hi12 := (hI11 51 (by decide)).trans hl51
          have hi13 := (hI11 52 (by decide)).trans hl52
          have hi14 := (hI11 53 (by decide)).trans hl53
          have hF_15 := hF1.mono (pIx hI11 (by decide)) (fun _ _ => rfl)
          have hY_16 := hY1.mono (pIx hI11 (by decide)) (fun _ _ => rfl)
          have hP_17 := hP1.mono (pIx hI11 (by decide)) (fun _ _ => rfl)
          have hEI18 := hEI1.put hI11 (by decide)
          show pl _ _ _ (223, [(0, .ref m0), (1, .int (nI p0)), (3, .int (nI (by2 f p0))), (4, .int (nI p)), (5, .int (nI i))], [], M7) _
          refine ps_st (S' := (224, [(0, .ref m0), (1, .int (nI p0)), (3, .int (nI (by2 f p0))), (4, .int (nI p)), (5, .int (nI i))], [.ref m0], M7)) rfl rfl rfl ?_
          refine ps_st (S' := (225, [(0, .ref m0), (1, .int (nI p0)), (3, .int (nI (by2 f p0))), (4, .int (nI p)), (5, .int (nI i))], [.int (nI (by2 f p0)), .ref m0], M7)) rfl rfl rfl ?_
          refine pr_put (j := 71) rfl hR9 rfl (fun M19 I20 hR21 hi22 hI23 => ?_)
          have hi24 := (hI23 51 (by decide)).trans hi12
          have hi25 := (hI23 52 (by decide)).trans hi13
          have hi26 := (hI23 53 (by decide)).trans hi14
          have hi27 := (hI23 70 (by decide)).trans hi10
          have hF_28 := hF_15.mono (pIx hI23 (by decide)) (fun _ _ => rfl)
          have hY_29 := hY_16.mono (pIx hI23 (by decide)) (fun _ _ => rfl)
          have hP_30 := hP_17.mono (pIx hI23 (by decide)) (fun _ _ => rfl)
          have hEI31 := hEI18.put hI23 (by decide)
          show pl _ _ _ (228, [(0, .ref m0), (1, .int (nI p0)), (3, .int (nI (by2 f p0))), (4, .int (nI p)), (5, .int (nI i))], [], M19) _
          refine ps_st (S' := (229, [(0, .ref m0), (1, .int (nI p0)), (3, .int (nI (by2 f p0))), (4, .int (nI p)), (5, .int (nI i))], [.int 0], M19)) rfl rfl rfl ?_
          exact ps_ret rfl rfl (Or.inr (Or.inr ⟨I20, R1, hfe, by
              rw [← hs, show by2 f p0 - i = 0 by omega]
              exact Nat.one_ne_zero, rfl, hR21, hEI31, hER1, hi22⟩))
        · have c_103 : ¬ ((nI (by2 f p0)) ≤ (nI i)) := of_decide_eq_false c_103
          have n_103 : ¬ (by2 f p0 ≤ i) := fun h9 => c_103 ((le_nI (p := by2 f p0) (n := i) (Nat.lt_trans (by2_lt _ _) (by decide)) (by omega)).mpr h9)
          have hq8 := s_bsE_in (i := i) (p := p) hf (by omega)
          refine ps_st (S' := (107, [(0, .ref m0), (1, .int (nI p0)), (3, .int (nI (by2 f p0))), (4, .int (nI p)), (5, .int (nI i))], [.ref m0], M1)) rfl rfl rfl ?_
          refine ps_st (S' := (108, [(0, .ref m0), (1, .int (nI p0)), (3, .int (nI (by2 f p0))), (4, .int (nI p)), (5, .int (nI i))], [.ref m0, .ref m0], M1)) rfl rfl rfl ?_
          refine ps_st (S' := (110, [(0, .ref m0), (1, .int (nI p0)), (3, .int (nI (by2 f p0))), (4, .int (nI p)), (5, .int (nI i))], [.int (nI p), .ref m0, .ref m0], M1)) rfl rfl rfl ?_
          refine pl_call (a := [.ref m0, .int (nI p)]) (rest := [.ref m0]) rfl rfl rfl (rd_u2 (n := n) (f := f) (p := p) hR1 hF1 (by omega)) (fun v32 M33 q34 => ?_)
          obtain ⟨rfl, rfl⟩ := q34
          show pl _ _ _ (113, [(0, .ref m0), (1, .int (nI p0)), (3, .int (nI (by2 f p0))), (4, .int (nI p)), (5, .int (nI i))], [.int (nI (by2 f p)), .ref m0], M1) _
          have hu_110 := by2_lt f p
          refine pl_call (a := [.ref m0, .int (nI (by2 f p))]) (rest := []) rfl rfl rfl (rd_tag (n := n) (f := f) (tx := tx) (cN := cN) (A := A) (N := N) (mj := mj) (E := E) (k := (by2 f p)) hR1 hl51 hl52 hl53 hF1 hY1 hP1 (hEP) (hN) (hmj) (by2_lt _ _)) (fun v35 M36 q37 => ?_)
          obtain ⟨rfl, rfl⟩ := q37
          show pl _ _ _ (116, [(0, .ref m0), (1, .int (nI p0)), (3, .int (nI (by2 f p0))), (4, .int (nI p)), (5, .int (nI i))], [.int (nI (tg f E (by2 f p)))], M1) _
          have htg_113 := tg_lt f E (by2 f p)
          refine ps_st (S' := (118, [(0, .ref m0), (1, .int (nI p0)), (3, .int (nI (by2 f p0))), (4, .int (nI p)), (5, .int (nI i))], [.int 15, .int (nI (tg f E (by2 f p)))], M1)) rfl rfl rfl ?_
          refine ps_if2 (S1 := (124, [(0, .ref m0), (1, .int (nI p0)), (3, .int (nI (by2 f p0))), (4, .int (nI p)), (5, .int (nI i))], [], M1)) (S2 := (121, [(0, .ref m0), (1, .int (nI p0)), (3, .int (nI (by2 f p0))), (4, .int (nI p)), (5, .int (nI i))], [], M1)) rfl rfl rfl (fun c_118 => ?_) (fun c_118 => ?_)
          · have c_118 : (nI (tg f E (by2 f p))) = 15 := of_decide_eq_true c_118
            have n_118 : tg f E (by2 f p) = 15 := (eq_nI (p := tg f E (by2 f p)) (n := 15) (Nat.lt_trans (tg_lt _ _ _) (by decide)) (by decide)).mp c_118
            refine ps_st (S' := (125, [(0, .ref m0), (1, .int (nI p0)), (3, .int (nI (by2 f p0))), (4, .int (nI p)), (5, .int (nI i))], [.int 0], M1)) rfl rfl rfl ?_
            refine ps_st (S' := (127, [(0, .ref m0), (1, .int (nI p0)), (3, .int (nI (by2 f p0))), (4, .int (nI p)), (5, .int (nI i)), (6, .int 0)], [], M1)) rfl rfl rfl ?_
            exact ih.2.2 (i) (p) (0) M1 I1 R1 hR1 hEI1 hER1 hl51 hl52 hl53 hF1 hY1 hP1 (hfe) (by omega) (by omega) (hq8.2.1) (hq8.2.2) (by omega) (hs) (rfl)
          · have c_118 : ¬ ((nI (tg f E (by2 f p))) = 15) := of_decide_eq_false c_118
            have n_118 : ¬ (tg f E (by2 f p) = 15) := fun h9 => c_118 ((eq_nI (p := tg f E (by2 f p)) (n := 15) (Nat.lt_trans (tg_lt _ _ _) (by decide)) (by decide)).mpr h9)
            refine ps_st (S' := (123, [(0, .ref m0), (1, .int (nI p0)), (3, .int (nI (by2 f p0))), (4, .int (nI p)), (5, .int (nI i))], [.int 38], M1)) rfl rfl rfl ?_
            exact ps_ret rfl rfl (Or.inr (Or.inl ⟨I1, R1, hfe, by
                rw [← hs, bsA_st (i := i) (p := p) (by omega), if_pos (by omega)], rfl, hR1, hEI1, hER1⟩))
      · skip
        intro i p j M1 I1 R1 hR1 hEI1 hER1 hl51 hl52 hl53 hF1 hY1 hP1 hfe hi hj hle hf2 h15 hs hd
        have hn := hF1.1
        have hu9 := by2_lt f p0
        have hu8 := by2_lt f (p + 2)
        refine ps_st1 (S' := (129, [(0, .ref m0), (1, .int (nI p0)), (3, .int (nI (by2 f p0))), (4, .int (nI p)), (5, .int (nI i)), (6, .int (nI j))], [.int (nI j)], M1)) rfl rfl rfl ?_
        refine ps_st (S' := (130, [(0, .ref m0), (1, .int (nI p0)), (3, .int (nI (by2 f p0))), (4, .int (nI p)), (5, .int (nI i)), (6, .int (nI j))], [.ref m0, .int (nI j)], M1)) rfl rfl rfl ?_
        refine ps_st (S' := (132, [(0, .ref m0), (1, .int (nI p0)), (3, .int (nI (by2 f p0))), (4, .int (nI p)), (5, .int (nI i)), (6, .int (nI j))], [.int (nI p), .ref m0, .int (nI j)], M1)) rfl rfl rfl ?_
        refine ps_st (S' := (133, [(0, .ref m0), (1, .int (nI p0)), (3, .int (nI (by2 f p0))), (4, .int (nI p)), (5, .int (nI i)), (6, .int (nI j))], [.int 2, .int (nI p), .ref m0, .int (nI j)], M1)) rfl rfl rfl ?_
        refine ps_st (S' := (134, [(0, .ref m0), (1, .int (nI p0)), (3, .int (nI (by2 f p0))), (4, .int (nI p)), (5, .int (nI i)), (6, .int (nI j))], [.int ((nI p) + 2), .ref m0, .int (nI j)], M1)) rfl rfl rfl ?_
        rw [nI_add1 (p := p) (k := 2) (x := 2) rfl (by omega)]
        show pl _ _ _ (_, [(0, .ref m0), (1, .int (nI p0)), (3, .int (nI (by2 f p0))), (4, .int (nI p)), (5, .int (nI i)), (6, .int (nI j))], [.int (nI (p + 2)), .ref m0, .int (nI j)], M1) _
        refine pl_call (a := [.ref m0, .int (nI (p + 2))]) (rest := [.int (nI j)]) rfl rfl rfl (rd_u2 (n := n) (f := f) (p := (p + 2)) hR1 hF1 (by omega)) (fun v38 M39 q40 => ?_)
        obtain ⟨rfl, rfl⟩ := q40
        show pl _ _ _ (137, [(0, .ref m0), (1, .int (nI p0)), (3, .int (nI (by2 f p0))), (4, .int (nI p)), (5, .int (nI i)), (6, .int (nI j))], [.int (nI (by2 f (p + 2))), .int (nI j)], M1) _
        have hu_134 := by2_lt f (p + 2)
        refine ps_if2 (S1 := (195, [(0, .ref m0), (1, .int (nI p0)), (3, .int (nI (by2 f p0))), (4, .int (nI p)), (5, .int (nI i)), (6, .int (nI j))], [], M1)) (S2 := (140, [(0, .ref m0), (1, .int (nI p0)), (3, .int (nI (by2 f p0))), (4, .int (nI p)), (5, .int (nI i)), (6, .int (nI j))], [], M1)) rfl rfl rfl (fun c_137 => ?_) (fun c_137 => ?_)
        · have c_137 : (nI (by2 f (p + 2))) ≤ (nI j) := of_decide_eq_true c_137
          have n_137 : by2 f (p + 2) ≤ j := (le_nI (p := by2 f (p + 2)) (n := j) (Nat.lt_trans (by2_lt _ _) (by decide)) (by omega)).mp c_137
          refine ps_st (S' := (197, [(0, .ref m0), (1, .int (nI p0)), (3, .int (nI (by2 f p0))), (4, .int (nI p)), (5, .int (nI i)), (6, .int (nI j))], [.int (nI p)], M1)) rfl rfl rfl ?_
          refine ps_st (S' := (198, [(0, .ref m0), (1, .int (nI p0)), (3, .int (nI (by2 f p0))), (4, .int (nI p)), (5, .int (nI i)), (6, .int (nI j))], [.int 4, .int (nI p)], M1)) rfl rfl rfl ?_
          refine ps_st (S' := (199, [(0, .ref m0), (1, .int (nI p0)), (3, .int (nI (by2 f p0))), (4, .int (nI p)), (5, .int (nI i)), (6, .int (nI j))], [.int 2, .int 4, .int (nI p)], M1)) rfl rfl rfl ?_
          refine ps_st (S' := (200, [(0, .ref m0), (1, .int (nI p0)), (3, .int (nI (by2 f p0))), (4, .int (nI p)), (5, .int (nI i)), (6, .int (nI j))], [.ref m0, .int 2, .int 4, .int (nI p)], M1)) rfl rfl rfl ?_
          refine ps_st (S' := (202, [(0, .ref m0), (1, .int (nI p0)), (3, .int (nI (by2 f p0))), (4, .int (nI p)), (5, .int (nI i)), (6, .int (nI j))], [.int (nI p), .ref m0, .int 2, .int 4, .int (nI p)], M1)) rfl rfl rfl ?_
          refine ps_st (S' := (203, [(0, .ref m0), (1, .int (nI p0)), (3, .int (nI (by2 f p0))), (4, .int (nI p)), (5, .int (nI i)), (6, .int (nI j))], [.int 2, .int (nI p), .ref m0, .int 2, .int 4, .int (nI p)], M1)) rfl rfl rfl ?_
          refine ps_st (S' := (204, [(0, .ref m0), (1, .int (nI p0)), (3, .int (nI (by2 f p0))), (4, .int (nI p)), (5, .int (nI i)), (6, .int (nI j))], [.int ((nI p) + 2), .ref m0, .int 2, .int 4, .int (nI p)], M1)) rfl rfl rfl ?_
          rw [nI_add1 (p := p) (k := 2) (x := 2) rfl (by omega)]
          show pl _ _ _ (_, [(0, .ref m0), (1, .int (nI p0)), (3, .int (nI (by2 f p0))), (4, .int (nI p)), (5, .int (nI i)), (6, .int (nI j))], [.int (nI (p + 2)), .ref m0, .int 2, .int 4, .int (nI p)], M1) _
          refine pl_call (a := [.ref m0, .int (nI (p + 2))]) (rest := [.int 2, .int 4, .int (nI p)]) rfl rfl rfl (rd_u2 (n := n) (f := f) (p := (p + 2)) hR1 hF1 (by omega)) (fun v41 M42 q43 => ?_)
          obtain ⟨rfl, rfl⟩ := q43
          show pl _ _ _ (207, [(0, .ref m0), (1, .int (nI p0)), (3, .int (nI (by2 f p0))), (4, .int (nI p)), (5, .int (nI i)), (6, .int (nI j))], [.int (nI (by2 f (p + 2))), .int 2, .int 4, .int (nI p)], M1) _
          have hu_204 := by2_lt f (p + 2)
          refine ps_st (S' := (208, [(0, .ref m0), (1, .int (nI p0)), (3, .int (nI (by2 f p0))), (4, .int (nI p)), (5, .int (nI i)), (6, .int (nI j))], [.int (2 * (nI (by2 f (p + 2)))), .int 4, .int (nI p)], M1)) rfl rfl rfl ?_
          rw [nI_mul1 (p := 2) (k := by2 f (p + 2)) (x := 2) (y := (nI (by2 f (p + 2)))) rfl rfl (by omega)]
          show pl _ _ _ (_, [(0, .ref m0), (1, .int (nI p0)), (3, .int (nI (by2 f p0))), (4, .int (nI p)), (5, .int (nI i)), (6, .int (nI j))], [.int (nI (2 * (by2 f (p + 2)))), .int 4, .int (nI p)], M1) _
          refine ps_st (S' := (209, [(0, .ref m0), (1, .int (nI p0)), (3, .int (nI (by2 f p0))), (4, .int (nI p)), (5, .int (nI i)), (6, .int (nI j))], [.int (4 + (nI (2 * (by2 f (p + 2))))), .int (nI p)], M1)) rfl rfl rfl ?_
          rw [nI_add2 (p := 4) (k := 2 * (by2 f (p + 2))) (x := 4) (y := (nI (2 * (by2 f (p + 2))))) rfl rfl (by omega)]
          show pl _ _ _ (_, [(0, .ref m0), (1, .int (nI p0)), (3, .int (nI (by2 f p0))), (4, .int (nI p)), (5, .int (nI i)), (6, .int (nI j))], [.int (nI (4 + 2 * (by2 f (p + 2)))), .int (nI p)], M1) _
          refine ps_st (S' := (210, [(0, .ref m0), (1, .int (nI p0)), (3, .int (nI (by2 f p0))), (4, .int (nI p)), (5, .int (nI i)), (6, .int (nI j))], [.int ((nI p) + (nI (4 + 2 * (by2 f (p + 2)))))], M1)) rfl rfl rfl ?_
          rw [nI_add1 (p := p) (k := 4 + 2 * (by2 f (p + 2))) (x := (nI (4 + 2 * (by2 f (p + 2))))) rfl (by omega)]
          rw [show nI (p + (4 + 2 * (by2 f (p + 2)))) = nI (p + 4 + 2 * (by2 f (p + 2))) from congrArg nI (by omega)]
          show pl _ _ _ (_, [(0, .ref m0), (1, .int (nI p0)), (3, .int (nI (by2 f p0))), (4, .int (nI p)), (5, .int (nI i)), (6, .int (nI j))], [.int (nI (p + 4 + 2 * (by2 f (p + 2))))], M1) _
          refine ps_st (S' := (212, [(4, .int (nI (p + 4 + 2 * (by2 f (p + 2))))), (0, .ref m0), (1, .int (nI p0)), (3, .int (nI (by2 f p0))), (5, .int (nI i)), (6, .int (nI j))], [], M1)) rfl rfl rfl ?_
          refine ps_st (S' := (215, [(5, .int ((nI i) + 1)), (4, .int (nI (p + 4 + 2 * (by2 f (p + 2))))), (0, .ref m0), (1, .int (nI p0)), (3, .int (nI (by2 f p0))), (6, .int (nI j))], [], M1)) rfl rfl rfl ?_
          rw [nI_add1 (p := i) (k := 1) (x := 1) rfl (by omega)]
          show pl _ _ _ (_, [(5, .int (nI (i + 1))), (4, .int (nI (p + 4 + 2 * (by2 f (p + 2))))), (0, .ref m0), (1, .int (nI p0)), (3, .int (nI (by2 f p0))), (6, .int (nI j))], [], M1) _
          refine ps_st (S' := (100, [(0, .ref m0), (1, .int (nI p0)), (3, .int (nI (by2 f p0))), (4, .int (nI (p + 4 + 2 * (by2 f (p + 2))))), (5, .int (nI (i + 1)))], [], M1)) rfl rfl rfl ?_
          exact ih.2.1 (i + 1) (p + 4 + 2 * by2 f (p + 2)) M1 I1 R1 hR1 hEI1 hER1 hl51 hl52 hl53 hF1 hY1 hP1 (hfe) (by omega) (by omega) (hf2) (by
              rw [← hs, bsA_st (i := i) (p := p) hi, if_neg (by omega), if_neg (by rw [← hd, show by2 f (p + 2) - j = 0 by omega]; exact Nat.one_ne_zero)])
        · have c_137 : ¬ ((nI (by2 f (p + 2))) ≤ (nI j)) := of_decide_eq_false c_137
          have n_137 : ¬ (by2 f (p + 2) ≤ j) := fun h9 => c_137 ((le_nI (p := by2 f (p + 2)) (n := j) (Nat.lt_trans (by2_lt _ _) (by decide)) (by omega)).mpr h9)
          refine ps_st (S' := (141, [(0, .ref m0), (1, .int (nI p0)), (3, .int (nI (by2 f p0))), (4, .int (nI p)), (5, .int (nI i)), (6, .int (nI j))], [.ref m0], M1)) rfl rfl rfl ?_
          refine ps_st (S' := (142, [(0, .ref m0), (1, .int (nI p0)), (3, .int (nI (by2 f p0))), (4, .int (nI p)), (5, .int (nI i)), (6, .int (nI j))], [.ref m0, .ref m0], M1)) rfl rfl rfl ?_
          refine ps_st (S' := (144, [(0, .ref m0), (1, .int (nI p0)), (3, .int (nI (by2 f p0))), (4, .int (nI p)), (5, .int (nI i)), (6, .int (nI j))], [.int (nI p), .ref m0, .ref m0], M1)) rfl rfl rfl ?_
          refine ps_st (S' := (145, [(0, .ref m0), (1, .int (nI p0)), (3, .int (nI (by2 f p0))), (4, .int (nI p)), (5, .int (nI i)), (6, .int (nI j))], [.int 4, .int (nI p), .ref m0, .ref m0], M1)) rfl rfl rfl ?_
          refine ps_st (S' := (146, [(0, .ref m0), (1, .int (nI p0)), (3, .int (nI (by2 f p0))), (4, .int (nI p)), (5, .int (nI i)), (6, .int (nI j))], [.int ((nI p) + 4), .ref m0, .ref m0], M1)) rfl rfl rfl ?_
          rw [nI_add1 (p := p) (k := 4) (x := 4) rfl (by omega)]
          show pl _ _ _ (_, [(0, .ref m0), (1, .int (nI p0)), (3, .int (nI (by2 f p0))), (4, .int (nI p)), (5, .int (nI i)), (6, .int (nI j))], [.int (nI (p + 4)), .ref m0, .ref m0], M1) _
          refine ps_st (S' := (147, [(0, .ref m0), (1, .int (nI p0)), (3, .int (nI (by2 f p0))), (4, .int (nI p)), (5, .int (nI i)), (6, .int (nI j))], [.int 2, .int (nI (p + 4)), .ref m0, .ref m0], M1)) rfl rfl rfl ?_
          refine ps_st (S' := (149, [(0, .ref m0), (1, .int (nI p0)), (3, .int (nI (by2 f p0))), (4, .int (nI p)), (5, .int (nI i)), (6, .int (nI j))], [.int (nI j), .int 2, .int (nI (p + 4)), .ref m0, .ref m0], M1)) rfl rfl rfl ?_
          refine ps_st (S' := (150, [(0, .ref m0), (1, .int (nI p0)), (3, .int (nI (by2 f p0))), (4, .int (nI p)), (5, .int (nI i)), (6, .int (nI j))], [.int (2 * (nI j)), .int (nI (p + 4)), .ref m0, .ref m0], M1)) rfl rfl rfl ?_
          rw [nI_mul1 (p := 2) (k := j) (x := 2) (y := (nI j)) rfl rfl (by omega)]
          show pl _ _ _ (_, [(0, .ref m0), (1, .int (nI p0)), (3, .int (nI (by2 f p0))), (4, .int (nI p)), (5, .int (nI i)), (6, .int (nI j))], [.int (nI (2 * j)), .int (nI (p + 4)), .ref m0, .ref m0], M1) _
          refine ps_st (S' := (151, [(0, .ref m0), (1, .int (nI p0)), (3, .int (nI (by2 f p0))), (4, .int (nI p)), (5, .int (nI i)), (6, .int (nI j))], [.int ((nI (p + 4)) + (nI (2 * j))), .ref m0, .ref m0], M1)) rfl rfl rfl ?_
          rw [nI_add1 (p := p + 4) (k := 2 * j) (x := (nI (2 * j))) rfl (by omega)]
          show pl _ _ _ (_, [(0, .ref m0), (1, .int (nI p0)), (3, .int (nI (by2 f p0))), (4, .int (nI p)), (5, .int (nI i)), (6, .int (nI j))], [.int (nI (p + 4 + 2 * j)), .ref m0, .ref m0], M1) _
          refine pl_call (a := [.ref m0, .int (nI (p + 4 + 2 * j))]) (rest := [.ref m0]) rfl rfl rfl (rd_u2 (n := n) (f := f) (p := (p + 4 + 2 * j)) hR1 hF1 (by omega)) (fun v44 M45 q46 => ?_)
          obtain ⟨rfl, rfl⟩ := q46
          show pl _ _ _ (154, [(0, .ref m0), (1, .int (nI p0)), (3, .int (nI (by2 f p0))), (4, .int (nI p)), (5, .int (nI i)), (6, .int (nI j))], [.int (nI (by2 f (p + 4 + 2 * j))), .ref m0], M1) _
          have hu_151 := by2_lt f (p + 4 + 2 * j)
          refine pl_call (a := [.ref m0, .int (nI (by2 f (p + 4 + 2 * j)))]) (rest := []) rfl rfl rfl (rd_tag (n := n) (f := f) (tx := tx) (cN := cN) (A := A) (N := N) (mj := mj) (E := E) (k := (by2 f (p + 4 + 2 * j))) hR1 hl51 hl52 hl53 hF1 hY1 hP1 (hEP) (hN) (hmj) (by2_lt _ _)) (fun v47 M48 q49 => ?_)
          obtain ⟨rfl, rfl⟩ := q49
          show pl _ _ _ (157, [(0, .ref m0), (1, .int (nI p0)), (3, .int (nI (by2 f p0))), (4, .int (nI p)), (5, .int (nI i)), (6, .int (nI j))], [.int (nI (tg f E (by2 f (p + 4 + 2 * j))))], M1) _
          have htg_154 := tg_lt f E (by2 f (p + 4 + 2 * j))
          refine ps_st (S' := (159, [(7, .int (nI (tg f E (by2 f (p + 4 + 2 * j))))), (0, .ref m0), (1, .int (nI p0)), (3, .int (nI (by2 f p0))), (4, .int (nI p)), (5, .int (nI i)), (6, .int (nI j))], [], M1)) rfl rfl rfl ?_
          refine ps_st (S' := (161, [(7, .int (nI (tg f E (by2 f (p + 4 + 2 * j))))), (0, .ref m0), (1, .int (nI p0)), (3, .int (nI (by2 f p0))), (4, .int (nI p)), (5, .int (nI i)), (6, .int (nI j))], [.int (nI (tg f E (by2 f (p + 4 + 2 * j))))], M1)) rfl rfl rfl ?_
          refine ps_st (S' := (162, [(7, .int (nI (tg f E (by2 f (p + 4 + 2 * j))))), (0, .ref m0), (1, .int (nI p0)), (3, .int (nI (by2 f p0))), (4, .int (nI p)), (5, .int (nI i)), (6, .int (nI j))], [.int 3, .int (nI (tg f E (by2 f (p + 4 + 2 * j))))], M1)) rfl rfl rfl ?_
          refine ps_if2 (S1 := (172, [(0, .ref m0), (1, .int (nI p0)), (3, .int (nI (by2 f p0))), (4, .int (nI p)), (5, .int (nI i)), (6, .int (nI j)), (7, .int (nI (tg f E (by2 f (p + 4 + 2 * j)))))], [], M1)) (S2 := (165, [(7, .int (nI (tg f E (by2 f (p + 4 + 2 * j))))), (0, .ref m0), (1, .int (nI p0)), (3, .int (nI (by2 f p0))), (4, .int (nI p)), (5, .int (nI i)), (6, .int (nI j))], [], M1)) rfl rfl rfl (fun c_162 => ?_) (fun c_162 => ?_)
          · have c_162 : (nI (tg f E (by2 f (p + 4 + 2 * j)))) < 3 := of_decide_eq_true c_162
            have n_162 : tg f E (by2 f (p + 4 + 2 * j)) < 3 := (lt_nI (p := tg f E (by2 f (p + 4 + 2 * j))) (n := 3) (Nat.lt_trans (tg_lt _ _ _) (by decide)) (by decide)).mp c_162
            refine ps_st (S' := (174, [(0, .ref m0), (1, .int (nI p0)), (3, .int (nI (by2 f p0))), (4, .int (nI p)), (5, .int (nI i)), (6, .int (nI j)), (7, .int (nI (tg f E (by2 f (p + 4 + 2 * j)))))], [.int (nI (tg f E (by2 f (p + 4 + 2 * j))))], M1)) rfl rfl rfl ?_
            refine ps_st (S' := (176, [(0, .ref m0), (1, .int (nI p0)), (3, .int (nI (by2 f p0))), (4, .int (nI p)), (5, .int (nI i)), (6, .int (nI j)), (7, .int (nI (tg f E (by2 f (p + 4 + 2 * j)))))], [.int 15, .int (nI (tg f E (by2 f (p + 4 + 2 * j))))], M1)) rfl rfl rfl ?_
            refine ps_if2 (S1 := (186, [], [], M1)) (S2 := (179, [(0, .ref m0), (1, .int (nI p0)), (3, .int (nI (by2 f p0))), (4, .int (nI p)), (5, .int (nI i)), (6, .int (nI j)), (7, .int (nI (tg f E (by2 f (p + 4 + 2 * j)))))], [], M1)) rfl rfl rfl (fun c_176 => ?_) (fun c_176 => ?_)
            rotate_left
            · exact absurd ((lt_nI (p := tg f E (by2 f (p + 4 + 2 * j))) (n := 15) (Nat.lt_trans (tg_lt _ _ _) (by decide)) (by decide)).mpr (by omega)) (of_decide_eq_false c_176)
            refine ps_st (S' := (188, [], [.int 38], M1)) rfl rfl rfl ?_
            exact ps_ret rfl rfl (Or.inr (Or.inl ⟨I1, R1, hfe, by
                rw [← hs, bsA_st (i := i) (p := p) hi, if_neg (by omega), if_pos (by rw [← hd, ldA_st (i := j) (by omega), if_pos (by unfold ldN; rw [if_neg (by omega)])])], rfl, hR1, hEI1, hER1⟩))
          · have c_162 : ¬ ((nI (tg f E (by2 f (p + 4 + 2 * j)))) < 3) := of_decide_eq_false c_162
            have n_162 : ¬ (tg f E (by2 f (p + 4 + 2 * j)) < 3) := fun h9 => c_162 ((lt_nI (p := tg f E (by2 f (p + 4 + 2 * j))) (n := 3) (Nat.lt_trans (tg_lt _ _ _) (by decide)) (by decide)).mpr h9)
            refine ps_st (S' := (167, [(7, .int (nI (tg f E (by2 f (p + 4 + 2 * j))))), (0, .ref m0), (1, .int (nI p0)), (3, .int (nI (by2 f p0))), (4, .int (nI p)), (5, .int (nI i)), (6, .int (nI j))], [.int (nI (tg f E (by2 f (p + 4 + 2 * j))))], M1)) rfl rfl rfl ?_
            refine ps_st (S' := (169, [(7, .int (nI (tg f E (by2 f (p + 4 + 2 * j))))), (0, .ref m0), (1, .int (nI p0)), (3, .int (nI (by2 f p0))), (4, .int (nI p)), (5, .int (nI i)), (6, .int (nI j))], [.int 8, .int (nI (tg f E (by2 f (p + 4 + 2 * j))))], M1)) rfl rfl rfl ?_
            refine ps_if2 (S1 := (189, [(0, .ref m0), (1, .int (nI p0)), (3, .int (nI (by2 f p0))), (4, .int (nI p)), (5, .int (nI i)), (6, .int (nI j))], [], M1)) (S2 := (172, [(0, .ref m0), (1, .int (nI p0)), (3, .int (nI (by2 f p0))), (4, .int (nI p)), (5, .int (nI i)), (6, .int (nI j)), (7, .int (nI (tg f E (by2 f (p + 4 + 2 * j)))))], [], M1)) rfl rfl rfl (fun c_169 => ?_) (fun c_169 => ?_)
            · have c_169 : (nI (tg f E (by2 f (p + 4 + 2 * j)))) ≤ 8 := of_decide_eq_true c_169
              have n_169 : tg f E (by2 f (p + 4 + 2 * j)) ≤ 8 := (le_nI (p := tg f E (by2 f (p + 4 + 2 * j))) (n := 8) (Nat.lt_trans (tg_lt _ _ _) (by decide)) (by decide)).mp c_169
              refine ps_st (S' := (192, [(6, .int ((nI j) + 1)), (0, .ref m0), (1, .int (nI p0)), (3, .int (nI (by2 f p0))), (4, .int (nI p)), (5, .int (nI i))], [], M1)) rfl rfl rfl ?_
              rw [nI_add1 (p := j) (k := 1) (x := 1) rfl (by omega)]
              show pl _ _ _ (_, [(6, .int (nI (j + 1))), (0, .ref m0), (1, .int (nI p0)), (3, .int (nI (by2 f p0))), (4, .int (nI p)), (5, .int (nI i))], [], M1) _
              refine ps_st (S' := (127, [(0, .ref m0), (1, .int (nI p0)), (3, .int (nI (by2 f p0))), (4, .int (nI p)), (5, .int (nI i)), (6, .int (nI (j + 1)))], [], M1)) rfl rfl rfl ?_
              exact ih.2.2 (i) (p) (j + 1) M1 I1 R1 hR1 hEI1 hER1 hl51 hl52 hl53 hF1 hY1 hP1 (hfe) (hi) (by omega) (hle) (hf2) (h15) (hs) (by
                  rw [← hd, ldA_st (i := j) (by omega), if_neg (by unfold ldN; rw [if_pos (by omega)]; decide)]
                  rfl)
            · have c_169 : ¬ ((nI (tg f E (by2 f (p + 4 + 2 * j)))) ≤ 8) := of_decide_eq_false c_169
              have n_169 : ¬ (tg f E (by2 f (p + 4 + 2 * j)) ≤ 8) := fun h9 => c_169 ((le_nI (p := tg f E (by2 f (p + 4 + 2 * j))) (n := 8) (Nat.lt_trans (tg_lt _ _ _) (by decide)) (by decide)).mpr h9)
              refine ps_st (S' := (174, [(0, .ref m0), (1, .int (nI p0)), (3, .int (nI (by2 f p0))), (4, .int (nI p)), (5, .int (nI i)), (6, .int (nI j)), (7, .int (nI (tg f E (by2 f (p + 4 + 2 * j)))))], [.int (nI (tg f E (by2 f (p + 4 + 2 * j))))], M1)) rfl rfl rfl ?_
              refine ps_st (S' := (176, [(0, .ref m0), (1, .int (nI p0)), (3, .int (nI (by2 f p0))), (4, .int (nI p)), (5, .int (nI i)), (6, .int (nI j)), (7, .int (nI (tg f E (by2 f (p + 4 + 2 * j)))))], [.int 15, .int (nI (tg f E (by2 f (p + 4 + 2 * j))))], M1)) rfl rfl rfl ?_
              refine ps_if2 (S1 := (186, [], [], M1)) (S2 := (179, [(0, .ref m0), (1, .int (nI p0)), (3, .int (nI (by2 f p0))), (4, .int (nI p)), (5, .int (nI i)), (6, .int (nI j)), (7, .int (nI (tg f E (by2 f (p + 4 + 2 * j)))))], [], M1)) rfl rfl rfl (fun c_176 => ?_) (fun c_176 => ?_)
              · have c_176 : (nI (tg f E (by2 f (p + 4 + 2 * j)))) < 15 := of_decide_eq_true c_176
                have n_176 : tg f E (by2 f (p + 4 + 2 * j)) < 15 := (lt_nI (p := tg f E (by2 f (p + 4 + 2 * j))) (n := 15) (Nat.lt_trans (tg_lt _ _ _) (by decide)) (by decide)).mp c_176
                refine ps_st (S' := (188, [], [.int 38], M1)) rfl rfl rfl ?_
                exact ps_ret rfl rfl (Or.inr (Or.inl ⟨I1, R1, hfe, by
                    rw [← hs, bsA_st (i := i) (p := p) hi, if_neg (by omega), if_pos (by rw [← hd, ldA_st (i := j) (by omega), if_pos (by unfold ldN; rw [if_neg (by omega)])])], rfl, hR1, hEI1, hER1⟩))
              · have c_176 : ¬ ((nI (tg f E (by2 f (p + 4 + 2 * j)))) < 15) := of_decide_eq_false c_176
                have n_176 : ¬ (tg f E (by2 f (p + 4 + 2 * j)) < 15) := fun h9 => c_176 ((lt_nI (p := tg f E (by2 f (p + 4 + 2 * j))) (n := 15) (Nat.lt_trans (tg_lt _ _ _) (by decide)) (by decide)).mpr h9)
                refine ps_st (S' := (181, [(0, .ref m0), (1, .int (nI p0)), (3, .int (nI (by2 f p0))), (4, .int (nI p)), (5, .int (nI i)), (6, .int (nI j)), (7, .int (nI (tg f E (by2 f (p + 4 + 2 * j)))))], [.int (nI (tg f E (by2 f (p + 4 + 2 * j))))], M1)) rfl rfl rfl ?_
                refine ps_st (S' := (183, [(0, .ref m0), (1, .int (nI p0)), (3, .int (nI (by2 f p0))), (4, .int (nI p)), (5, .int (nI i)), (6, .int (nI j)), (7, .int (nI (tg f E (by2 f (p + 4 + 2 * j)))))], [.int 17, .int (nI (tg f E (by2 f (p + 4 + 2 * j))))], M1)) rfl rfl rfl ?_
                refine ps_if2 (S1 := (189, [(0, .ref m0), (1, .int (nI p0)), (3, .int (nI (by2 f p0))), (4, .int (nI p)), (5, .int (nI i)), (6, .int (nI j))], [], M1)) (S2 := (186, [], [], M1)) rfl rfl rfl (fun c_183 => ?_) (fun c_183 => ?_)
                · have c_183 : (nI (tg f E (by2 f (p + 4 + 2 * j)))) ≤ 17 := of_decide_eq_true c_183
                  have n_183 : tg f E (by2 f (p + 4 + 2 * j)) ≤ 17 := (le_nI (p := tg f E (by2 f (p + 4 + 2 * j))) (n := 17) (Nat.lt_trans (tg_lt _ _ _) (by decide)) (by decide)).mp c_183
                  refine ps_st (S' := (192, [(6, .int ((nI j) + 1)), (0, .ref m0), (1, .int (nI p0)), (3, .int (nI (by2 f p0))), (4, .int (nI p)), (5, .int (nI i))], [], M1)) rfl rfl rfl ?_
                  rw [nI_add1 (p := j) (k := 1) (x := 1) rfl (by omega)]
                  show pl _ _ _ (_, [(6, .int (nI (j + 1))), (0, .ref m0), (1, .int (nI p0)), (3, .int (nI (by2 f p0))), (4, .int (nI p)), (5, .int (nI i))], [], M1) _
                  refine ps_st (S' := (127, [(0, .ref m0), (1, .int (nI p0)), (3, .int (nI (by2 f p0))), (4, .int (nI p)), (5, .int (nI i)), (6, .int (nI (j + 1)))], [], M1)) rfl rfl rfl ?_
                  exact ih.2.2 (i) (p) (j + 1) M1 I1 R1 hR1 hEI1 hER1 hl51 hl52 hl53 hF1 hY1 hP1 (hfe) (hi) (by omega) (hle) (hf2) (h15) (hs) (by
                      rw [← hd, ldA_st (i := j) (by omega), if_neg (by unfold ldN; rw [if_pos (by omega)]; decide)]
                      rfl)
                · have c_183 : ¬ ((nI (tg f E (by2 f (p + 4 + 2 * j)))) ≤ 17) := of_decide_eq_false c_183
                  have n_183 : ¬ (tg f E (by2 f (p + 4 + 2 * j)) ≤ 17) := fun h9 => c_183 ((le_nI (p := tg f E (by2 f (p + 4 + 2 * j))) (n := 17) (Nat.lt_trans (tg_lt _ _ _) (by decide)) (by decide)).mpr h9)
                  refine ps_st (S' := (188, [], [.int 38], M1)) rfl rfl rfl ?_
                  exact ps_ret rfl rfl (Or.inr (Or.inl ⟨I1, R1, hfe, by
                      rw [← hs, bsA_st (i := i) (p := p) hi, if_neg (by omega), if_pos (by rw [← hd, ldA_st (i := j) (by omega), if_pos (by unfold ldN; rw [if_neg (by omega)])])], rfl, hR1, hEI1, hER1⟩))
  refine ps_st (S' := (1, [(0, .ref m0), (1, .int (nI p0)), (2, .int (nI e))], [.int (nI e)], M)) rfl rfl rfl ?_
  refine ps_st (S' := (2, [(0, .ref m0), (1, .int (nI p0)), (2, .int (nI e))], [.int (nI p0), .int (nI e)], M)) rfl rfl rfl ?_
  refine ps_st (S' := (3, [(0, .ref m0), (1, .int (nI p0)), (2, .int (nI e))], [.int ((nI e) - (nI p0))], M)) rfl rfl rfl ?_
  refine ps_st (S' := (4, [(0, .ref m0), (1, .int (nI p0)), (2, .int (nI e))], [.int 2, .int ((nI e) - (nI p0))], M)) rfl rfl rfl ?_
  refine ps_if2 (S1 := (10, [(0, .ref m0), (1, .int (nI p0)), (2, .int (nI e))], [], M)) (S2 := (7, [(0, .ref m0), (1, .int (nI p0)), (2, .int (nI e))], [], M)) rfl rfl rfl (fun c_4 => ?_) (fun c_4 => ?_)
  · have c_4 : 2 ≤ ((nI e) - (nI p0)) := of_decide_eq_true c_4
    have n_4 : 2 + p0 ≤ e := (le_sub1 (e := e) (p := p0) (k := 2) (by omega) (by omega) (by omega)).mp c_4
    refine ps_st (S' := (11, [(0, .ref m0), (1, .int (nI p0)), (2, .int (nI e))], [.ref m0], M)) rfl rfl rfl ?_
    refine ps_st (S' := (12, [(0, .ref m0), (1, .int (nI p0)), (2, .int (nI e))], [.int (nI p0), .ref m0], M)) rfl rfl rfl ?_
    refine pl_call (a := [.ref m0, .int (nI p0)]) (rest := []) rfl rfl rfl (rd_u2 (n := n) (f := f) (p := p0) hR hF (by omega)) (fun v50 M51 q52 => ?_)
    obtain ⟨rfl, rfl⟩ := q52
    show pl _ _ _ (15, [(0, .ref m0), (1, .int (nI p0)), (2, .int (nI e))], [.int (nI (by2 f p0))], M) _
    have hu_12 := by2_lt f p0
    refine ps_st (S' := (16, [(3, .int (nI (by2 f p0))), (0, .ref m0), (1, .int (nI p0)), (2, .int (nI e))], [], M)) rfl rfl rfl ?_
    refine ps_st (S' := (17, [(3, .int (nI (by2 f p0))), (0, .ref m0), (1, .int (nI p0)), (2, .int (nI e))], [.int (nI p0)], M)) rfl rfl rfl ?_
    refine ps_st (S' := (18, [(3, .int (nI (by2 f p0))), (0, .ref m0), (1, .int (nI p0)), (2, .int (nI e))], [.int 2, .int (nI p0)], M)) rfl rfl rfl ?_
    refine ps_st (S' := (19, [(3, .int (nI (by2 f p0))), (0, .ref m0), (1, .int (nI p0)), (2, .int (nI e))], [.int ((nI p0) + 2)], M)) rfl rfl rfl ?_
    rw [nI_add1 (p := p0) (k := 2) (x := 2) rfl (by omega)]
    show pl _ _ _ (_, [(3, .int (nI (by2 f p0))), (0, .ref m0), (1, .int (nI p0)), (2, .int (nI e))], [.int (nI (p0 + 2))], M) _
    refine ps_st (S' := (21, [(4, .int (nI (p0 + 2))), (3, .int (nI (by2 f p0))), (0, .ref m0), (1, .int (nI p0)), (2, .int (nI e))], [], M)) rfl rfl rfl ?_
    refine ps_st (S' := (22, [(4, .int (nI (p0 + 2))), (3, .int (nI (by2 f p0))), (0, .ref m0), (1, .int (nI p0)), (2, .int (nI e))], [.int 0], M)) rfl rfl rfl ?_
    refine ps_st (S' := (24, [(0, .ref m0), (1, .int (nI p0)), (2, .int (nI e)), (3, .int (nI (by2 f p0))), (4, .int (nI (p0 + 2))), (5, .int 0)], [], M)) rfl rfl rfl ?_
    exact (LL kf).1 (0) (p0 + 2) M I R hR hEI hER hi51 hi52 hi53 hF hY hP (by omega) (by omega) (by omega) (rfl)
  · have c_4 : ¬ (2 ≤ ((nI e) - (nI p0))) := of_decide_eq_false c_4
    have n_4 : ¬ (2 + p0 ≤ e) := fun h8 => c_4 ((le_sub1 (e := e) (p := p0) (k := 2) (by omega) (by omega) (by omega)).mpr h8)
    refine ps_st (S' := (9, [(0, .ref m0), (1, .int (nI p0)), (2, .int (nI e))], [.int 30], M)) rfl rfl rfl ?_
    exact ps_ret rfl rfl (Or.inl ⟨I, R, fe_2 (by omega), rfl, hR, hEI, hER⟩)
set_option maxHeartbeats 4000000 in
theorem rd_components {g : xe_G} {m0 : Nat} {q : Nat → Nat} {z : Nat × Nat} {I : rI} {R : rR} {M : mi_H} {n : Nat} {f : Nat → Int32} {tx : List (List Nat)} {cN : Nat} {A : Nat → Nat} {N mj : Nat} {E : List (Nat × Nat)} {p0 e t : Nat} (hR : RS g m0 q z I R M) (hi51 : I 51 = some 0) (hi52 : I 52 = some (nI N)) (hi53 : I 53 = some (nI mj)) (hF : FK n f I R) (hY : SYT tx cN A I R) (hP : RPV f n E tx N I R) (hEP : EP f n E) (hN : N < 65536) (hmj : mj < 65536) (he : p0 ≤ e ∧ e ≤ n) : pt (mT g) 197 [.ref m0, .int (nI p0), .int (nI e)] M (fun v M' => (∃  (I' : rI) (R' : rR), (¬ s_fe f 9 p0 e = some e) ∧ v = some (.int 30) ∧ RS g m0 q z I' R' M' ∧ eqI [47, 48, 72] I I' ∧ eqR [] R R') ∨ (∃  (I' : rI) (R' : rR), (s_fe f 9 p0 e = some e) ∧ (rcS f n E t (by2 f p0) (p0 + 2) = some (37, t)) ∧ v = some (.int 37) ∧ RS g m0 q z I' R' M' ∧ eqI [47, 48, 72] I I' ∧ eqR [] R R') ∨ (∃ (y : Nat) (I' : rI) (R' : rR), (s_fe f 9 p0 e = some e) ∧ (rcS f n E t (by2 f p0) (p0 + 2) = some (28, y)) ∧ v = some (.int (-1)) ∧ RS g m0 q z I' R' M' ∧ eqI [47, 48, 72] I I' ∧ eqR [] R R' ∧ I' 47 = some 28 ∧ I' 48 = some (nI y)) ∨ (∃  (I' : rI) (R' : rR), (s_fe f 9 p0 e = some e) ∧ (rcS f n E t (by2 f p0) (p0 + 2) = none) ∧ v = some (.int 0) ∧ RS g m0 q z I' R' M' ∧ eqI [47, 48, 72] I I' ∧ eqR [] R R')) := by
  refine pt_in (b := mb_197 g) rfl (fun kf => ?_)
  show pl (mT g) kf (mb_197 g).2 (0, [(0, .ref m0), (1, .int (nI p0)), (2, .int (nI e))], [], M) _
  have hEI : eqI [47, 48, 72] I I := eqI.rf
  have hER : eqR [] R R := eqR.rf
  have hn := hF.1
  have LL : ∀ (kf : Nat), (∀ (i p : Nat) (M1 : mi_H) (I1 : rI) (R1 : rR), (RS g m0 q z I1 R1 M1) → (eqI [47, 48, 72] I I1) → (eqR [] R R1) → (I1 51 = some 0) → (I1 52 = some (nI N)) → (I1 53 = some (nI mj)) → (FK n f I1 R1) → (SYT tx cN A I1 R1) → (RPV f n E tx N I1 R1) → (p0 + 2 ≤ e) → (i ≤ by2 f p0) → (p0 + 2 ≤ p ∧ p ≤ e) → (s_rcE f e (by2 f p0 - i) p = s_rcE f e (by2 f p0) (p0 + 2)) →  pl (mT g) kf (mb_197 g).2 (24, [(0, .ref m0), (1, .int (nI p0)), (2, .int (nI e)), (3, .int (nI (by2 f p0))), (4, .int (nI p)), (5, .int (nI i))], [], M1) (fun v M' => (∃  (I' : rI) (R' : rR), (¬ s_fe f 9 p0 e = some e) ∧ v = some (.int 30) ∧ RS g m0 q z I' R' M' ∧ eqI [47, 48, 72] I I' ∧ eqR [] R R') ∨ (∃  (I' : rI) (R' : rR), (s_fe f 9 p0 e = some e) ∧ (rcS f n E t (by2 f p0) (p0 + 2) = some (37, t)) ∧ v = some (.int 37) ∧ RS g m0 q z I' R' M' ∧ eqI [47, 48, 72] I I' ∧ eqR [] R R') ∨ (∃ (y : Nat) (I' : rI) (R' : rR), (s_fe f 9 p0 e = some e) ∧ (rcS f n E t (by2 f p0) (p0 + 2) = some (28, y)) ∧ v = some (.int (-1)) ∧ RS g m0 q z I' R' M' ∧ eqI [47, 48, 72] I I' ∧ eqR [] R R' ∧ I' 47 = some 28 ∧ I' 48 = some (nI y)) ∨ (∃  (I' : rI) (R' : rR), (s_fe f 9 p0 e = some e) ∧ (rcS f n E t (by2 f p0) (p0 + 2) = none) ∧ v = some (.int 0) ∧ RS g m0 q z I' R' M' ∧ eqI [47, 48, 72] I I' ∧ eqR [] R R'))) ∧ (∀ (i p j y : Nat) (M1 : mi_H) (I1 : rI) (R1 : rR), (RS g m0 q z I1 R1 M1) → (eqI [47, 48, 72] I I1) → (eqR [] R R1) → (I1 51 = some 0) → (I1 52 = some (nI N)) → (I1 53 = some (nI mj)) → (FK n f I1 R1) → (SYT tx cN A I1 R1) → (RPV f n E tx N I1 R1) → (p0 + 2 ≤ e) → (i < by2 f p0) → (j ≤ by2 f (p + 4)) → (p0 + 2 ≤ p ∧ p + 6 ≤ y ∧ y ≤ e) → (s_rcE f e (by2 f p0 - i) p = s_rcE f e (by2 f p0) (p0 + 2)) → (s_atE f e (by2 f (p + 4) - j) y = s_atE f e (by2 f (p + 4)) (p + 6)) →  pl (mT g) kf (mb_197 g).2 (58, [(0, .ref m0), (1, .int (nI p0)), (2, .int (nI e)), (3, .int (nI (by2 f p0))), (4, .int (nI y)), (5, .int (nI i)), (6, .int (nI (by2 f (p + 4)))), (7, .int (nI j))], [], M1) (fun v M' => (∃  (I' : rI) (R' : rR), (¬ s_fe f 9 p0 e = some e) ∧ v = some (.int 30) ∧ RS g m0 q z I' R' M' ∧ eqI [47, 48, 72] I I' ∧ eqR [] R R') ∨ (∃  (I' : rI) (R' : rR), (s_fe f 9 p0 e = some e) ∧ (rcS f n E t (by2 f p0) (p0 + 2) = some (37, t)) ∧ v = some (.int 37) ∧ RS g m0 q z I' R' M' ∧ eqI [47, 48, 72] I I' ∧ eqR [] R R') ∨ (∃ (y : Nat) (I' : rI) (R' : rR), (s_fe f 9 p0 e = some e) ∧ (rcS f n E t (by2 f p0) (p0 + 2) = some (28, y)) ∧ v = some (.int (-1)) ∧ RS g m0 q z I' R' M' ∧ eqI [47, 48, 72] I I' ∧ eqR [] R R' ∧ I' 47 = some 28 ∧ I' 48 = some (nI y)) ∨ (∃  (I' : rI) (R' : rR), (s_fe f 9 p0 e = some e) ∧ (rcS f n E t (by2 f p0) (p0 + 2) = none) ∧ v = some (.int 0) ∧ RS g m0 q z I' R' M' ∧ eqI [47, 48, 72] I I' ∧ eqR [] R R'))) ∧ (∀ (i p : Nat) (M1 : mi_H) (I1 : rI) (R1 : rR), (RS g m0 q z I1 R1 M1) → (eqI [47, 48, 72] I I1) → (eqR [] R R1) → (I1 51 = some 0) → (I1 52 = some (nI N)) → (I1 53 = some (nI mj)) → (FK n f I1 R1) → (SYT tx cN A I1 R1) → (RPV f n E tx N I1 R1) → (s_fe f 9 p0 e = some e) → (i ≤ by2 f p0) → (s_rcE f e (by2 f p0 - i) p = some e) → (rcS f n E t (by2 f p0 - i) p = rcS f n E t (by2 f p0) (p0 + 2)) →  pl (mT g) kf (mb_197 g).2 (143, [(0, .ref m0), (3, .int (nI (by2 f p0))), (4, .int (nI p)), (5, .int (nI i))], [], M1) (fun v M' => (∃  (I' : rI) (R' : rR), (¬ s_fe f 9 p0 e = some e) ∧ v = some (.int 30) ∧ RS g m0 q z I' R' M' ∧ eqI [47, 48, 72] I I' ∧ eqR [] R R') ∨ (∃  (I' : rI) (R' : rR), (s_fe f 9 p0 e = some e) ∧ (rcS f n E t (by2 f p0) (p0 + 2) = some (37, t)) ∧ v = some (.int 37) ∧ RS g m0 q z I' R' M' ∧ eqI [47, 48, 72] I I' ∧ eqR [] R R') ∨ (∃ (y : Nat) (I' : rI) (R' : rR), (s_fe f 9 p0 e = some e) ∧ (rcS f n E t (by2 f p0) (p0 + 2) = some (28, y)) ∧ v = some (.int (-1)) ∧ RS g m0 q z I' R' M' ∧ eqI [47, 48, 72] I I' ∧ eqR [] R R' ∧ I' 47 = some 28 ∧ I' 48 = some (nI y)) ∨ (∃  (I' : rI) (R' : rR), (s_fe f 9 p0 e = some e) ∧ (rcS f n E t (by2 f p0) (p0 + 2) = none) ∧ v = some (.int 0) ∧ RS g m0 q z I' R' M' ∧ eqI [47, 48, 72] I I' ∧ eqR [] R R'))) ∧ (∀ (i p j y x9 : Nat) (M1 : mi_H) (I1 : rI) (R1 : rR), (RS g m0 q z I1 R1 M1) → (eqI [47, 48, 72] I I1) → (eqR [] R R1) → (I1 51 = some 0) → (I1 52 = some (nI N)) → (I1 53 = some (nI mj)) → (FK n f I1 R1) → (SYT tx cN A I1 R1) → (RPV f n E tx N I1 R1) → (s_fe f 9 p0 e = some e) → (i < by2 f p0) → (j ≤ by2 f (p + 4)) → (s_atE f e (by2 f (p + 4) - j) y = some x9) → (s_rcE f e (by2 f p0 - (i + 1)) x9 = some e) → (¬ (unqN (tX f n E (by2 f p)) = 0 ∨ fldN (tX f n E (by2 f (p + 2))) = 0)) → (rcS f n E t (by2 f p0 - i) p = rcS f n E t (by2 f p0) (p0 + 2)) → (rcA f E (by2 f (p + 4) - j) y = rcA f E (by2 f (p + 4)) (p + 6)) →  pl (mT g) kf (mb_197 g).2 (235, [(0, .ref m0), (3, .int (nI (by2 f p0))), (4, .int (nI y)), (5, .int (nI i)), (6, .int (nI (by2 f (p + 4)))), (7, .int (nI j))], [], M1) (fun v M' => (∃  (I' : rI) (R' : rR), (¬ s_fe f 9 p0 e = some e) ∧ v = some (.int 30) ∧ RS g m0 q z I' R' M' ∧ eqI [47, 48, 72] I I' ∧ eqR [] R R') ∨ (∃  (I' : rI) (R' : rR), (s_fe f 9 p0 e = some e) ∧ (rcS f n E t (by2 f p0) (p0 + 2) = some (37, t)) ∧ v = some (.int 37) ∧ RS g m0 q z I' R' M' ∧ eqI [47, 48, 72] I I' ∧ eqR [] R R') ∨ (∃ (y : Nat) (I' : rI) (R' : rR), (s_fe f 9 p0 e = some e) ∧ (rcS f n E t (by2 f p0) (p0 + 2) = some (28, y)) ∧ v = some (.int (-1)) ∧ RS g m0 q z I' R' M' ∧ eqI [47, 48, 72] I I' ∧ eqR [] R R' ∧ I' 47 = some 28 ∧ I' 48 = some (nI y)) ∨ (∃  (I' : rI) (R' : rR), (s_fe f 9 p0 e = some e) ∧ (rcS f n E t (by2 f p0) (p0 + 2) = none) ∧ v = some (.int 0) ∧ RS g m0 q z I' R' M' ∧ eqI [47, 48, 72] I I' ∧ eqR [] R R'))) := by
    intro kf
    induction kf with
    | zero => exact ⟨by intros; exact pl_0, by intros; exact pl_0, by intros; exact pl_0, by intros; exact pl_0⟩
    | succ kf ih =>
      refine ⟨?_, ?_, ?_, ?_⟩
      · skip
        intro i p M1 I1 R1 hR1 hEI1 hER1 hl51 hl52 hl53 hF1 hY1 hP1 h2 hi hp hs
        have hn := hF1.1
        have hu9 := by2_lt f p0
        refine ps_st1 (S' := (26, [(0, .ref m0), (1, .int (nI p0)), (2, .int (nI e)), (3, .int (nI (by2 f p0))), (4, .int (nI p)), (5, .int (nI i))], [.int (nI i)], M1)) rfl rfl rfl ?_
        refine ps_st (S' := (27, [(0, .ref m0), (1, .int (nI p0)), (2, .int (nI e)), (3, .int (nI (by2 f p0))), (4, .int (nI p)), (5, .int (nI i))], [.int (nI (by2 f p0)), .int (nI i)], M1)) rfl rfl rfl ?_
        refine ps_if2 (S1 := (126, [(0, .ref m0), (1, .int (nI p0)), (2, .int (nI e)), (3, .int (nI (by2 f p0))), (4, .int (nI p)), (5, .int (nI i))], [], M1)) (S2 := (30, [(0, .ref m0), (1, .int (nI p0)), (2, .int (nI e)), (3, .int (nI (by2 f p0))), (4, .int (nI p)), (5, .int (nI i))], [], M1)) rfl rfl rfl (fun c_27 => ?_) (fun c_27 => ?_)
        · have c_27 : (nI (by2 f p0)) ≤ (nI i) := of_decide_eq_true c_27
          have n_27 : by2 f p0 ≤ i := (le_nI (p := by2 f p0) (n := i) (Nat.lt_trans (by2_lt _ _) (by decide)) (by omega)).mp c_27
          refine ps_st (S' := (128, [(0, .ref m0), (1, .int (nI p0)), (2, .int (nI e)), (3, .int (nI (by2 f p0))), (4, .int (nI p)), (5, .int (nI i))], [.int (nI p)], M1)) rfl rfl rfl ?_
          refine ps_st (S' := (129, [(0, .ref m0), (1, .int (nI p0)), (2, .int (nI e)), (3, .int (nI (by2 f p0))), (4, .int (nI p)), (5, .int (nI i))], [.int (nI e), .int (nI p)], M1)) rfl rfl rfl ?_
          refine ps_if2 (S1 := (135, [(0, .ref m0), (1, .int (nI p0)), (2, .int (nI e)), (3, .int (nI (by2 f p0))), (4, .int (nI p)), (5, .int (nI i))], [], M1)) (S2 := (132, [(0, .ref m0), (1, .int (nI p0)), (2, .int (nI e)), (3, .int (nI (by2 f p0))), (4, .int (nI p)), (5, .int (nI i))], [], M1)) rfl rfl rfl (fun c_129 => ?_) (fun c_129 => ?_)
          · have c_129 : (nI p) = (nI e) := of_decide_eq_true c_129
            have n_129 : p = e := (eq_nI (p := p) (n := e) (by omega) (by omega)).mp c_129
            refine ps_st (S' := (136, [(0, .ref m0), (1, .int (nI p0)), (2, .int (nI e)), (3, .int (nI (by2 f p0))), (4, .int (nI p)), (5, .int (nI i))], [.int (nI p0)], M1)) rfl rfl rfl ?_
            refine ps_st (S' := (137, [(0, .ref m0), (1, .int (nI p0)), (2, .int (nI e)), (3, .int (nI (by2 f p0))), (4, .int (nI p)), (5, .int (nI i))], [.int 2, .int (nI p0)], M1)) rfl rfl rfl ?_
            refine ps_st (S' := (138, [(0, .ref m0), (1, .int (nI p0)), (2, .int (nI e)), (3, .int (nI (by2 f p0))), (4, .int (nI p)), (5, .int (nI i))], [.int ((nI p0) + 2)], M1)) rfl rfl rfl ?_
            rw [nI_add1 (p := p0) (k := 2) (x := 2) rfl (by omega)]
            show pl _ _ _ (_, [(0, .ref m0), (1, .int (nI p0)), (2, .int (nI e)), (3, .int (nI (by2 f p0))), (4, .int (nI p)), (5, .int (nI i))], [.int (nI (p0 + 2))], M1) _
            refine ps_st (S' := (140, [(4, .int (nI (p0 + 2))), (0, .ref m0), (1, .int (nI p0)), (2, .int (nI e)), (3, .int (nI (by2 f p0))), (5, .int (nI i))], [], M1)) rfl rfl rfl ?_
            refine ps_st (S' := (141, [(4, .int (nI (p0 + 2))), (0, .ref m0), (1, .int (nI p0)), (2, .int (nI e)), (3, .int (nI (by2 f p0))), (5, .int (nI i))], [.int 0], M1)) rfl rfl rfl ?_
            refine ps_st (S' := (143, [(0, .ref m0), (3, .int (nI (by2 f p0))), (4, .int (nI (p0 + 2))), (5, .int 0)], [], M1)) rfl rfl rfl ?_
            exact ih.2.2.1 (0) (p0 + 2) M1 I1 R1 hR1 hEI1 hER1 hl51 hl52 hl53 hF1 hY1 hP1 (by
                rw [fe_9 h2, ← hs, show by2 f p0 - i = 0 by omega, show p = e by omega]
                rfl) (by omega) (by
                rw [show by2 f p0 - 0 = by2 f p0 from rfl, ← hs, show by2 f p0 - i = 0 by omega, show p = e by omega]
                rfl) (rfl)
          · have c_129 : ¬ ((nI p) = (nI e)) := of_decide_eq_false c_129
            have n_129 : ¬ (p = e) := fun h9 => c_129 ((eq_nI (p := p) (n := e) (by omega) (by omega)).mpr h9)
            refine ps_st (S' := (134, [(0, .ref m0), (1, .int (nI p0)), (2, .int (nI e)), (3, .int (nI (by2 f p0))), (4, .int (nI p)), (5, .int (nI i))], [.int 30], M1)) rfl rfl rfl ?_
            exact ps_ret rfl rfl (Or.inl ⟨I1, R1, by
                rw [fe_9 h2, ← hs, show by2 f p0 - i = 0 by omega]
                exact fun h9 => n_129 (Option.some.inj h9), rfl, hR1, hEI1, hER1⟩)
        · have c_27 : ¬ ((nI (by2 f p0)) ≤ (nI i)) := of_decide_eq_false c_27
          have n_27 : ¬ (by2 f p0 ≤ i) := fun h9 => c_27 ((le_nI (p := by2 f p0) (n := i) (Nat.lt_trans (by2_lt _ _) (by decide)) (by omega)).mpr h9)
          refine ps_st (S' := (32, [(0, .ref m0), (1, .int (nI p0)), (2, .int (nI e)), (3, .int (nI (by2 f p0))), (4, .int (nI p)), (5, .int (nI i))], [.int (nI p)], M1)) rfl rfl rfl ?_
          refine ps_st (S' := (34, [(0, .ref m0), (1, .int (nI p0)), (2, .int (nI e)), (3, .int (nI (by2 f p0))), (4, .int (nI p)), (5, .int (nI i))], [.int 6, .int (nI p)], M1)) rfl rfl rfl ?_
          refine ps_st (S' := (35, [(0, .ref m0), (1, .int (nI p0)), (2, .int (nI e)), (3, .int (nI (by2 f p0))), (4, .int (nI p)), (5, .int (nI i))], [.int ((nI p) + 6)], M1)) rfl rfl rfl ?_
          rw [nI_add1 (p := p) (k := 6) (x := 6) rfl (by omega)]
          show pl _ _ _ (_, [(0, .ref m0), (1, .int (nI p0)), (2, .int (nI e)), (3, .int (nI (by2 f p0))), (4, .int (nI p)), (5, .int (nI i))], [.int (nI (p + 6))], M1) _
          refine ps_st (S' := (36, [(0, .ref m0), (1, .int (nI p0)), (2, .int (nI e)), (3, .int (nI (by2 f p0))), (4, .int (nI p)), (5, .int (nI i))], [.int (nI e), .int (nI (p + 6))], M1)) rfl rfl rfl ?_
          refine ps_if2 (S1 := (42, [(0, .ref m0), (1, .int (nI p0)), (2, .int (nI e)), (3, .int (nI (by2 f p0))), (4, .int (nI p)), (5, .int (nI i))], [], M1)) (S2 := (39, [(0, .ref m0), (1, .int (nI p0)), (2, .int (nI e)), (3, .int (nI (by2 f p0))), (4, .int (nI p)), (5, .int (nI i))], [], M1)) rfl rfl rfl (fun c_36 => ?_) (fun c_36 => ?_)
          · have c_36 : (nI (p + 6)) ≤ (nI e) := of_decide_eq_true c_36
            have n_36 : p + 6 ≤ e := (le_nI (p := p + 6) (n := e) (by omega) (by omega)).mp c_36
            refine ps_st (S' := (43, [(0, .ref m0), (1, .int (nI p0)), (2, .int (nI e)), (3, .int (nI (by2 f p0))), (4, .int (nI p)), (5, .int (nI i))], [.ref m0], M1)) rfl rfl rfl ?_
            refine ps_st (S' := (45, [(0, .ref m0), (1, .int (nI p0)), (2, .int (nI e)), (3, .int (nI (by2 f p0))), (4, .int (nI p)), (5, .int (nI i))], [.int (nI p), .ref m0], M1)) rfl rfl rfl ?_
            refine ps_st (S' := (46, [(0, .ref m0), (1, .int (nI p0)), (2, .int (nI e)), (3, .int (nI (by2 f p0))), (4, .int (nI p)), (5, .int (nI i))], [.int 4, .int (nI p), .ref m0], M1)) rfl rfl rfl ?_
            refine ps_st (S' := (47, [(0, .ref m0), (1, .int (nI p0)), (2, .int (nI e)), (3, .int (nI (by2 f p0))), (4, .int (nI p)), (5, .int (nI i))], [.int ((nI p) + 4), .ref m0], M1)) rfl rfl rfl ?_
            rw [nI_add1 (p := p) (k := 4) (x := 4) rfl (by omega)]
            show pl _ _ _ (_, [(0, .ref m0), (1, .int (nI p0)), (2, .int (nI e)), (3, .int (nI (by2 f p0))), (4, .int (nI p)), (5, .int (nI i))], [.int (nI (p + 4)), .ref m0], M1) _
            refine pl_call (a := [.ref m0, .int (nI (p + 4))]) (rest := []) rfl rfl rfl (rd_u2 (n := n) (f := f) (p := (p + 4)) hR1 hF1 (by omega)) (fun v1 M2 q3 => ?_)
            obtain ⟨rfl, rfl⟩ := q3
            show pl _ _ _ (50, [(0, .ref m0), (1, .int (nI p0)), (2, .int (nI e)), (3, .int (nI (by2 f p0))), (4, .int (nI p)), (5, .int (nI i))], [.int (nI (by2 f (p + 4)))], M1) _
            have hu_47 := by2_lt f (p + 4)
            refine ps_st (S' := (52, [(6, .int (nI (by2 f (p + 4)))), (0, .ref m0), (1, .int (nI p0)), (2, .int (nI e)), (3, .int (nI (by2 f p0))), (4, .int (nI p)), (5, .int (nI i))], [], M1)) rfl rfl rfl ?_
            refine ps_st (S' := (55, [(4, .int ((nI p) + 6)), (6, .int (nI (by2 f (p + 4)))), (0, .ref m0), (1, .int (nI p0)), (2, .int (nI e)), (3, .int (nI (by2 f p0))), (5, .int (nI i))], [], M1)) rfl rfl rfl ?_
            rw [nI_add1 (p := p) (k := 6) (x := 6) rfl (by omega)]
            show pl _ _ _ (_, [(4, .int (nI (p + 6))), (6, .int (nI (by2 f (p + 4)))), (0, .ref m0), (1, .int (nI p0)), (2, .int (nI e)), (3, .int (nI (by2 f p0))), (5, .int (nI i))], [], M1) _
            refine ps_st (S' := (56, [(4, .int (nI (p + 6))), (6, .int (nI (by2 f (p + 4)))), (0, .ref m0), (1, .int (nI p0)), (2, .int (nI e)), (3, .int (nI (by2 f p0))), (5, .int (nI i))], [.int 0], M1)) rfl rfl rfl ?_
            refine ps_st (S' := (58, [(0, .ref m0), (1, .int (nI p0)), (2, .int (nI e)), (3, .int (nI (by2 f p0))), (4, .int (nI (p + 6))), (5, .int (nI i)), (6, .int (nI (by2 f (p + 4)))), (7, .int 0)], [], M1)) rfl rfl rfl ?_
            exact ih.2.1 (i) (p) (0) (p + 6) M1 I1 R1 hR1 hEI1 hER1 hl51 hl52 hl53 hF1 hY1 hP1 (h2) (by omega) (by omega) (by omega) (hs) (rfl)
          · have c_36 : ¬ ((nI (p + 6)) ≤ (nI e)) := of_decide_eq_false c_36
            have n_36 : ¬ (p + 6 ≤ e) := fun h9 => c_36 ((le_nI (p := p + 6) (n := e) (by omega) (by omega)).mpr h9)
            refine ps_st (S' := (41, [(0, .ref m0), (1, .int (nI p0)), (2, .int (nI e)), (3, .int (nI (by2 f p0))), (4, .int (nI p)), (5, .int (nI i))], [.int 30], M1)) rfl rfl rfl ?_
            exact ps_ret rfl rfl (Or.inl ⟨I1, R1, by
                rw [fe_9 h2, ← hs, s_rcE_st (i := i) (p := p) (by omega), if_pos (by omega)]
                exact (fun h9 => (by cases h9)), rfl, hR1, hEI1, hER1⟩)
      · skip
        intro i p j y M1 I1 R1 hR1 hEI1 hER1 hl51 hl52 hl53 hF1 hY1 hP1 h2 hi hj hp hs hg
        have hn := hF1.1
        have hu9 := by2_lt f p0
        have hu8 := by2_lt f (p + 4)
        refine ps_st1 (S' := (60, [(0, .ref m0), (1, .int (nI p0)), (2, .int (nI e)), (3, .int (nI (by2 f p0))), (4, .int (nI y)), (5, .int (nI i)), (6, .int (nI (by2 f (p + 4)))), (7, .int (nI j))], [.int (nI j)], M1)) rfl rfl rfl ?_
        refine ps_st (S' := (62, [(0, .ref m0), (1, .int (nI p0)), (2, .int (nI e)), (3, .int (nI (by2 f p0))), (4, .int (nI y)), (5, .int (nI i)), (6, .int (nI (by2 f (p + 4)))), (7, .int (nI j))], [.int (nI (by2 f (p + 4))), .int (nI j)], M1)) rfl rfl rfl ?_
        refine ps_if2 (S1 := (120, [(0, .ref m0), (1, .int (nI p0)), (2, .int (nI e)), (3, .int (nI (by2 f p0))), (4, .int (nI y)), (5, .int (nI i)), (6, .int (nI (by2 f (p + 4)))), (7, .int (nI j))], [], M1)) (S2 := (65, [(0, .ref m0), (1, .int (nI p0)), (2, .int (nI e)), (3, .int (nI (by2 f p0))), (4, .int (nI y)), (5, .int (nI i)), (6, .int (nI (by2 f (p + 4)))), (7, .int (nI j))], [], M1)) rfl rfl rfl (fun c_62 => ?_) (fun c_62 => ?_)
        · have c_62 : (nI (by2 f (p + 4))) ≤ (nI j) := of_decide_eq_true c_62
          have n_62 : by2 f (p + 4) ≤ j := (le_nI (p := by2 f (p + 4)) (n := j) (Nat.lt_trans (by2_lt _ _) (by decide)) (by omega)).mp c_62
          refine ps_st (S' := (123, [(5, .int ((nI i) + 1)), (0, .ref m0), (1, .int (nI p0)), (2, .int (nI e)), (3, .int (nI (by2 f p0))), (4, .int (nI y)), (6, .int (nI (by2 f (p + 4)))), (7, .int (nI j))], [], M1)) rfl rfl rfl ?_
          rw [nI_add1 (p := i) (k := 1) (x := 1) rfl (by omega)]
          show pl _ _ _ (_, [(5, .int (nI (i + 1))), (0, .ref m0), (1, .int (nI p0)), (2, .int (nI e)), (3, .int (nI (by2 f p0))), (4, .int (nI y)), (6, .int (nI (by2 f (p + 4)))), (7, .int (nI j))], [], M1) _
          refine ps_st (S' := (24, [(0, .ref m0), (1, .int (nI p0)), (2, .int (nI e)), (3, .int (nI (by2 f p0))), (4, .int (nI y)), (5, .int (nI (i + 1)))], [], M1)) rfl rfl rfl ?_
          exact ih.1 (i + 1) (y) M1 I1 R1 hR1 hEI1 hER1 hl51 hl52 hl53 hF1 hY1 hP1 (h2) (by omega) (by omega) (by
              rw [← hs, s_rcE_st (i := i) (p := p) (by omega), if_neg (by omega), ← hg, show by2 f (p + 4) - j = 0 by omega]
              rfl)
        · have c_62 : ¬ ((nI (by2 f (p + 4))) ≤ (nI j)) := of_decide_eq_false c_62
          have n_62 : ¬ (by2 f (p + 4) ≤ j) := fun h9 => c_62 ((le_nI (p := by2 f (p + 4)) (n := j) (Nat.lt_trans (by2_lt _ _) (by decide)) (by omega)).mpr h9)
          refine ps_st (S' := (67, [(0, .ref m0), (1, .int (nI p0)), (2, .int (nI e)), (3, .int (nI (by2 f p0))), (4, .int (nI y)), (5, .int (nI i)), (6, .int (nI (by2 f (p + 4)))), (7, .int (nI j))], [.int (nI y)], M1)) rfl rfl rfl ?_
          refine ps_st (S' := (69, [(0, .ref m0), (1, .int (nI p0)), (2, .int (nI e)), (3, .int (nI (by2 f p0))), (4, .int (nI y)), (5, .int (nI i)), (6, .int (nI (by2 f (p + 4)))), (7, .int (nI j))], [.int 6, .int (nI y)], M1)) rfl rfl rfl ?_
          refine ps_st (S' := (70, [(0, .ref m0), (1, .int (nI p0)), (2, .int (nI e)), (3, .int (nI (by2 f p0))), (4, .int (nI y)), (5, .int (nI i)), (6, .int (nI (by2 f (p + 4)))), (7, .int (nI j))], [.int ((nI y) + 6)], M1)) rfl rfl rfl ?_
          rw [nI_add1 (p := y) (k := 6) (x := 6) rfl (by omega)]
          show pl _ _ _ (_, [(0, .ref m0), (1, .int (nI p0)), (2, .int (nI e)), (3, .int (nI (by2 f p0))), (4, .int (nI y)), (5, .int (nI i)), (6, .int (nI (by2 f (p + 4)))), (7, .int (nI j))], [.int (nI (y + 6))], M1) _
          refine ps_st (S' := (71, [(0, .ref m0), (1, .int (nI p0)), (2, .int (nI e)), (3, .int (nI (by2 f p0))), (4, .int (nI y)), (5, .int (nI i)), (6, .int (nI (by2 f (p + 4)))), (7, .int (nI j))], [.int (nI e), .int (nI (y + 6))], M1)) rfl rfl rfl ?_
          refine ps_if2 (S1 := (94, [], [], M1)) (S2 := (74, [(0, .ref m0), (1, .int (nI p0)), (2, .int (nI e)), (3, .int (nI (by2 f p0))), (4, .int (nI y)), (5, .int (nI i)), (6, .int (nI (by2 f (p + 4)))), (7, .int (nI j))], [], M1)) rfl rfl rfl (fun c_71 => ?_) (fun c_71 => ?_)
          · have c_71 : (nI e) < (nI (y + 6)) := of_decide_eq_true c_71
            have n_71 : e < y + 6 := (lt_nI (p := e) (n := y + 6) (by omega) (by omega)).mp c_71
            refine ps_st (S' := (96, [], [.int 30], M1)) rfl rfl rfl ?_
            exact ps_ret rfl rfl (Or.inl ⟨I1, R1, by
                rw [fe_9 h2, ← hs, s_rcE_st (i := i) (p := p) (by omega), if_neg (by omega), ← hg, s_atE_st (i := j) (p := y) (by omega)]
                rw [if_pos (by omega)]
                exact (fun h9 => (by cases h9)), rfl, hR1, hEI1, hER1⟩)
          · have c_71 : ¬ ((nI e) < (nI (y + 6))) := of_decide_eq_false c_71
            have n_71 : ¬ (e < y + 6) := fun h9 => c_71 ((lt_nI (p := e) (n := y + 6) (by omega) (by omega)).mpr h9)
            refine ps_st (S' := (75, [(0, .ref m0), (1, .int (nI p0)), (2, .int (nI e)), (3, .int (nI (by2 f p0))), (4, .int (nI y)), (5, .int (nI i)), (6, .int (nI (by2 f (p + 4)))), (7, .int (nI j))], [.ref m0], M1)) rfl rfl rfl ?_
            refine ps_st (S' := (77, [(0, .ref m0), (1, .int (nI p0)), (2, .int (nI e)), (3, .int (nI (by2 f p0))), (4, .int (nI y)), (5, .int (nI i)), (6, .int (nI (by2 f (p + 4)))), (7, .int (nI j))], [.int (nI y), .ref m0], M1)) rfl rfl rfl ?_
            refine ps_st (S' := (78, [(0, .ref m0), (1, .int (nI p0)), (2, .int (nI e)), (3, .int (nI (by2 f p0))), (4, .int (nI y)), (5, .int (nI i)), (6, .int (nI (by2 f (p + 4)))), (7, .int (nI j))], [.int 2, .int (nI y), .ref m0], M1)) rfl rfl rfl ?_
            refine ps_st (S' := (79, [(0, .ref m0), (1, .int (nI p0)), (2, .int (nI e)), (3, .int (nI (by2 f p0))), (4, .int (nI y)), (5, .int (nI i)), (6, .int (nI (by2 f (p + 4)))), (7, .int (nI j))], [.int ((nI y) + 2), .ref m0], M1)) rfl rfl rfl ?_
            rw [nI_add1 (p := y) (k := 2) (x := 2) rfl (by omega)]
            show pl _ _ _ (_, [(0, .ref m0), (1, .int (nI p0)), (2, .int (nI e)), (3, .int (nI (by2 f p0))), (4, .int (nI y)), (5, .int (nI i)), (6, .int (nI (by2 f (p + 4)))), (7, .int (nI j))], [.int (nI (y + 2)), .ref m0], M1) _
            refine pl_call (a := [.ref m0, .int (nI (y + 2))]) (rest := []) rfl rfl rfl (rd_u4 (n := n) (f := f) (p := (y + 2)) hR1 hF1 (by omega)) (fun v4 M5 q6 => ?_)
            obtain ⟨rfl, rfl⟩ := q6
            show pl _ _ _ (82, [(0, .ref m0), (1, .int (nI p0)), (2, .int (nI e)), (3, .int (nI (by2 f p0))), (4, .int (nI y)), (5, .int (nI i)), (6, .int (nI (by2 f (p + 4)))), (7, .int (nI j))], [.long (nL (by4 f (y + 2)))], M1) _
            have hu_79 := by4_lt f (y + 2)
            refine ps_st (S' := (83, [(0, .ref m0), (1, .int (nI p0)), (2, .int (nI e)), (3, .int (nI (by2 f p0))), (4, .int (nI y)), (5, .int (nI i)), (6, .int (nI (by2 f (p + 4)))), (7, .int (nI j))], [.int (nI e), .long (nL (by4 f (y + 2)))], M1)) rfl rfl rfl ?_
            refine ps_st (S' := (85, [(0, .ref m0), (1, .int (nI p0)), (2, .int (nI e)), (3, .int (nI (by2 f p0))), (4, .int (nI y)), (5, .int (nI i)), (6, .int (nI (by2 f (p + 4)))), (7, .int (nI j))], [.int (nI y), .int (nI e), .long (nL (by4 f (y + 2)))], M1)) rfl rfl rfl ?_
            refine ps_st (S' := (86, [(0, .ref m0), (1, .int (nI p0)), (2, .int (nI e)), (3, .int (nI (by2 f p0))), (4, .int (nI y)), (5, .int (nI i)), (6, .int (nI (by2 f (p + 4)))), (7, .int (nI j))], [.int ((nI e) - (nI y)), .long (nL (by4 f (y + 2)))], M1)) rfl rfl rfl ?_
            rw [nI_sub1 (p := e) (k := y) (x := (nI y)) rfl (by omega) (by omega)]
            show pl _ _ _ (_, [(0, .ref m0), (1, .int (nI p0)), (2, .int (nI e)), (3, .int (nI (by2 f p0))), (4, .int (nI y)), (5, .int (nI i)), (6, .int (nI (by2 f (p + 4)))), (7, .int (nI j))], [.int (nI (e - y)), .long (nL (by4 f (y + 2)))], M1) _
            refine ps_st (S' := (88, [(0, .ref m0), (1, .int (nI p0)), (2, .int (nI e)), (3, .int (nI (by2 f p0))), (4, .int (nI y)), (5, .int (nI i)), (6, .int (nI (by2 f (p + 4)))), (7, .int (nI j))], [.int 6, .int (nI (e - y)), .long (nL (by4 f (y + 2)))], M1)) rfl rfl rfl ?_
            refine ps_st (S' := (89, [(0, .ref m0), (1, .int (nI p0)), (2, .int (nI e)), (3, .int (nI (by2 f p0))), (4, .int (nI y)), (5, .int (nI i)), (6, .int (nI (by2 f (p + 4)))), (7, .int (nI j))], [.int ((nI (e - y)) - 6), .long (nL (by4 f (y + 2)))], M1)) rfl rfl rfl ?_
            rw [nI_sub1 (p := e - y) (k := 6) (x := 6) rfl (by omega) (by omega)]
            show pl _ _ _ (_, [(0, .ref m0), (1, .int (nI p0)), (2, .int (nI e)), (3, .int (nI (by2 f p0))), (4, .int (nI y)), (5, .int (nI i)), (6, .int (nI (by2 f (p + 4)))), (7, .int (nI j))], [.int (nI ((e - y) - 6)), .long (nL (by4 f (y + 2)))], M1) _
            refine ps_st (S' := (90, [(0, .ref m0), (1, .int (nI p0)), (2, .int (nI e)), (3, .int (nI (by2 f p0))), (4, .int (nI y)), (5, .int (nI i)), (6, .int (nI (by2 f (p + 4)))), (7, .int (nI j))], [.long (Int32.toInt64 (nI ((e - y) - 6))), .long (nL (by4 f (y + 2)))], M1)) rfl rfl rfl ?_
            rw [i2l_nL (p := (e - y) - 6) (by omega)]
            show pl _ _ _ (_, [(0, .ref m0), (1, .int (nI p0)), (2, .int (nI e)), (3, .int (nI (by2 f p0))), (4, .int (nI y)), (5, .int (nI i)), (6, .int (nI (by2 f (p + 4)))), (7, .int (nI j))], [.long (nL ((e - y) - 6)), .long (nL (by4 f (y + 2)))], M1) _
            refine ps_st (S' := (91, [(0, .ref m0), (1, .int (nI p0)), (2, .int (nI e)), (3, .int (nI (by2 f p0))), (4, .int (nI y)), (5, .int (nI i)), (6, .int (nI (by2 f (p + 4)))), (7, .int (nI j))], [.int (lg_cmp (nL (by4 f (y + 2))) (nL ((e - y) - 6)))], M1)) rfl rfl rfl ?_
            refine ps_if (S1 := (97, [(0, .ref m0), (1, .int (nI p0)), (2, .int (nI e)), (3, .int (nI (by2 f p0))), (4, .int (nI y)), (5, .int (nI i)), (6, .int (nI (by2 f (p + 4)))), (7, .int (nI j))], [], M1)) (S2 := (94, [], [], M1)) rfl rfl rfl (fun c_91 => ?_) (fun c_91 => ?_)
            · have n_91 : by4 f (y + 2) ≤ (e - y) - 6 := (cL_le (p := by4 f (y + 2)) (k := (e - y) - 6) (x := (nL (by4 f (y + 2)))) (y := (nL ((e - y) - 6))) rfl rfl (by omega) (by omega)).mp (of_decide_eq_true c_91)
              refine ps_st (S' := (99, [(0, .ref m0), (1, .int (nI p0)), (2, .int (nI e)), (3, .int (nI (by2 f p0))), (4, .int (nI y)), (5, .int (nI i)), (6, .int (nI (by2 f (p + 4)))), (7, .int (nI j))], [.int (nI y)], M1)) rfl rfl rfl ?_
              refine ps_st (S' := (101, [(0, .ref m0), (1, .int (nI p0)), (2, .int (nI e)), (3, .int (nI (by2 f p0))), (4, .int (nI y)), (5, .int (nI i)), (6, .int (nI (by2 f (p + 4)))), (7, .int (nI j))], [.int 6, .int (nI y)], M1)) rfl rfl rfl ?_
              refine ps_st (S' := (102, [(0, .ref m0), (1, .int (nI p0)), (2, .int (nI e)), (3, .int (nI (by2 f p0))), (4, .int (nI y)), (5, .int (nI i)), (6, .int (nI (by2 f (p + 4)))), (7, .int (nI j))], [.ref m0, .int 6, .int (nI y)], M1)) rfl rfl rfl ?_
              refine ps_st (S' := (104, [(0, .ref m0), (1, .int (nI p0)), (2, .int (nI e)), (3, .int (nI (by2 f p0))), (4, .int (nI y)), (5, .int (nI i)), (6, .int (nI (by2 f (p + 4)))), (7, .int (nI j))], [.int (nI y), .ref m0, .int 6, .int (nI y)], M1)) rfl rfl rfl ?_
              refine ps_st (S' := (105, [(0, .ref m0), (1, .int (nI p0)), (2, .int (nI e)), (3, .int (nI (by2 f p0))), (4, .int (nI y)), (5, .int (nI i)), (6, .int (nI (by2 f (p + 4)))), (7, .int (nI j))], [.int 2, .int (nI y), .ref m0, .int 6, .int (nI y)], M1)) rfl rfl rfl ?_
              refine ps_st (S' := (106, [(0, .ref m0), (1, .int (nI p0)), (2, .int (nI e)), (3, .int (nI (by2 f p0))), (4, .int (nI y)), (5, .int (nI i)), (6, .int (nI (by2 f (p + 4)))), (7, .int (nI j))], [.int ((nI y) + 2), .ref m0, .int 6, .int (nI y)], M1)) rfl rfl rfl ?_
              rw [nI_add1 (p := y) (k := 2) (x := 2) rfl (by omega)]
              show pl _ _ _ (_, [(0, .ref m0), (1, .int (nI p0)), (2, .int (nI e)), (3, .int (nI (by2 f p0))), (4, .int (nI y)), (5, .int (nI i)), (6, .int (nI (by2 f (p + 4)))), (7, .int (nI j))], [.int (nI (y + 2)), .ref m0, .int 6, .int (nI y)], M1) _
              refine pl_call (a := [.ref m0, .int (nI (y + 2))]) (rest := [.int 6, .int (nI y)]) rfl rfl rfl (rd_u4 (n := n) (f := f) (p := (y + 2)) hR1 hF1 (by omega)) (fun v7 M8 q9 => ?_)
              obtain ⟨rfl, rfl⟩ := q9
              show pl _ _ _ (109, [(0, .ref m0), (1, .int (nI p0)), (2, .int (nI e)), (3, .int (nI (by2 f p0))), (4, .int (nI y)), (5, .int (nI i)), (6, .int (nI (by2 f (p + 4)))), (7, .int (nI j))], [.long (nL (by4 f (y + 2))), .int 6, .int (nI y)], M1) _
              have hu_106 := by4_lt f (y + 2)
              refine ps_st (S' := (110, [(0, .ref m0), (1, .int (nI p0)), (2, .int (nI e)), (3, .int (nI (by2 f p0))), (4, .int (nI y)), (5, .int (nI i)), (6, .int (nI (by2 f (p + 4)))), (7, .int (nI j))], [.int (Int64.toInt32 (nL (by4 f (y + 2)))), .int 6, .int (nI y)], M1)) rfl rfl rfl ?_
              rw [l2i_nL (p := by4 f (y + 2)) (by omega)]
              show pl _ _ _ (_, [(0, .ref m0), (1, .int (nI p0)), (2, .int (nI e)), (3, .int (nI (by2 f p0))), (4, .int (nI y)), (5, .int (nI i)), (6, .int (nI (by2 f (p + 4)))), (7, .int (nI j))], [.int (nI (by4 f (y + 2))), .int 6, .int (nI y)], M1) _
              refine ps_st (S' := (111, [(0, .ref m0), (1, .int (nI p0)), (2, .int (nI e)), (3, .int (nI (by2 f p0))), (4, .int (nI y)), (5, .int (nI i)), (6, .int (nI (by2 f (p + 4)))), (7, .int (nI j))], [.int (6 + (nI (by4 f (y + 2)))), .int (nI y)], M1)) rfl rfl rfl ?_
              rw [nI_add2 (p := 6) (k := by4 f (y + 2)) (x := 6) (y := (nI (by4 f (y + 2)))) rfl rfl (by omega)]
              show pl _ _ _ (_, [(0, .ref m0), (1, .int (nI p0)), (2, .int (nI e)), (3, .int (nI (by2 f p0))), (4, .int (nI y)), (5, .int (nI i)), (6, .int (nI (by2 f (p + 4)))), (7, .int (nI j))], [.int (nI (6 + by4 f (y + 2))), .int (nI y)], M1) _
              refine ps_st (S' := (112, [(0, .ref m0), (1, .int (nI p0)), (2, .int (nI e)), (3, .int (nI (by2 f p0))), (4, .int (nI y)), (5, .int (nI i)), (6, .int (nI (by2 f (p + 4)))), (7, .int (nI j))], [.int ((nI y) + (nI (6 + by4 f (y + 2))))], M1)) rfl rfl rfl ?_
              rw [nI_add1 (p := y) (k := 6 + by4 f (y + 2)) (x := (nI (6 + by4 f (y + 2)))) rfl (by omega)]
              rw [show nI (y + (6 + by4 f (y + 2))) = nI (y + 6 + by4 f (y + 2)) from congrArg nI (by omega)]
              show pl _ _ _ (_, [(0, .ref m0), (1, .int (nI p0)), (2, .int (nI e)), (3, .int (nI (by2 f p0))), (4, .int (nI y)), (5, .int (nI i)), (6, .int (nI (by2 f (p + 4)))), (7, .int (nI j))], [.int (nI (y + 6 + by4 f (y + 2)))], M1) _
              refine ps_st (S' := (114, [(4, .int (nI (y + 6 + by4 f (y + 2)))), (0, .ref m0), (1, .int (nI p0)), (2, .int (nI e)), (3, .int (nI (by2 f p0))), (5, .int (nI i)), (6, .int (nI (by2 f (p + 4)))), (7, .int (nI j))], [], M1)) rfl rfl rfl ?_
              refine ps_st (S' := (117, [(7, .int ((nI j) + 1)), (4, .int (nI (y + 6 + by4 f (y + 2)))), (0, .ref m0), (1, .int (nI p0)), (2, .int (nI e)), (3, .int (nI (by2 f p0))), (5, .int (nI i)), (6, .int (nI (by2 f (p + 4))))], [], M1)) rfl rfl rfl ?_
              rw [nI_add1 (p := j) (k := 1) (x := 1) rfl (by omega)]
              show pl _ _ _ (_, [(7, .int (nI (j + 1))), (4, .int (nI (y + 6 + by4 f (y + 2)))), (0, .ref m0), (1, .int (nI p0)), (2, .int (nI e)), (3, .int (nI (by2 f p0))), (5, .int (nI i)), (6, .int (nI (by2 f (p + 4))))], [], M1) _
              refine ps_st (S' := (58, [(0, .ref m0), (1, .int (nI p0)), (2, .int (nI e)), (3, .int (nI (by2 f p0))), (4, .int (nI (y + 6 + by4 f (y + 2)))), (5, .int (nI i)), (6, .int (nI (by2 f (p + 4)))), (7, .int (nI (j + 1)))], [], M1)) rfl rfl rfl ?_
              exact ih.2.1 (i) (p) (j + 1) (y + 6 + by4 f (y + 2)) M1 I1 R1 hR1 hEI1 hER1 hl51 hl52 hl53 hF1 hY1 hP1 (h2) (hi) (by omega) (by omega) (hs) (by
                  rw [← hg, s_atE_st (i := j) (p := y) (by omega), if_neg (by omega), if_neg (by omega)])
            · have n_91 : ¬ (by4 f (y + 2) ≤ (e - y) - 6) := fun h9 => of_decide_eq_false c_91 ((cL_le (p := by4 f (y + 2)) (k := (e - y) - 6) (x := (nL (by4 f (y + 2)))) (y := (nL ((e - y) - 6))) rfl rfl (by omega) (by omega)).mpr h9)
              refine ps_st (S' := (96, [], [.int 30], M1)) rfl rfl rfl ?_
              exact ps_ret rfl rfl (Or.inl ⟨I1, R1, by
                  rw [fe_9 h2, ← hs, s_rcE_st (i := i) (p := p) (by omega), if_neg (by omega), ← hg, s_atE_st (i := j) (p := y) (by omega)]
                  rw [if_neg (by omega), if_pos (by omega)]
                  exact (fun h9 => (by cases h9)), rfl, hR1, hEI1, hER1⟩)
      · skip
        intro i p M1 I1 R1 hR1 hEI1 hER1 hl51 hl52 hl53 hF1 hY1 hP1 hfe hi hf hs
        have hn := hF1.1
        have hu9 := by2_lt f p0
        refine ps_st1 (S' := (145, [(0, .ref m0), (3, .int (nI (by2 f p0))), (4, .int (nI p)), (5, .int (nI i))], [.int (nI i)], M1)) rfl rfl rfl ?_
        refine ps_st (S' := (146, [(0, .ref m0), (3, .int (nI (by2 f p0))), (4, .int (nI p)), (5, .int (nI i))], [.int (nI (by2 f p0)), .int (nI i)], M1)) rfl rfl rfl ?_
        refine ps_if2 (S1 := (296, [(0, .ref m0), (3, .int (nI (by2 f p0))), (4, .int (nI p)), (5, .int (nI i))], [], M1)) (S2 := (149, [(0, .ref m0), (3, .int (nI (by2 f p0))), (4, .int (nI p)), (5, .int (nI i))], [], M1)) rfl rfl rfl (fun c_146 => ?_) (fun c_146 => ?_)
        · have c_146 : (nI (by2 f p0)) ≤ (nI i) := of_decide_eq_true c_146
          have n_146 : by2 f p0 ≤ i := (le_nI (p := by2 f p0) (n := i) (Nat.lt_trans (by2_lt _ _) (by decide)) (by omega)).mp c_146
          refine ps_st (S' := (297, [(0, .ref m0), (3, .int (nI (by2 f p0))), (4, .int (nI p)), (5, .int (nI i))], [.ref m0], M1)) rfl rfl rfl ?_
          refine ps_st (S' := (298, [(0, .ref m0), (3, .int (nI (by2 f p0))), (4, .int (nI p)), (5, .int (nI i))], [.int (nI (by2 f p0)), .ref m0], M1)) rfl rfl rfl ?_
          refine pr_put (j := 72) rfl hR1 rfl (fun M10 I11 hR12 hi13 hI14 => ?_)
          have hi15 := (hI14 51 (by decide)).trans hl51
          have hi16 := (hI14 52 (by decide)).trans hl52
          have hi17 := (hI14 53 (by decide)).trans hl53
          have hF_18 := hF1.mono (pIx hI14 (by decide)) (fun _ _ => rfl)
          have hY_19 := hY1.mono (pIx hI14 (by decide)) (fun _ _ => rfl)
          have hP_20 := hP1.mono (pIx hI14 (by decide)) (fun _ _ => rfl)
          have hEI21 := hEI1.put hI14 (by decide)
          show pl _ _ _ (301, [(0, .ref m0), (3, .int (nI (by2 f p0))), (4, .int (nI p)), (5, .int (nI i))], [], M10) _
          refine ps_st (S' := (302, [(0, .ref m0), (3, .int (nI (by2 f p0))), (4, .int (nI p)), (5, .int (nI i))], [.int 0], M10)) rfl rfl rfl ?_
          exact ps_ret rfl rfl (Or.inr (Or.inr (Or.inr ⟨I11, R1, hfe, by
              rw [← hs, show by2 f p0 - i = 0 by omega]
              rfl, rfl, hR12, hEI21, hER1⟩)))
        · have c_146 : ¬ ((nI (by2 f p0)) ≤ (nI i)) := of_decide_eq_false c_146
          have n_146 : ¬ (by2 f p0 ≤ i) := fun h9 => c_146 ((le_nI (p := by2 f p0) (n := i) (Nat.lt_trans (by2_lt _ _) (by decide)) (by omega)).mpr h9)
          obtain ⟨hq5, y9, hq6, hq7⟩ := s_rcE_in (i := i) (p := p) hf (by omega)
          refine ps_st (S' := (150, [(0, .ref m0), (3, .int (nI (by2 f p0))), (4, .int (nI p)), (5, .int (nI i))], [.ref m0], M1)) rfl rfl rfl ?_
          refine ps_st (S' := (151, [(0, .ref m0), (3, .int (nI (by2 f p0))), (4, .int (nI p)), (5, .int (nI i))], [.ref m0, .ref m0], M1)) rfl rfl rfl ?_
          refine ps_st (S' := (153, [(0, .ref m0), (3, .int (nI (by2 f p0))), (4, .int (nI p)), (5, .int (nI i))], [.int (nI p), .ref m0, .ref m0], M1)) rfl rfl rfl ?_
          refine pl_call (a := [.ref m0, .int (nI p)]) (rest := [.ref m0]) rfl rfl rfl (rd_u2 (n := n) (f := f) (p := p) hR1 hF1 (by omega)) (fun v22 M23 q24 => ?_)
          obtain ⟨rfl, rfl⟩ := q24
          show pl _ _ _ (156, [(0, .ref m0), (3, .int (nI (by2 f p0))), (4, .int (nI p)), (5, .int (nI i))], [.int (nI (by2 f p)), .ref m0], M1) _
          have hu_153 := by2_lt f p
          refine pl_call (a := [.ref m0, .int (nI (by2 f p))]) (rest := []) rfl rfl rfl (rd_tag (n := n) (f := f) (tx := tx) (cN := cN) (A := A) (N := N) (mj := mj) (E := E) (k := (by2 f p)) hR1 hl51 hl52 hl53 hF1 hY1 hP1 (hEP) (hN) (hmj) (by2_lt _ _)) (fun v25 M26 q27 => ?_)
          obtain ⟨rfl, rfl⟩ := q27
          show pl _ _ _ (159, [(0, .ref m0), (3, .int (nI (by2 f p0))), (4, .int (nI p)), (5, .int (nI i))], [.int (nI (tg f E (by2 f p)))], M1) _
          have htg_156 := tg_lt f E (by2 f p)
          refine ps_st (S' := (160, [(0, .ref m0), (3, .int (nI (by2 f p0))), (4, .int (nI p)), (5, .int (nI i))], [.int 1, .int (nI (tg f E (by2 f p)))], M1)) rfl rfl rfl ?_
          refine ps_if2 (S1 := (216, [], [], M1)) (S2 := (163, [(0, .ref m0), (3, .int (nI (by2 f p0))), (4, .int (nI p)), (5, .int (nI i))], [], M1)) rfl rfl rfl (fun c_160 => ?_) (fun c_160 => ?_)
          · have c_160 : ¬ (nI (tg f E (by2 f p))) = 1 := of_decide_eq_true c_160
            have n_160 : ¬ (tg f E (by2 f p) = 1) := fun h9 => c_160 ((eq_nI (p := tg f E (by2 f p)) (n := 1) (Nat.lt_trans (tg_lt _ _ _) (by decide)) (by decide)).mpr h9)
            refine ps_st (S' := (218, [], [.int 37], M1)) rfl rfl rfl ?_
            exact ps_ret rfl rfl (Or.inr (Or.inl ⟨I1, R1, hfe, by
                rw [← hs, rcS_st (i := i) (by omega), if_pos (Or.inl (by rw [tx_no (by omega)]; decide))], rfl, hR1, hEI1, hER1⟩))
          · have c_160 : ¬ (¬ (nI (tg f E (by2 f p))) = 1) := of_decide_eq_false c_160
            have n_160 : tg f E (by2 f p) = 1 := (eq_nI (p := tg f E (by2 f p)) (n := 1) (Nat.lt_trans (tg_lt _ _ _) (by decide)) (by decide)).mp (Decidable.not_not.mp c_160)
            refine ps_st (S' := (164, [(0, .ref m0), (3, .int (nI (by2 f p0))), (4, .int (nI p)), (5, .int (nI i))], [.ref m0], M1)) rfl rfl rfl ?_
            refine ps_st (S' := (165, [(0, .ref m0), (3, .int (nI (by2 f p0))), (4, .int (nI p)), (5, .int (nI i))], [.ref m0, .ref m0], M1)) rfl rfl rfl ?_
            refine ps_st (S' := (166, [(0, .ref m0), (3, .int (nI (by2 f p0))), (4, .int (nI p)), (5, .int (nI i))], [.ref m0, .ref m0, .ref m0], M1)) rfl rfl rfl ?_
            refine ps_st (S' := (168, [(0, .ref m0), (3, .int (nI (by2 f p0))), (4, .int (nI p)), (5, .int (nI i))], [.int (nI p), .ref m0, .ref m0, .ref m0], M1)) rfl rfl rfl ?_
            refine pl_call (a := [.ref m0, .int (nI p)]) (rest := [.ref m0, .ref m0]) rfl rfl rfl (rd_u2 (n := n) (f := f) (p := p) hR1 hF1 (by omega)) (fun v28 M29 q30 => ?_)
            obtain ⟨rfl, rfl⟩ := q30
            show pl _ _ _ (171, [(0, .ref m0), (3, .int (nI (by2 f p0))), (4, .int (nI p)), (5, .int (nI i))], [.int (nI (by2 f p)), .ref m0, .ref m0], M1) _
            have hu_168 := by2_lt f p
            refine pl_call (a := [.ref m0, .int (nI (by2 f p))]) (rest := [.ref m0]) rfl rfl rfl (rd_symOf (n := n) (f := f) (tx := tx) (cN := cN) (A := A) (N := N) (mj := mj) (E := E) (k := (by2 f p)) hR1 hl51 hl52 hl53 hF1 hY1 hP1 (hEP) (hN) (hmj) (by omega)) (fun v31 M32 q33 => ?_)
            obtain ⟨s34, q171_s, rfl, rfl⟩ := q33
            show pl _ _ _ (174, [(0, .ref m0), (3, .int (nI (by2 f p0))), (4, .int (nI p)), (5, .int (nI i))], [.int (nI s34), .ref m0], M1) _
            have hsl_171 := q171_s.1
            have htl_171 := hY1.1.2.2.1
            refine ps_st (S' := (175, [(0, .ref m0), (3, .int (nI (by2 f p0))), (4, .int (nI p)), (5, .int (nI i))], [.int 1, .int (nI s34), .ref m0], M1)) rfl rfl rfl ?_
            refine pl_call (a := [.ref m0, .int (nI s34), .int 1]) (rest := []) rfl rfl rfl (rd_unq1 (tx := tx) (cN := cN) (A := A) (s := s34) (l := (tX f n E (by2 f p))) hR1 hY1 (q171_s)) (fun v35 M36 q37 => ?_)
            obtain ⟨rfl, rfl⟩ := q37
            show pl _ _ _ (178, [(0, .ref m0), (3, .int (nI (by2 f p0))), (4, .int (nI p)), (5, .int (nI i))], [.int (nI (unqN (tX f n E (by2 f p))))], M1) _
            refine ps_if (S1 := (216, [], [], M1)) (S2 := (181, [(0, .ref m0), (3, .int (nI (by2 f p0))), (4, .int (nI p)), (5, .int (nI i))], [], M1)) rfl rfl rfl (fun c_178 => ?_) (fun c_178 => ?_)
            · have c_178 : (nI (unqN (tX f n E (by2 f p)))) = 0 := of_decide_eq_true c_178
              have n_178 : unqN (tX f n E (by2 f p)) = 0 := (eq_nI (p := unqN (tX f n E (by2 f p))) (n := 0) (Nat.lt_trans (le1_unq _) (by decide)) (by decide)).mp c_178
              refine ps_st (S' := (218, [], [.int 37], M1)) rfl rfl rfl ?_
              exact ps_ret rfl rfl (Or.inr (Or.inl ⟨I1, R1, hfe, by
                  rw [← hs, rcS_st (i := i) (by omega), if_pos (by omega)], rfl, hR1, hEI1, hER1⟩))
            · have c_178 : ¬ ((nI (unqN (tX f n E (by2 f p)))) = 0) := of_decide_eq_false c_178
              have n_178 : ¬ (unqN (tX f n E (by2 f p)) = 0) := fun h9 => c_178 ((eq_nI (p := unqN (tX f n E (by2 f p))) (n := 0) (Nat.lt_trans (le1_unq _) (by decide)) (by decide)).mpr h9)
              refine ps_st (S' := (182, [(0, .ref m0), (3, .int (nI (by2 f p0))), (4, .int (nI p)), (5, .int (nI i))], [.ref m0], M1)) rfl rfl rfl ?_
              refine ps_st (S' := (183, [(0, .ref m0), (3, .int (nI (by2 f p0))), (4, .int (nI p)), (5, .int (nI i))], [.ref m0, .ref m0], M1)) rfl rfl rfl ?_
              refine ps_st (S' := (185, [(0, .ref m0), (3, .int (nI (by2 f p0))), (4, .int (nI p)), (5, .int (nI i))], [.int (nI p), .ref m0, .ref m0], M1)) rfl rfl rfl ?_
              refine ps_st (S' := (186, [(0, .ref m0), (3, .int (nI (by2 f p0))), (4, .int (nI p)), (5, .int (nI i))], [.int 2, .int (nI p), .ref m0, .ref m0], M1)) rfl rfl rfl ?_
              refine ps_st (S' := (187, [(0, .ref m0), (3, .int (nI (by2 f p0))), (4, .int (nI p)), (5, .int (nI i))], [.int ((nI p) + 2), .ref m0, .ref m0], M1)) rfl rfl rfl ?_
              rw [nI_add1 (p := p) (k := 2) (x := 2) rfl (by omega)]
              show pl _ _ _ (_, [(0, .ref m0), (3, .int (nI (by2 f p0))), (4, .int (nI p)), (5, .int (nI i))], [.int (nI (p + 2)), .ref m0, .ref m0], M1) _
              refine pl_call (a := [.ref m0, .int (nI (p + 2))]) (rest := [.ref m0]) rfl rfl rfl (rd_u2 (n := n) (f := f) (p := (p + 2)) hR1 hF1 (by omega)) (fun v38 M39 q40 => ?_)
              obtain ⟨rfl, rfl⟩ := q40
              show pl _ _ _ (190, [(0, .ref m0), (3, .int (nI (by2 f p0))), (4, .int (nI p)), (5, .int (nI i))], [.int (nI (by2 f (p + 2))), .ref m0], M1) _
              have hu_187 := by2_lt f (p + 2)
              refine pl_call (a := [.ref m0, .int (nI (by2 f (p + 2)))]) (rest := []) rfl rfl rfl (rd_tag (n := n) (f := f) (tx := tx) (cN := cN) (A := A) (N := N) (mj := mj) (E := E) (k := (by2 f (p + 2))) hR1 hl51 hl52 hl53 hF1 hY1 hP1 (hEP) (hN) (hmj) (by2_lt _ _)) (fun v41 M42 q43 => ?_)
              obtain ⟨rfl, rfl⟩ := q43
              show pl _ _ _ (193, [(0, .ref m0), (3, .int (nI (by2 f p0))), (4, .int (nI p)), (5, .int (nI i))], [.int (nI (tg f E (by2 f (p + 2))))], M1) _
              have htg_190 := tg_lt f E (by2 f (p + 2))
              refine ps_st (S' := (194, [(0, .ref m0), (3, .int (nI (by2 f p0))), (4, .int (nI p)), (5, .int (nI i))], [.int 1, .int (nI (tg f E (by2 f (p + 2))))], M1)) rfl rfl rfl ?_
              refine ps_if2 (S1 := (216, [], [], M1)) (S2 := (197, [(0, .ref m0), (3, .int (nI (by2 f p0))), (4, .int (nI p)), (5, .int (nI i))], [], M1)) rfl rfl rfl (fun c_194 => ?_) (fun c_194 => ?_)
              · have c_194 : ¬ (nI (tg f E (by2 f (p + 2)))) = 1 := of_decide_eq_true c_194
                have n_194 : ¬ (tg f E (by2 f (p + 2)) = 1) := fun h9 => c_194 ((eq_nI (p := tg f E (by2 f (p + 2))) (n := 1) (Nat.lt_trans (tg_lt _ _ _) (by decide)) (by decide)).mpr h9)
                refine ps_st (S' := (218, [], [.int 37], M1)) rfl rfl rfl ?_
                exact ps_ret rfl rfl (Or.inr (Or.inl ⟨I1, R1, hfe, by
                    rw [← hs, rcS_st (i := i) (by omega), if_pos (Or.inr (by rw [tx_no (by omega)]; decide))], rfl, hR1, hEI1, hER1⟩))
              · have c_194 : ¬ (¬ (nI (tg f E (by2 f (p + 2)))) = 1) := of_decide_eq_false c_194
                have n_194 : tg f E (by2 f (p + 2)) = 1 := (eq_nI (p := tg f E (by2 f (p + 2))) (n := 1) (Nat.lt_trans (tg_lt _ _ _) (by decide)) (by decide)).mp (Decidable.not_not.mp c_194)
                refine ps_st (S' := (198, [(0, .ref m0), (3, .int (nI (by2 f p0))), (4, .int (nI p)), (5, .int (nI i))], [.ref m0], M1)) rfl rfl rfl ?_
                refine ps_st (S' := (199, [(0, .ref m0), (3, .int (nI (by2 f p0))), (4, .int (nI p)), (5, .int (nI i))], [.ref m0, .ref m0], M1)) rfl rfl rfl ?_
                refine ps_st (S' := (200, [(0, .ref m0), (3, .int (nI (by2 f p0))), (4, .int (nI p)), (5, .int (nI i))], [.ref m0, .ref m0, .ref m0], M1)) rfl rfl rfl ?_
                refine ps_st (S' := (202, [(0, .ref m0), (3, .int (nI (by2 f p0))), (4, .int (nI p)), (5, .int (nI i))], [.int (nI p), .ref m0, .ref m0, .ref m0], M1)) rfl rfl rfl ?_
                refine ps_st (S' := (203, [(0, .ref m0), (3, .int (nI (by2 f p0))), (4, .int (nI p)), (5, .int (nI i))], [.int 2, .int (nI p), .ref m0, .ref m0, .ref m0], M1)) rfl rfl rfl ?_
                refine ps_st (S' := (204, [(0, .ref m0), (3, .int (nI (by2 f p0))), (4, .int (nI p)), (5, .int (nI i))], [.int ((nI p) + 2), .ref m0, .ref m0, .ref m0], M1)) rfl rfl rfl ?_
                rw [nI_add1 (p := p) (k := 2) (x := 2) rfl (by omega)]
                show pl _ _ _ (_, [(0, .ref m0), (3, .int (nI (by2 f p0))), (4, .int (nI p)), (5, .int (nI i))], [.int (nI (p + 2)), .ref m0, .ref m0, .ref m0], M1) _
                refine pl_call (a := [.ref m0, .int (nI (p + 2))]) (rest := [.ref m0, .ref m0]) rfl rfl rfl (rd_u2 (n := n) (f := f) (p := (p + 2)) hR1 hF1 (by omega)) (fun v44 M45 q46 => ?_)
                obtain ⟨rfl, rfl⟩ := q46
                show pl _ _ _ (207, [(0, .ref m0), (3, .int (nI (by2 f p0))), (4, .int (nI p)), (5, .int (nI i))], [.int (nI (by2 f (p + 2))), .ref m0, .ref m0], M1) _
                have hu_204 := by2_lt f (p + 2)
                refine pl_call (a := [.ref m0, .int (nI (by2 f (p + 2)))]) (rest := [.ref m0]) rfl rfl rfl (rd_symOf (n := n) (f := f) (tx := tx) (cN := cN) (A := A) (N := N) (mj := mj) (E := E) (k := (by2 f (p + 2))) hR1 hl51 hl52 hl53 hF1 hY1 hP1 (hEP) (hN) (hmj) (by omega)) (fun v47 M48 q49 => ?_)
                obtain ⟨s50, q207_s, rfl, rfl⟩ := q49
                show pl _ _ _ (210, [(0, .ref m0), (3, .int (nI (by2 f p0))), (4, .int (nI p)), (5, .int (nI i))], [.int (nI s50), .ref m0], M1) _
                have hsl_207 := q207_s.1
                have htl_207 := hY1.1.2.2.1
                refine pl_call (a := [.ref m0, .int (nI s50)]) (rest := []) rfl rfl rfl (rd_isField (tx := tx) (cN := cN) (A := A) (s := s50) (l := (tX f n E (by2 f (p + 2)))) hR1 hY1 (q207_s)) (fun v51 M52 q53 => ?_)
                obtain ⟨rfl, rfl⟩ := q53
                show pl _ _ _ (213, [(0, .ref m0), (3, .int (nI (by2 f p0))), (4, .int (nI p)), (5, .int (nI i))], [.int (nI (fldN (tX f n E (by2 f (p + 2)))))], M1) _
                refine ps_if (S1 := (219, [(0, .ref m0), (3, .int (nI (by2 f p0))), (4, .int (nI p)), (5, .int (nI i))], [], M1)) (S2 := (216, [], [], M1)) rfl rfl rfl (fun c_213 => ?_) (fun c_213 => ?_)
                · have c_213 : ¬ (nI (fldN (tX f n E (by2 f (p + 2))))) = 0 := of_decide_eq_true c_213
                  have n_213 : ¬ (fldN (tX f n E (by2 f (p + 2))) = 0) := fun h9 => c_213 ((eq_nI (p := fldN (tX f n E (by2 f (p + 2)))) (n := 0) (Nat.lt_trans (le1_fld _) (by decide)) (by decide)).mpr h9)
                  refine ps_st (S' := (220, [(0, .ref m0), (3, .int (nI (by2 f p0))), (4, .int (nI p)), (5, .int (nI i))], [.ref m0], M1)) rfl rfl rfl ?_
                  refine ps_st (S' := (222, [(0, .ref m0), (3, .int (nI (by2 f p0))), (4, .int (nI p)), (5, .int (nI i))], [.int (nI p), .ref m0], M1)) rfl rfl rfl ?_
                  refine ps_st (S' := (223, [(0, .ref m0), (3, .int (nI (by2 f p0))), (4, .int (nI p)), (5, .int (nI i))], [.int 4, .int (nI p), .ref m0], M1)) rfl rfl rfl ?_
                  refine ps_st (S' := (224, [(0, .ref m0), (3, .int (nI (by2 f p0))), (4, .int (nI p)), (5, .int (nI i))], [.int ((nI p) + 4), .ref m0], M1)) rfl rfl rfl ?_
                  rw [nI_add1 (p := p) (k := 4) (x := 4) rfl (by omega)]
                  show pl _ _ _ (_, [(0, .ref m0), (3, .int (nI (by2 f p0))), (4, .int (nI p)), (5, .int (nI i))], [.int (nI (p + 4)), .ref m0], M1) _
                  refine pl_call (a := [.ref m0, .int (nI (p + 4))]) (rest := []) rfl rfl rfl (rd_u2 (n := n) (f := f) (p := (p + 4)) hR1 hF1 (by omega)) (fun v54 M55 q56 => ?_)
                  obtain ⟨rfl, rfl⟩ := q56
                  show pl _ _ _ (227, [(0, .ref m0), (3, .int (nI (by2 f p0))), (4, .int (nI p)), (5, .int (nI i))], [.int (nI (by2 f (p + 4)))], M1) _
                  have hu_224 := by2_lt f (p + 4)
                  refine ps_st (S' := (229, [(6, .int (nI (by2 f (p + 4)))), (0, .ref m0), (3, .int (nI (by2 f p0))), (4, .int (nI p)), (5, .int (nI i))], [], M1)) rfl rfl rfl ?_
                  refine ps_st (S' := (232, [(4, .int ((nI p) + 6)), (6, .int (nI (by2 f (p + 4)))), (0, .ref m0), (3, .int (nI (by2 f p0))), (5, .int (nI i))], [], M1)) rfl rfl rfl ?_
                  rw [nI_add1 (p := p) (k := 6) (x := 6) rfl (by omega)]
                  show pl _ _ _ (_, [(4, .int (nI (p + 6))), (6, .int (nI (by2 f (p + 4)))), (0, .ref m0), (3, .int (nI (by2 f p0))), (5, .int (nI i))], [], M1) _
                  refine ps_st (S' := (233, [(4, .int (nI (p + 6))), (6, .int (nI (by2 f (p + 4)))), (0, .ref m0), (3, .int (nI (by2 f p0))), (5, .int (nI i))], [.int 0], M1)) rfl rfl rfl ?_
                  refine ps_st (S' := (235, [(0, .ref m0), (3, .int (nI (by2 f p0))), (4, .int (nI (p + 6))), (5, .int (nI i)), (6, .int (nI (by2 f (p + 4)))), (7, .int 0)], [], M1)) rfl rfl rfl ?_
                  exact ih.2.2.2 (i) (p) (0) (p + 6) (y9) M1 I1 R1 hR1 hEI1 hER1 hl51 hl52 hl53 hF1 hY1 hP1 (hfe) (by omega) (by omega) (hq6) (hq7) (by omega) (hs) (rfl)
                · have c_213 : ¬ (¬ (nI (fldN (tX f n E (by2 f (p + 2))))) = 0) := of_decide_eq_false c_213
                  have n_213 : fldN (tX f n E (by2 f (p + 2))) = 0 := (eq_nI (p := fldN (tX f n E (by2 f (p + 2)))) (n := 0) (Nat.lt_trans (le1_fld _) (by decide)) (by decide)).mp (Decidable.not_not.mp c_213)
                  refine ps_st (S' := (218, [], [.int 37], M1)) rfl rfl rfl ?_
                  exact ps_ret rfl rfl (Or.inr (Or.inl ⟨I1, R1, hfe, by
                      rw [← hs, rcS_st (i := i) (by omega), if_pos (by omega)], rfl, hR1, hEI1, hER1⟩))
      · skip
        intro i p j y x9 M1 I1 R1 hR1 hEI1 hER1 hl51 hl52 hl53 hF1 hY1 hP1 hfe hi hj hg hf2 h37 hs hd
        have hn := hF1.1
        have hu9 := by2_lt f p0
        have hu8 := by2_lt f (p + 4)
        refine ps_st1 (S' := (237, [(0, .ref m0), (3, .int (nI (by2 f p0))), (4, .int (nI y)), (5, .int (nI i)), (6, .int (nI (by2 f (p + 4)))), (7, .int (nI j))], [.int (nI j)], M1)) rfl rfl rfl ?_
        refine ps_st (S' := (239, [(0, .ref m0), (3, .int (nI (by2 f p0))), (4, .int (nI y)), (5, .int (nI i)), (6, .int (nI (by2 f (p + 4)))), (7, .int (nI j))], [.int (nI (by2 f (p + 4))), .int (nI j)], M1)) rfl rfl rfl ?_
        refine ps_if2 (S1 := (290, [(0, .ref m0), (3, .int (nI (by2 f p0))), (4, .int (nI y)), (5, .int (nI i)), (6, .int (nI (by2 f (p + 4)))), (7, .int (nI j))], [], M1)) (S2 := (242, [(0, .ref m0), (3, .int (nI (by2 f p0))), (4, .int (nI y)), (5, .int (nI i)), (6, .int (nI (by2 f (p + 4)))), (7, .int (nI j))], [], M1)) rfl rfl rfl (fun c_239 => ?_) (fun c_239 => ?_)
        · have c_239 : (nI (by2 f (p + 4))) ≤ (nI j) := of_decide_eq_true c_239
          have n_239 : by2 f (p + 4) ≤ j := (le_nI (p := by2 f (p + 4)) (n := j) (Nat.lt_trans (by2_lt _ _) (by decide)) (by omega)).mp c_239
          refine ps_st (S' := (293, [(5, .int ((nI i) + 1)), (0, .ref m0), (3, .int (nI (by2 f p0))), (4, .int (nI y)), (6, .int (nI (by2 f (p + 4)))), (7, .int (nI j))], [], M1)) rfl rfl rfl ?_
          rw [nI_add1 (p := i) (k := 1) (x := 1) rfl (by omega)]
          show pl _ _ _ (_, [(5, .int (nI (i + 1))), (0, .ref m0), (3, .int (nI (by2 f p0))), (4, .int (nI y)), (6, .int (nI (by2 f (p + 4)))), (7, .int (nI j))], [], M1) _
          refine ps_st (S' := (143, [(0, .ref m0), (3, .int (nI (by2 f p0))), (4, .int (nI y)), (5, .int (nI (i + 1)))], [], M1)) rfl rfl rfl ?_
          exact ih.2.2.1 (i + 1) (y) M1 I1 R1 hR1 hEI1 hER1 hl51 hl52 hl53 hF1 hY1 hP1 (hfe) (by omega) (by
              rw [show by2 f (p + 4) - j = 0 by omega] at hg
              have e9 : y = x9 := Option.some.inj (show some y = some x9 from hg)
              rw [e9]
              exact hf2) (by
              rw [← hs, rcS_st (i := i) (by omega), if_neg h37, ← hd, show by2 f (p + 4) - j = 0 by omega]
              rfl)
        · have c_239 : ¬ ((nI (by2 f (p + 4))) ≤ (nI j)) := of_decide_eq_false c_239
          have n_239 : ¬ (by2 f (p + 4) ≤ j) := fun h9 => c_239 ((le_nI (p := by2 f (p + 4)) (n := j) (Nat.lt_trans (by2_lt _ _) (by decide)) (by omega)).mpr h9)
          obtain ⟨hw5, hw6, hw7⟩ := s_atE_in (i := j) (p := y) hg (by omega)
          refine ps_st (S' := (243, [(0, .ref m0), (3, .int (nI (by2 f p0))), (4, .int (nI y)), (5, .int (nI i)), (6, .int (nI (by2 f (p + 4)))), (7, .int (nI j))], [.ref m0], M1)) rfl rfl rfl ?_
          refine ps_st (S' := (244, [(0, .ref m0), (3, .int (nI (by2 f p0))), (4, .int (nI y)), (5, .int (nI i)), (6, .int (nI (by2 f (p + 4)))), (7, .int (nI j))], [.ref m0, .ref m0], M1)) rfl rfl rfl ?_
          refine ps_st (S' := (246, [(0, .ref m0), (3, .int (nI (by2 f p0))), (4, .int (nI y)), (5, .int (nI i)), (6, .int (nI (by2 f (p + 4)))), (7, .int (nI j))], [.int (nI y), .ref m0, .ref m0], M1)) rfl rfl rfl ?_
          refine pl_call (a := [.ref m0, .int (nI y)]) (rest := [.ref m0]) rfl rfl rfl (rd_u2 (n := n) (f := f) (p := y) hR1 hF1 (by omega)) (fun v57 M58 q59 => ?_)
          obtain ⟨rfl, rfl⟩ := q59
          show pl _ _ _ (249, [(0, .ref m0), (3, .int (nI (by2 f p0))), (4, .int (nI y)), (5, .int (nI i)), (6, .int (nI (by2 f (p + 4)))), (7, .int (nI j))], [.int (nI (by2 f y)), .ref m0], M1) _
          have hu_246 := by2_lt f y
          refine pl_call (a := [.ref m0, .int (nI (by2 f y))]) (rest := []) rfl rfl rfl (rd_tag (n := n) (f := f) (tx := tx) (cN := cN) (A := A) (N := N) (mj := mj) (E := E) (k := (by2 f y)) hR1 hl51 hl52 hl53 hF1 hY1 hP1 (hEP) (hN) (hmj) (by2_lt _ _)) (fun v60 M61 q62 => ?_)
          obtain ⟨rfl, rfl⟩ := q62
          show pl _ _ _ (252, [(0, .ref m0), (3, .int (nI (by2 f p0))), (4, .int (nI y)), (5, .int (nI i)), (6, .int (nI (by2 f (p + 4)))), (7, .int (nI j))], [.int (nI (tg f E (by2 f y)))], M1) _
          have htg_249 := tg_lt f E (by2 f y)
          refine ps_st (S' := (253, [(0, .ref m0), (3, .int (nI (by2 f p0))), (4, .int (nI y)), (5, .int (nI i)), (6, .int (nI (by2 f (p + 4)))), (7, .int (nI j))], [.int 1, .int (nI (tg f E (by2 f y)))], M1)) rfl rfl rfl ?_
          refine ps_if2 (S1 := (267, [(0, .ref m0), (3, .int (nI (by2 f p0))), (4, .int (nI y)), (5, .int (nI i)), (6, .int (nI (by2 f (p + 4)))), (7, .int (nI j))], [], M1)) (S2 := (256, [(0, .ref m0), (3, .int (nI (by2 f p0))), (4, .int (nI y)), (5, .int (nI i)), (6, .int (nI (by2 f (p + 4)))), (7, .int (nI j))], [], M1)) rfl rfl rfl (fun c_253 => ?_) (fun c_253 => ?_)
          · have c_253 : (nI (tg f E (by2 f y))) = 1 := of_decide_eq_true c_253
            have n_253 : tg f E (by2 f y) = 1 := (eq_nI (p := tg f E (by2 f y)) (n := 1) (Nat.lt_trans (tg_lt _ _ _) (by decide)) (by decide)).mp c_253
            refine ps_st (S' := (269, [(0, .ref m0), (3, .int (nI (by2 f p0))), (4, .int (nI y)), (5, .int (nI i)), (6, .int (nI (by2 f (p + 4)))), (7, .int (nI j))], [.int (nI y)], M1)) rfl rfl rfl ?_
            refine ps_st (S' := (271, [(0, .ref m0), (3, .int (nI (by2 f p0))), (4, .int (nI y)), (5, .int (nI i)), (6, .int (nI (by2 f (p + 4)))), (7, .int (nI j))], [.int 6, .int (nI y)], M1)) rfl rfl rfl ?_
            refine ps_st (S' := (272, [(0, .ref m0), (3, .int (nI (by2 f p0))), (4, .int (nI y)), (5, .int (nI i)), (6, .int (nI (by2 f (p + 4)))), (7, .int (nI j))], [.ref m0, .int 6, .int (nI y)], M1)) rfl rfl rfl ?_
            refine ps_st (S' := (274, [(0, .ref m0), (3, .int (nI (by2 f p0))), (4, .int (nI y)), (5, .int (nI i)), (6, .int (nI (by2 f (p + 4)))), (7, .int (nI j))], [.int (nI y), .ref m0, .int 6, .int (nI y)], M1)) rfl rfl rfl ?_
            refine ps_st (S' := (275, [(0, .ref m0), (3, .int (nI (by2 f p0))), (4, .int (nI y)), (5, .int (nI i)), (6, .int (nI (by2 f (p + 4)))), (7, .int (nI j))], [.int 2, .int (nI y), .ref m0, .int 6, .int (nI y)], M1)) rfl rfl rfl ?_
            refine ps_st (S' := (276, [(0, .ref m0), (3, .int (nI (by2 f p0))), (4, .int (nI y)), (5, .int (nI i)), (6, .int (nI (by2 f (p + 4)))), (7, .int (nI j))], [.int ((nI y) + 2), .ref m0, .int 6, .int (nI y)], M1)) rfl rfl rfl ?_
            rw [nI_add1 (p := y) (k := 2) (x := 2) rfl (by omega)]
            show pl _ _ _ (_, [(0, .ref m0), (3, .int (nI (by2 f p0))), (4, .int (nI y)), (5, .int (nI i)), (6, .int (nI (by2 f (p + 4)))), (7, .int (nI j))], [.int (nI (y + 2)), .ref m0, .int 6, .int (nI y)], M1) _
            refine pl_call (a := [.ref m0, .int (nI (y + 2))]) (rest := [.int 6, .int (nI y)]) rfl rfl rfl (rd_u4 (n := n) (f := f) (p := (y + 2)) hR1 hF1 (by omega)) (fun v63 M64 q65 => ?_)
            obtain ⟨rfl, rfl⟩ := q65
            show pl _ _ _ (279, [(0, .ref m0), (3, .int (nI (by2 f p0))), (4, .int (nI y)), (5, .int (nI i)), (6, .int (nI (by2 f (p + 4)))), (7, .int (nI j))], [.long (nL (by4 f (y + 2))), .int 6, .int (nI y)], M1) _
            have hu_276 := by4_lt f (y + 2)
            refine ps_st (S' := (280, [(0, .ref m0), (3, .int (nI (by2 f p0))), (4, .int (nI y)), (5, .int (nI i)), (6, .int (nI (by2 f (p + 4)))), (7, .int (nI j))], [.int (Int64.toInt32 (nL (by4 f (y + 2)))), .int 6, .int (nI y)], M1)) rfl rfl rfl ?_
            rw [l2i_nL (p := by4 f (y + 2)) (by omega)]
            show pl _ _ _ (_, [(0, .ref m0), (3, .int (nI (by2 f p0))), (4, .int (nI y)), (5, .int (nI i)), (6, .int (nI (by2 f (p + 4)))), (7, .int (nI j))], [.int (nI (by4 f (y + 2))), .int 6, .int (nI y)], M1) _
            refine ps_st (S' := (281, [(0, .ref m0), (3, .int (nI (by2 f p0))), (4, .int (nI y)), (5, .int (nI i)), (6, .int (nI (by2 f (p + 4)))), (7, .int (nI j))], [.int (6 + (nI (by4 f (y + 2)))), .int (nI y)], M1)) rfl rfl rfl ?_
            rw [nI_add2 (p := 6) (k := by4 f (y + 2)) (x := 6) (y := (nI (by4 f (y + 2)))) rfl rfl (by omega)]
            show pl _ _ _ (_, [(0, .ref m0), (3, .int (nI (by2 f p0))), (4, .int (nI y)), (5, .int (nI i)), (6, .int (nI (by2 f (p + 4)))), (7, .int (nI j))], [.int (nI (6 + by4 f (y + 2))), .int (nI y)], M1) _
            refine ps_st (S' := (282, [(0, .ref m0), (3, .int (nI (by2 f p0))), (4, .int (nI y)), (5, .int (nI i)), (6, .int (nI (by2 f (p + 4)))), (7, .int (nI j))], [.int ((nI y) + (nI (6 + by4 f (y + 2))))], M1)) rfl rfl rfl ?_
            rw [nI_add1 (p := y) (k := 6 + by4 f (y + 2)) (x := (nI (6 + by4 f (y + 2)))) rfl (by omega)]
            rw [show nI (y + (6 + by4 f (y + 2))) = nI (y + 6 + by4 f (y + 2)) from congrArg nI (by omega)]
            show pl _ _ _ (_, [(0, .ref m0), (3, .int (nI (by2 f p0))), (4, .int (nI y)), (5, .int (nI i)), (6, .int (nI (by2 f (p + 4)))), (7, .int (nI j))], [.int (nI (y + 6 + by4 f (y + 2)))], M1) _
            refine ps_st (S' := (284, [(4, .int (nI (y + 6 + by4 f (y + 2)))), (0, .ref m0), (3, .int (nI (by2 f p0))), (5, .int (nI i)), (6, .int (nI (by2 f (p + 4)))), (7, .int (nI j))], [], M1)) rfl rfl rfl ?_
            refine ps_st (S' := (287, [(7, .int ((nI j) + 1)), (4, .int (nI (y + 6 + by4 f (y + 2)))), (0, .ref m0), (3, .int (nI (by2 f p0))), (5, .int (nI i)), (6, .int (nI (by2 f (p + 4))))], [], M1)) rfl rfl rfl ?_
            rw [nI_add1 (p := j) (k := 1) (x := 1) rfl (by omega)]
            show pl _ _ _ (_, [(7, .int (nI (j + 1))), (4, .int (nI (y + 6 + by4 f (y + 2)))), (0, .ref m0), (3, .int (nI (by2 f p0))), (5, .int (nI i)), (6, .int (nI (by2 f (p + 4))))], [], M1) _
            refine ps_st (S' := (235, [(0, .ref m0), (3, .int (nI (by2 f p0))), (4, .int (nI (y + 6 + by4 f (y + 2)))), (5, .int (nI i)), (6, .int (nI (by2 f (p + 4)))), (7, .int (nI (j + 1)))], [], M1)) rfl rfl rfl ?_
            exact ih.2.2.2 (i) (p) (j + 1) (y + 6 + by4 f (y + 2)) (x9) M1 I1 R1 hR1 hEI1 hER1 hl51 hl52 hl53 hF1 hY1 hP1 (hfe) (hi) (by omega) (hw7) (hf2) (h37) (hs) (by
                rw [← hd, rcA_st (i := j) (by omega), if_neg (by omega)])
          · have c_253 : ¬ ((nI (tg f E (by2 f y))) = 1) := of_decide_eq_false c_253
            have n_253 : ¬ (tg f E (by2 f y) = 1) := fun h9 => c_253 ((eq_nI (p := tg f E (by2 f y)) (n := 1) (Nat.lt_trans (tg_lt _ _ _) (by decide)) (by decide)).mpr h9)
            refine ps_st (S' := (257, [(0, .ref m0), (3, .int (nI (by2 f p0))), (4, .int (nI y)), (5, .int (nI i)), (6, .int (nI (by2 f (p + 4)))), (7, .int (nI j))], [.ref m0], M1)) rfl rfl rfl ?_
            refine ps_st (S' := (259, [(0, .ref m0), (3, .int (nI (by2 f p0))), (4, .int (nI y)), (5, .int (nI i)), (6, .int (nI (by2 f (p + 4)))), (7, .int (nI j))], [.int 28, .ref m0], M1)) rfl rfl rfl ?_
            refine ps_st (S' := (261, [(0, .ref m0), (3, .int (nI (by2 f p0))), (4, .int (nI y)), (5, .int (nI i)), (6, .int (nI (by2 f (p + 4)))), (7, .int (nI j))], [.int (nI y), .int 28, .ref m0], M1)) rfl rfl rfl ?_
            refine pl_call (a := [.ref m0, .int 28, .int (nI y)]) (rest := []) rfl rfl rfl (rd_wrong (x1 := 28) (x2 := (nI y)) hR1) (fun v66 M67 q68 => ?_)
            obtain ⟨I69, R70, rfl, hR71, hI72, hX73, hi74, hi75⟩ := q68
            have hi76 := (hI72 51 (by decide)).trans hl51
            have hi77 := (hI72 52 (by decide)).trans hl52
            have hi78 := (hI72 53 (by decide)).trans hl53
            have hF_79 := hF1.mono (cIx hI72 (by decide)) (cRx hX73 (by decide))
            have hY_80 := hY1.mono (cIx hI72 (by decide)) (cRx hX73 (by decide))
            have hP_81 := hP1.mono (cIx hI72 (by decide)) (cRx hX73 (by decide))
            have hEI82 := hEI1.tr hI72 (by decide)
            have hER83 := hER1.tr hX73 (by decide)
            show pl _ _ _ (264, [(0, .ref m0), (3, .int (nI (by2 f p0))), (4, .int (nI y)), (5, .int (nI i)), (6, .int (nI (by2 f (p + 4)))), (7, .int (nI j))], [.int 0], M67) _
            refine ps_st (S' := (265, [(0, .ref m0), (3, .int (nI (by2 f p0))), (4, .int (nI y)), (5, .int (nI i)), (6, .int (nI (by2 f (p + 4)))), (7, .int (nI j))], [], M67)) rfl rfl rfl ?_
            refine ps_st (S' := (266, [(0, .ref m0), (3, .int (nI (by2 f p0))), (4, .int (nI y)), (5, .int (nI i)), (6, .int (nI (by2 f (p + 4)))), (7, .int (nI j))], [.int (-1)], M67)) rfl rfl rfl ?_
            exact ps_ret rfl rfl (Or.inr (Or.inr (Or.inl ⟨y, I69, R70, hfe, by
                rw [← hs, rcS_st (i := i) (by omega), if_neg h37, ← hd, rcA_st (i := j) (by omega), if_pos (by omega)], rfl, hR71, hEI82, hER83, hi74, hi75⟩)))
  refine ps_st (S' := (1, [(0, .ref m0), (1, .int (nI p0)), (2, .int (nI e))], [.int (nI e)], M)) rfl rfl rfl ?_
  refine ps_st (S' := (2, [(0, .ref m0), (1, .int (nI p0)), (2, .int (nI e))], [.int (nI p0), .int (nI e)], M)) rfl rfl rfl ?_
  refine ps_st (S' := (3, [(0, .ref m0), (1, .int (nI p0)), (2, .int (nI e))], [.int ((nI e) - (nI p0))], M)) rfl rfl rfl ?_
  refine ps_st (S' := (4, [(0, .ref m0), (1, .int (nI p0)), (2, .int (nI e))], [.int 2, .int ((nI e) - (nI p0))], M)) rfl rfl rfl ?_
  refine ps_if2 (S1 := (10, [(0, .ref m0), (1, .int (nI p0)), (2, .int (nI e))], [], M)) (S2 := (7, [(0, .ref m0), (1, .int (nI p0)), (2, .int (nI e))], [], M)) rfl rfl rfl (fun c_4 => ?_) (fun c_4 => ?_)
  · have c_4 : 2 ≤ ((nI e) - (nI p0)) := of_decide_eq_true c_4
    have n_4 : 2 + p0 ≤ e := (le_sub1 (e := e) (p := p0) (k := 2) (by omega) (by omega) (by omega)).mp c_4
    refine ps_st (S' := (11, [(0, .ref m0), (1, .int (nI p0)), (2, .int (nI e))], [.ref m0], M)) rfl rfl rfl ?_
    refine ps_st (S' := (12, [(0, .ref m0), (1, .int (nI p0)), (2, .int (nI e))], [.int (nI p0), .ref m0], M)) rfl rfl rfl ?_
    refine pl_call (a := [.ref m0, .int (nI p0)]) (rest := []) rfl rfl rfl (rd_u2 (n := n) (f := f) (p := p0) hR hF (by omega)) (fun v84 M85 q86 => ?_)
    obtain ⟨rfl, rfl⟩ := q86
    show pl _ _ _ (15, [(0, .ref m0), (1, .int (nI p0)), (2, .int (nI e))], [.int (nI (by2 f p0))], M) _
    have hu_12 := by2_lt f p0
    refine ps_st (S' := (16, [(3, .int (nI (by2 f p0))), (0, .ref m0), (1, .int (nI p0)), (2, .int (nI e))], [], M)) rfl rfl rfl ?_
    refine ps_st (S' := (17, [(3, .int (nI (by2 f p0))), (0, .ref m0), (1, .int (nI p0)), (2, .int (nI e))], [.int (nI p0)], M)) rfl rfl rfl ?_
    refine ps_st (S' := (18, [(3, .int (nI (by2 f p0))), (0, .ref m0), (1, .int (nI p0)), (2, .int (nI e))], [.int 2, .int (nI p0)], M)) rfl rfl rfl ?_
    refine ps_st (S' := (19, [(3, .int (nI (by2 f p0))), (0, .ref m0), (1, .int (nI p0)), (2, .int (nI e))], [.int ((nI p0) + 2)], M)) rfl rfl rfl ?_
    rw [nI_add1 (p := p0) (k := 2) (x := 2) rfl (by omega)]
    show pl _ _ _ (_, [(3, .int (nI (by2 f p0))), (0, .ref m0), (1, .int (nI p0)), (2, .int (nI e))], [.int (nI (p0 + 2))], M) _
    refine ps_st (S' := (21, [(4, .int (nI (p0 + 2))), (3, .int (nI (by2 f p0))), (0, .ref m0), (1, .int (nI p0)), (2, .int (nI e))], [], M)) rfl rfl rfl ?_
    refine ps_st (S' := (22, [(4, .int (nI (p0 + 2))), (3, .int (nI (by2 f p0))), (0, .ref m0), (1, .int (nI p0)), (2, .int (nI e))], [.int 0], M)) rfl rfl rfl ?_
    refine ps_st (S' := (24, [(0, .ref m0), (1, .int (nI p0)), (2, .int (nI e)), (3, .int (nI (by2 f p0))), (4, .int (nI (p0 + 2))), (5, .int 0)], [], M)) rfl rfl rfl ?_
    exact (LL kf).1 (0) (p0 + 2) M I R hR hEI hER hi51 hi52 hi53 hF hY hP (by omega) (by omega) (by omega) (rfl)
  · have c_4 : ¬ (2 ≤ ((nI e) - (nI p0))) := of_decide_eq_false c_4
    have n_4 : ¬ (2 + p0 ≤ e) := fun h8 => c_4 ((le_sub1 (e := e) (p := p0) (k := 2) (by omega) (by omega) (by omega)).mpr h8)
    refine ps_st (S' := (9, [(0, .ref m0), (1, .int (nI p0)), (2, .int (nI e))], [.int 30], M)) rfl rfl rfl ?_
    exact ps_ret rfl rfl (Or.inl ⟨I, R, fe_2 (by omega), rfl, hR, hEI, hER⟩)
end
section
/-! attributes that the reference knows (my own text) -/
section KNA
def kiN (i : Nat) : Nat := [1, 2, 2, 3, 4, 4, 4, 4, 4, 4].getD i 0
def kfN (i : Nat) : Nat := [0, 0, 0, 50, 0, 51, 55, 55, 60, 61].getD i 0
theorem kiN_lt (i : Nat) : kiN i < 5 := by
  have : ∀ i, i < 10 → kiN i < 5 := by decide
  by_cases h : i < 10
  · exact this i h
  · unfold kiN
    rw [List.getD_eq_getElem?_getD, List.getElem?_eq_none (by simp; omega)]
    decide
theorem kfN_lt (i : Nat) : kfN i < 62 := by
  have : ∀ i, i < 10 → kfN i < 62 := by decide
  by_cases h : i < 10
  · exact this i h
  · unfold kfN
    rw [List.getD_eq_getElem?_getD, List.getElem?_eq_none (by simp; omega)]
    decide
/-- the last name ahead of number i that this text is -/
def kb (mj wh : Nat) (l : List Nat) : Nat → Option Nat
  | 0 => none
  | i + 1 => if kiN i = wh ∧ kfN i ≤ mj ∧ ¬ eqN l (ltx (15 + i)) = 0 then some i else kb mj wh l i
theorem kb_lt {mj wh : Nat} {l : List Nat} : ∀ {i t : Nat}, kb mj wh l i = some t → t < i := by
  intro i
  induction i with
  | zero => intro t h; cases h
  | succ i ih =>
    intro t h
    unfold kb at h
    split at h
    · cases h; omega
    · have := ih h; omega
theorem kb_3 {mj : Nat} {l : List Nat} : kb mj 3 l 10 = if 50 ≤ mj ∧ ¬ eqN l (ltx 18) = 0 then some 3 else none := by
  simp only [kb, kiN, kfN]
  simp
/-- the row of names, its kinds and versions -/
def KX (I : rI) (R : rR) : Prop := ∀ i, i < 10 → R 63 i = some (nI (kiN i)) ∧ R 64 i = some (nI (kfN i))
theorem KX.mono {I I' : rI} {R R' : rR} (h : KX I R) (hI : ∀ k, k ∈ ([] : List Nat) → I' k = I k) (hR : ∀ k, k ∈ [63, 64] → R' k = R k) : KX I' R' := fun i hi => by
  rw [hR 63 (by decide), hR 64 (by decide)]
  exact h i hi
theorem knl_at : ∀ j, j < 10 → knl[j]? = some (15 + j) := by decide
variable {g : xe_G} {m0 : Nat} {q : Nat → Nat} {z : Nat × Nat} {I : rI} {R : rR} {M : mi_H} {T : Nat → Option (Nat × mi_B)} {k pc : Nat} {tb : mi_B} {lv : List (Nat × Value)} {s0 : List Value} {S' : mi_S} {Q : Option Value → mi_H → Prop}
theorem pr_kn {j : Nat} (h1 : tb.1 pc = some (.inl (o_ald (.object "java/lang/String")))) (hR : RS g m0 q z I R M) (hj : j < 10) (e1 : mi_nk tb.2 (pc + 1, lv, .ref (g.2.1 (15 + j)) :: s0, M) = S') (kk : pl T k tb S' Q) : pl T k tb (pc, lv, .int (nI j) :: .ref (q 62) :: s0, M) Q := by
  subst e1
  refine pl_st h1 (fun S1 h => ?_)
  have hg : mi_ga M (q 62) (.object "java/lang/String") = some (10, fun i => (knl[i]?).map (fun j => Value.ref (g.2.1 j))) := by
    unfold mi_ga
    rw [hR.2.2.1]
    simp
  unfold o_ald at h
  simp only [hg] at h
  split at h
  · cases h
  · rw [nI_toNat (by omega), knl_at j hj] at h
    cases h
    exact kk
theorem pr_knl (h1 : tb.1 pc = some (.inl (o_alen (.object "java/lang/String")))) (hR : RS g m0 q z I R M) (e1 : mi_nk tb.2 (pc + 1, lv, .int (nI 10) :: s0, M) = S') (kk : pl T k tb S' Q) : pl T k tb (pc, lv, .ref (q 62) :: s0, M) Q := by
  subst e1
  have hg : mi_ga M (q 62) (.object "java/lang/String") = some (10, fun i => (knl[i]?).map (fun j => Value.ref (g.2.1 j))) := by
    unfold mi_ga
    rw [hR.2.2.1]
    simp
  exact pl_is h1 (S' := (pc + 1, lv, .int (nI 10) :: s0, M)) (by simp only [o_alen, hg]; rfl) kk
end KNA
theorem sb_1 {s k : Nat} : sb s k = 1 ↔ ¬ sb s k = 0 := by
  have := sb_lt s k
  omega

theorem lt_eq3 : ltx 18 = ltx 10 := by decide +kernel
set_option maxHeartbeats 1000000 in
theorem rd_attr3 {g : xe_G} {m0 : Nat} {q : Nat → Nat} {z : Nat × Nat} {I : rI} {R : rR} {M : mi_H} {x2 x3 x4 x5 x6 : Int32} (hR : RS g m0 q z I R M)    : pt (mT g) 177 [.ref m0, .int 3, .int x2, .int x3, .int x4, .int x5, .int x6] M (fun v M' => (v = some (.int 0) ∧ M = M')) := by
  refine pt_in (b := mb_177 g) rfl (fun kf => ?_)
  show pl (mT g) kf (mb_177 g).2 (0, [(0, .ref m0), (1, .int 3), (2, .int x2), (3, .int x3), (4, .int x4), (5, .int x5), (6, .int x6)], [], M) _
  refine ps_st (S' := (1, [(0, .ref m0), (1, .int 3), (2, .int x2), (3, .int x3), (4, .int x4), (5, .int x5), (6, .int x6)], [.int 3], M)) rfl rfl rfl ?_
  refine ps_st (S' := (398, [(0, .ref m0), (1, .int 3), (2, .int x2), (3, .int x3), (4, .int x4), (5, .int x5), (6, .int x6)], [], M)) rfl rfl rfl ?_
  refine ps_st (S' := (399, [(0, .ref m0), (1, .int 3), (2, .int x2), (3, .int x3), (4, .int x4), (5, .int x5), (6, .int x6)], [.int 0], M)) rfl rfl rfl ?_
  exact ps_ret rfl rfl (⟨rfl, rfl⟩)
set_option maxHeartbeats 4000000 in
theorem rd_checkAttributes3 {g : xe_G} {m0 : Nat} {q : Nat → Nat} {z : Nat × Nat} {I : rI} {R : rR} {M : mi_H} {n : Nat} {f : Nat → Int32} {tx : List (List Nat)} {cN : Nat} {A : Nat → Nat} {N mj : Nat} {E : List (Nat × Nat)} {p1 e x : Nat} (hR : RS g m0 q z I R M) (hi51 : I 51 = some 0) (hi52 : I 52 = some (nI N)) (hi53 : I 53 = some (nI mj)) (hF : FK n f I R) (hY : SYT tx cN A I R) (hP : RPV f n E tx N I R) (hK : KX I R) (hEP : EP f n E) (hN : N < 65536) (hmj : mj < 65536) (hin : p1 + 2 ≤ e ∧ e ≤ n) (hat : s_atE f e (by2 f p1) (p1 + 2) = some e) : pt (mT g) 187 [.ref m0, .int (nI p1), .int 3, .int (nI x)] M (fun v M' => (∃ (e9 : Nat × Nat) (I' : rI) (R' : rR), (caS f n E mj (by2 f p1) (p1 + 2) 0 = .inl e9) ∧ v = some (.int (-1)) ∧ RS g m0 q z I' R' M' ∧ eqI [47, 48] I I' ∧ eqR [] R R' ∧ I' 47 = some (nI e9.1) ∧ I' 48 = some (nI e9.2)) ∨ (∃ (s' : Nat) (I' : rI) (R' : rR), (caS f n E mj (by2 f p1) (p1 + 2) 0 = .inr s') ∧ v = some (.int (nI e)) ∧ RS g m0 q z I' R' M' ∧ eqI [47, 48] I I' ∧ eqR [] R R')) := by
  refine pt_in (b := mb_187 g) rfl (fun kf => ?_)
  show pl (mT g) kf (mb_187 g).2 (0, [(0, .ref m0), (1, .int (nI p1)), (2, .int 3), (3, .int (nI x))], [], M) _
  have hEI : eqI [47, 48] I I := eqI.rf
  have hER : eqR [] R R := eqR.rf
  have hn := hF.1
  have LL : ∀ (kf : Nat), (∀ (i p s2 s3 : Nat) (M1 : mi_H) (I1 : rI) (R1 : rR), (RS g m0 q z I1 R1 M1) → (eqI [47, 48] I I1) → (eqR [] R R1) → (I1 51 = some 0) → (I1 52 = some (nI N)) → (I1 53 = some (nI mj)) → (FK n f I1 R1) → (SYT tx cN A I1 R1) → (RPV f n E tx N I1 R1) → (KX I1 R1) → (i ≤ by2 f p1) → (s2 < 2048 ∧ s3 < 2048) → (sb s3 3 = sb s2 4) → (s_atE f e (by2 f p1 - i) p = some e) → (caS f n E mj (by2 f p1 - i) p s2 = caS f n E mj (by2 f p1) (p1 + 2) 0) →  pl (mT g) kf (mb_187 g).2 (18, [(0, .ref m0), (2, .int 3), (3, .int (nI x)), (4, .int (nI (by2 f p1))), (5, .int (nI p)), (6, .int (nI s3)), (7, .int (nI i))], [], M1) (fun v M' => (∃ (e9 : Nat × Nat) (I' : rI) (R' : rR), (caS f n E mj (by2 f p1) (p1 + 2) 0 = .inl e9) ∧ v = some (.int (-1)) ∧ RS g m0 q z I' R' M' ∧ eqI [47, 48] I I' ∧ eqR [] R R' ∧ I' 47 = some (nI e9.1) ∧ I' 48 = some (nI e9.2)) ∨ (∃ (s' : Nat) (I' : rI) (R' : rR), (caS f n E mj (by2 f p1) (p1 + 2) 0 = .inr s') ∧ v = some (.int (nI e)) ∧ RS g m0 q z I' R' M' ∧ eqI [47, 48] I I' ∧ eqR [] R R'))) ∧ (∀ (i p s2 s3 k t : Nat) (M1 : mi_H) (I1 : rI) (R1 : rR), (RS g m0 q z I1 R1 M1) → (eqI [47, 48] I I1) → (eqR [] R R1) → (I1 51 = some 0) → (I1 52 = some (nI N)) → (I1 53 = some (nI mj)) → (FK n f I1 R1) → (SYT tx cN A I1 R1) → (RPV f n E tx N I1 R1) → (KX I1 R1) → (i < by2 f p1) → (s2 < 2048 ∧ s3 < 2048) → (sb s3 3 = sb s2 4) → (s_atE f e (by2 f p1 - i) p = some e) → (caS f n E mj (by2 f p1 - i) p s2 = caS f n E mj (by2 f p1) (p1 + 2) 0) → (k ≤ 10) → (tg f E (by2 f p) = 1) → (t < tx.length ∧ tx.getD t [] = tX f n E (by2 f p)) →  pl (mT g) kf (mb_187 g).2 (79, [(0, .ref m0), (2, .int 3), (3, .int (nI x)), (4, .int (nI (by2 f p1))), (5, .int (nI p)), (6, .int (nI s3)), (7, .int (nI i)), (8, .int (nI (by4 f (p + 2)))), (9, .int (nI t)), (10, .int (gI (kb mj 3 (tX f n E (by2 f p)) k))), (11, .int (nI k))], [], M1) (fun v M' => (∃ (e9 : Nat × Nat) (I' : rI) (R' : rR), (caS f n E mj (by2 f p1) (p1 + 2) 0 = .inl e9) ∧ v = some (.int (-1)) ∧ RS g m0 q z I' R' M' ∧ eqI [47, 48] I I' ∧ eqR [] R R' ∧ I' 47 = some (nI e9.1) ∧ I' 48 = some (nI e9.2)) ∨ (∃ (s' : Nat) (I' : rI) (R' : rR), (caS f n E mj (by2 f p1) (p1 + 2) 0 = .inr s') ∧ v = some (.int (nI e)) ∧ RS g m0 q z I' R' M' ∧ eqI [47, 48] I I' ∧ eqR [] R R'))) := by
    intro kf
    induction kf with
    | zero => exact ⟨by intros; exact pl_0, by intros; exact pl_0⟩
    | succ kf ih =>
      refine ⟨?_, ?_⟩
      · skip
        intro i p s2 s3 M1 I1 R1 hR1 hEI1 hER1 hl51 hl52 hl53 hF1 hY1 hP1 hK1 hi hl hb ha hs9
        have hn := hF1.1
        have hu9 := by2_lt f p1
        have htl := hY1.1.2.2.1
        refine ps_st1 (S' := (20, [(0, .ref m0), (2, .int 3), (3, .int (nI x)), (4, .int (nI (by2 f p1))), (5, .int (nI p)), (6, .int (nI s3)), (7, .int (nI i))], [.int (nI i)], M1)) rfl rfl rfl ?_
        refine ps_st (S' := (22, [(0, .ref m0), (2, .int 3), (3, .int (nI x)), (4, .int (nI (by2 f p1))), (5, .int (nI p)), (6, .int (nI s3)), (7, .int (nI i))], [.int (nI (by2 f p1)), .int (nI i)], M1)) rfl rfl rfl ?_
        refine ps_if2 (S1 := (284, [(0, .ref m0), (2, .int 3), (3, .int (nI x)), (4, .int (nI (by2 f p1))), (5, .int (nI p)), (6, .int (nI s3)), (7, .int (nI i))], [], M1)) (S2 := (25, [(0, .ref m0), (2, .int 3), (3, .int (nI x)), (4, .int (nI (by2 f p1))), (5, .int (nI p)), (6, .int (nI s3)), (7, .int (nI i))], [], M1)) rfl rfl rfl (fun c_22 => ?_) (fun c_22 => ?_)
        · have c_22 : (nI (by2 f p1)) ≤ (nI i) := of_decide_eq_true c_22
          have n_22 : by2 f p1 ≤ i := (le_nI (p := by2 f p1) (n := i) (Nat.lt_trans (by2_lt _ _) (by decide)) (by omega)).mp c_22
          refine ps_st (S' := (286, [(0, .ref m0), (2, .int 3), (3, .int (nI x)), (4, .int (nI (by2 f p1))), (5, .int (nI p)), (6, .int (nI s3)), (7, .int (nI i))], [.int (nI p)], M1)) rfl rfl rfl ?_
          exact ps_reti rfl (Or.inr ⟨s2, I1, R1, by rw [← hs9, show by2 f p1 - i = 0 by omega]; rfl, by rw [show e = p by (rw [show by2 f p1 - i = 0 by omega] at ha; exact (Option.some.inj ha).symm)], hR1, hEI1, hER1⟩)
        · have c_22 : ¬ ((nI (by2 f p1)) ≤ (nI i)) := of_decide_eq_false c_22
          have n_22 : ¬ (by2 f p1 ≤ i) := fun h9 => c_22 ((le_nI (p := by2 f p1) (n := i) (Nat.lt_trans (by2_lt _ _) (by decide)) (by omega)).mpr h9)
          obtain ⟨hq5, hq6, hq7⟩ := s_atE_in (i := i) (p := p) ha (by omega)
          refine ps_st (S' := (26, [(0, .ref m0), (2, .int 3), (3, .int (nI x)), (4, .int (nI (by2 f p1))), (5, .int (nI p)), (6, .int (nI s3)), (7, .int (nI i))], [.ref m0], M1)) rfl rfl rfl ?_
          refine ps_st (S' := (28, [(0, .ref m0), (2, .int 3), (3, .int (nI x)), (4, .int (nI (by2 f p1))), (5, .int (nI p)), (6, .int (nI s3)), (7, .int (nI i))], [.int (nI p), .ref m0], M1)) rfl rfl rfl ?_
          refine ps_st (S' := (29, [(0, .ref m0), (2, .int 3), (3, .int (nI x)), (4, .int (nI (by2 f p1))), (5, .int (nI p)), (6, .int (nI s3)), (7, .int (nI i))], [.int 2, .int (nI p), .ref m0], M1)) rfl rfl rfl ?_
          refine ps_st (S' := (30, [(0, .ref m0), (2, .int 3), (3, .int (nI x)), (4, .int (nI (by2 f p1))), (5, .int (nI p)), (6, .int (nI s3)), (7, .int (nI i))], [.int ((nI p) + 2), .ref m0], M1)) rfl rfl rfl ?_
          rw [nI_add1 (p := p) (k := 2) (x := 2) rfl (by omega)]
          show pl _ _ _ (_, [(0, .ref m0), (2, .int 3), (3, .int (nI x)), (4, .int (nI (by2 f p1))), (5, .int (nI p)), (6, .int (nI s3)), (7, .int (nI i))], [.int (nI (p + 2)), .ref m0], M1) _
          refine pl_call (a := [.ref m0, .int (nI (p + 2))]) (rest := []) rfl rfl rfl (rd_u4 (n := n) (f := f) (p := (p + 2)) hR1 hF1 (by omega)) (fun v1 M2 q3 => ?_)
          obtain ⟨rfl, rfl⟩ := q3
          show pl _ _ _ (33, [(0, .ref m0), (2, .int 3), (3, .int (nI x)), (4, .int (nI (by2 f p1))), (5, .int (nI p)), (6, .int (nI s3)), (7, .int (nI i))], [.long (nL (by4 f (p + 2)))], M1) _
          have hu_30 := by4_lt f (p + 2)
          refine ps_st (S' := (34, [(0, .ref m0), (2, .int 3), (3, .int (nI x)), (4, .int (nI (by2 f p1))), (5, .int (nI p)), (6, .int (nI s3)), (7, .int (nI i))], [.int (Int64.toInt32 (nL (by4 f (p + 2))))], M1)) rfl rfl rfl ?_
          rw [l2i_nL (p := by4 f (p + 2)) (by omega)]
          show pl _ _ _ (_, [(0, .ref m0), (2, .int 3), (3, .int (nI x)), (4, .int (nI (by2 f p1))), (5, .int (nI p)), (6, .int (nI s3)), (7, .int (nI i))], [.int (nI (by4 f (p + 2)))], M1) _
          refine ps_st (S' := (36, [(8, .int (nI (by4 f (p + 2)))), (0, .ref m0), (2, .int 3), (3, .int (nI x)), (4, .int (nI (by2 f p1))), (5, .int (nI p)), (6, .int (nI s3)), (7, .int (nI i))], [], M1)) rfl rfl rfl ?_
          refine ps_st (S' := (37, [(8, .int (nI (by4 f (p + 2)))), (0, .ref m0), (2, .int 3), (3, .int (nI x)), (4, .int (nI (by2 f p1))), (5, .int (nI p)), (6, .int (nI s3)), (7, .int (nI i))], [.ref m0], M1)) rfl rfl rfl ?_
          refine ps_st (S' := (38, [(8, .int (nI (by4 f (p + 2)))), (0, .ref m0), (2, .int 3), (3, .int (nI x)), (4, .int (nI (by2 f p1))), (5, .int (nI p)), (6, .int (nI s3)), (7, .int (nI i))], [.ref m0, .ref m0], M1)) rfl rfl rfl ?_
          refine ps_st (S' := (40, [(8, .int (nI (by4 f (p + 2)))), (0, .ref m0), (2, .int 3), (3, .int (nI x)), (4, .int (nI (by2 f p1))), (5, .int (nI p)), (6, .int (nI s3)), (7, .int (nI i))], [.int (nI p), .ref m0, .ref m0], M1)) rfl rfl rfl ?_
          refine pl_call (a := [.ref m0, .int (nI p)]) (rest := [.ref m0]) rfl rfl rfl (rd_u2 (n := n) (f := f) (p := p) hR1 hF1 (by omega)) (fun v4 M5 q6 => ?_)
          obtain ⟨rfl, rfl⟩ := q6
          show pl _ _ _ (43, [(8, .int (nI (by4 f (p + 2)))), (0, .ref m0), (2, .int 3), (3, .int (nI x)), (4, .int (nI (by2 f p1))), (5, .int (nI p)), (6, .int (nI s3)), (7, .int (nI i))], [.int (nI (by2 f p)), .ref m0], M1) _
          have hu_40 := by2_lt f p
          refine pl_call (a := [.ref m0, .int (nI (by2 f p))]) (rest := []) rfl rfl rfl (rd_tag (n := n) (f := f) (tx := tx) (cN := cN) (A := A) (N := N) (mj := mj) (E := E) (k := (by2 f p)) hR1 hl51 hl52 hl53 hF1 hY1 hP1 (hEP) (hN) (hmj) (by2_lt _ _)) (fun v7 M8 q9 => ?_)
          obtain ⟨rfl, rfl⟩ := q9
          show pl _ _ _ (46, [(8, .int (nI (by4 f (p + 2)))), (0, .ref m0), (2, .int 3), (3, .int (nI x)), (4, .int (nI (by2 f p1))), (5, .int (nI p)), (6, .int (nI s3)), (7, .int (nI i))], [.int (nI (tg f E (by2 f p)))], M1) _
          have htg_43 := tg_lt f E (by2 f p)
          refine ps_st (S' := (47, [(8, .int (nI (by4 f (p + 2)))), (0, .ref m0), (2, .int 3), (3, .int (nI x)), (4, .int (nI (by2 f p1))), (5, .int (nI p)), (6, .int (nI s3)), (7, .int (nI i))], [.int 1, .int (nI (tg f E (by2 f p)))], M1)) rfl rfl rfl ?_
          refine ps_if2 (S1 := (61, [(8, .int (nI (by4 f (p + 2)))), (0, .ref m0), (2, .int 3), (3, .int (nI x)), (4, .int (nI (by2 f p1))), (5, .int (nI p)), (6, .int (nI s3)), (7, .int (nI i))], [], M1)) (S2 := (50, [(8, .int (nI (by4 f (p + 2)))), (0, .ref m0), (2, .int 3), (3, .int (nI x)), (4, .int (nI (by2 f p1))), (5, .int (nI p)), (6, .int (nI s3)), (7, .int (nI i))], [], M1)) rfl rfl rfl (fun c_47 => ?_) (fun c_47 => ?_)
          · have c_47 : (nI (tg f E (by2 f p))) = 1 := of_decide_eq_true c_47
            have n_47 : tg f E (by2 f p) = 1 := (eq_nI (p := tg f E (by2 f p)) (n := 1) (Nat.lt_trans (tg_lt _ _ _) (by decide)) (by decide)).mp c_47
            refine ps_st (S' := (62, [(8, .int (nI (by4 f (p + 2)))), (0, .ref m0), (2, .int 3), (3, .int (nI x)), (4, .int (nI (by2 f p1))), (5, .int (nI p)), (6, .int (nI s3)), (7, .int (nI i))], [.ref m0], M1)) rfl rfl rfl ?_
            refine ps_st (S' := (63, [(8, .int (nI (by4 f (p + 2)))), (0, .ref m0), (2, .int 3), (3, .int (nI x)), (4, .int (nI (by2 f p1))), (5, .int (nI p)), (6, .int (nI s3)), (7, .int (nI i))], [.ref m0, .ref m0], M1)) rfl rfl rfl ?_
            refine ps_st (S' := (65, [(8, .int (nI (by4 f (p + 2)))), (0, .ref m0), (2, .int 3), (3, .int (nI x)), (4, .int (nI (by2 f p1))), (5, .int (nI p)), (6, .int (nI s3)), (7, .int (nI i))], [.int (nI p), .ref m0, .ref m0], M1)) rfl rfl rfl ?_
            refine pl_call (a := [.ref m0, .int (nI p)]) (rest := [.ref m0]) rfl rfl rfl (rd_u2 (n := n) (f := f) (p := p) hR1 hF1 (by omega)) (fun v10 M11 q12 => ?_)
            obtain ⟨rfl, rfl⟩ := q12
            show pl _ _ _ (68, [(8, .int (nI (by4 f (p + 2)))), (0, .ref m0), (2, .int 3), (3, .int (nI x)), (4, .int (nI (by2 f p1))), (5, .int (nI p)), (6, .int (nI s3)), (7, .int (nI i))], [.int (nI (by2 f p)), .ref m0], M1) _
            have hu_65 := by2_lt f p
            refine pl_call (a := [.ref m0, .int (nI (by2 f p))]) (rest := []) rfl rfl rfl (rd_symOf (n := n) (f := f) (tx := tx) (cN := cN) (A := A) (N := N) (mj := mj) (E := E) (k := (by2 f p)) hR1 hl51 hl52 hl53 hF1 hY1 hP1 (hEP) (hN) (hmj) (by omega)) (fun v13 M14 q15 => ?_)
            obtain ⟨s16, q68_s, rfl, rfl⟩ := q15
            show pl _ _ _ (71, [(8, .int (nI (by4 f (p + 2)))), (0, .ref m0), (2, .int 3), (3, .int (nI x)), (4, .int (nI (by2 f p1))), (5, .int (nI p)), (6, .int (nI s3)), (7, .int (nI i))], [.int (nI s16)], M1) _
            have hsl_68 := q68_s.1
            have htl_68 := hY1.1.2.2.1
            refine ps_st (S' := (73, [(9, .int (nI s16)), (8, .int (nI (by4 f (p + 2)))), (0, .ref m0), (2, .int 3), (3, .int (nI x)), (4, .int (nI (by2 f p1))), (5, .int (nI p)), (6, .int (nI s3)), (7, .int (nI i))], [], M1)) rfl rfl rfl ?_
            refine ps_st (S' := (74, [(9, .int (nI s16)), (8, .int (nI (by4 f (p + 2)))), (0, .ref m0), (2, .int 3), (3, .int (nI x)), (4, .int (nI (by2 f p1))), (5, .int (nI p)), (6, .int (nI s3)), (7, .int (nI i))], [.int (-1)], M1)) rfl rfl rfl ?_
            refine ps_st (S' := (76, [(10, .int (-1)), (9, .int (nI s16)), (8, .int (nI (by4 f (p + 2)))), (0, .ref m0), (2, .int 3), (3, .int (nI x)), (4, .int (nI (by2 f p1))), (5, .int (nI p)), (6, .int (nI s3)), (7, .int (nI i))], [], M1)) rfl rfl rfl ?_
            refine ps_st (S' := (77, [(10, .int (-1)), (9, .int (nI s16)), (8, .int (nI (by4 f (p + 2)))), (0, .ref m0), (2, .int 3), (3, .int (nI x)), (4, .int (nI (by2 f p1))), (5, .int (nI p)), (6, .int (nI s3)), (7, .int (nI i))], [.int 0], M1)) rfl rfl rfl ?_
            refine ps_st (S' := (79, [(0, .ref m0), (2, .int 3), (3, .int (nI x)), (4, .int (nI (by2 f p1))), (5, .int (nI p)), (6, .int (nI s3)), (7, .int (nI i)), (8, .int (nI (by4 f (p + 2)))), (9, .int (nI s16)), (10, .int (-1)), (11, .int 0)], [], M1)) rfl rfl rfl ?_
            exact ih.2 (i) (p) (s2) (s3) (0) (s16) M1 I1 R1 hR1 hEI1 hER1 hl51 hl52 hl53 hF1 hY1 hP1 hK1 (by omega) (hl) (hb) (ha) (hs9) (by omega) (by omega) (q68_s)
          · have c_47 : ¬ ((nI (tg f E (by2 f p))) = 1) := of_decide_eq_false c_47
            have n_47 : ¬ (tg f E (by2 f p) = 1) := fun h9 => c_47 ((eq_nI (p := tg f E (by2 f p)) (n := 1) (Nat.lt_trans (tg_lt _ _ _) (by decide)) (by decide)).mpr h9)
            refine ps_st (S' := (51, [(8, .int (nI (by4 f (p + 2)))), (0, .ref m0), (2, .int 3), (3, .int (nI x)), (4, .int (nI (by2 f p1))), (5, .int (nI p)), (6, .int (nI s3)), (7, .int (nI i))], [.ref m0], M1)) rfl rfl rfl ?_
            refine ps_st (S' := (53, [(8, .int (nI (by4 f (p + 2)))), (0, .ref m0), (2, .int 3), (3, .int (nI x)), (4, .int (nI (by2 f p1))), (5, .int (nI p)), (6, .int (nI s3)), (7, .int (nI i))], [.int 28, .ref m0], M1)) rfl rfl rfl ?_
            refine ps_st (S' := (55, [(8, .int (nI (by4 f (p + 2)))), (0, .ref m0), (2, .int 3), (3, .int (nI x)), (4, .int (nI (by2 f p1))), (5, .int (nI p)), (6, .int (nI s3)), (7, .int (nI i))], [.int (nI p), .int 28, .ref m0], M1)) rfl rfl rfl ?_
            refine pl_call (a := [.ref m0, .int 28, .int (nI p)]) (rest := []) rfl rfl rfl (rd_wrong (x1 := 28) (x2 := (nI p)) hR1) (fun v17 M18 q19 => ?_)
            obtain ⟨I20, R21, rfl, hR22, hI23, hX24, hi25, hi26⟩ := q19
            have hi27 := (hI23 51 (by decide)).trans hl51
            have hi28 := (hI23 52 (by decide)).trans hl52
            have hi29 := (hI23 53 (by decide)).trans hl53
            have hF_30 := hF1.mono (cIx hI23 (by decide)) (cRx hX24 (by decide))
            have hY_31 := hY1.mono (cIx hI23 (by decide)) (cRx hX24 (by decide))
            have hP_32 := hP1.mono (cIx hI23 (by decide)) (cRx hX24 (by decide))
            have hK_33 := hK1.mono (cIx hI23 (by decide)) (cRx hX24 (by decide))
            have hEI34 := hEI1.tr hI23 (by decide)
            have hER35 := hER1.tr hX24 (by decide)
            show pl _ _ _ (58, [(8, .int (nI (by4 f (p + 2)))), (0, .ref m0), (2, .int 3), (3, .int (nI x)), (4, .int (nI (by2 f p1))), (5, .int (nI p)), (6, .int (nI s3)), (7, .int (nI i))], [.int 0], M18) _
            refine ps_st (S' := (59, [(8, .int (nI (by4 f (p + 2)))), (0, .ref m0), (2, .int 3), (3, .int (nI x)), (4, .int (nI (by2 f p1))), (5, .int (nI p)), (6, .int (nI s3)), (7, .int (nI i))], [], M18)) rfl rfl rfl ?_
            refine ps_st (S' := (60, [(8, .int (nI (by4 f (p + 2)))), (0, .ref m0), (2, .int 3), (3, .int (nI x)), (4, .int (nI (by2 f p1))), (5, .int (nI p)), (6, .int (nI s3)), (7, .int (nI i))], [.int (-1)], M18)) rfl rfl rfl ?_
            exact ps_ret rfl rfl (Or.inl ⟨(28, p), I20, R21, by
                rw [← hs9, caS_st (i := i) (p := p) (s := s2) (by omega)]
                rw [show nwS f E s2 (smN4 f n E mj (by2 f p)) p = .inl (28, p) by unfold nwS; rw [if_pos (by omega)]], rfl, hR22, hEI34, hER35, hi25, hi26⟩)
      · skip
        intro i p s2 s3 k t M1 I1 R1 hR1 hEI1 hER1 hl51 hl52 hl53 hF1 hY1 hP1 hK1 hi0 hl hb ha hs9 hk h1 hsy
        have hn := hF1.1
        have hu9 := by2_lt f p1
        have htl := hY1.1.2.2.1
        obtain ⟨hq5, hq6, hq7⟩ := s_atE_in (i := i) (p := p) ha hi0
        refine ps_st1 (S' := (81, [(0, .ref m0), (2, .int 3), (3, .int (nI x)), (4, .int (nI (by2 f p1))), (5, .int (nI p)), (6, .int (nI s3)), (7, .int (nI i)), (8, .int (nI (by4 f (p + 2)))), (9, .int (nI t)), (10, .int (gI (kb mj 3 (tX f n E (by2 f p)) k))), (11, .int (nI k))], [.int (nI k)], M1)) rfl rfl rfl ?_
        refine ps_st (S' := (82, [(0, .ref m0), (2, .int 3), (3, .int (nI x)), (4, .int (nI (by2 f p1))), (5, .int (nI p)), (6, .int (nI s3)), (7, .int (nI i)), (8, .int (nI (by4 f (p + 2)))), (9, .int (nI t)), (10, .int (gI (kb mj 3 (tX f n E (by2 f p)) k))), (11, .int (nI k))], [.ref m0, .int (nI k)], M1)) rfl rfl rfl ?_
        refine pr_ref (j := 62) (S' := (85, [(0, .ref m0), (2, .int 3), (3, .int (nI x)), (4, .int (nI (by2 f p1))), (5, .int (nI p)), (6, .int (nI s3)), (7, .int (nI i)), (8, .int (nI (by4 f (p + 2)))), (9, .int (nI t)), (10, .int (gI (kb mj 3 (tX f n E (by2 f p)) k))), (11, .int (nI k))], [.ref (q 62), .int (nI k)], M1)) rfl hR1 rfl rfl ?_
        refine pr_knl (S' := (86, [(0, .ref m0), (2, .int 3), (3, .int (nI x)), (4, .int (nI (by2 f p1))), (5, .int (nI p)), (6, .int (nI s3)), (7, .int (nI i)), (8, .int (nI (by4 f (p + 2)))), (9, .int (nI t)), (10, .int (gI (kb mj 3 (tX f n E (by2 f p)) k))), (11, .int (nI k))], [.int (nI 10), .int (nI k)], M1)) rfl hR1 rfl ?_
        refine ps_if2 (S1 := (140, [(0, .ref m0), (2, .int 3), (3, .int (nI x)), (4, .int (nI (by2 f p1))), (5, .int (nI p)), (6, .int (nI s3)), (7, .int (nI i)), (8, .int (nI (by4 f (p + 2)))), (9, .int (nI t)), (10, .int (gI (kb mj 3 (tX f n E (by2 f p)) k))), (11, .int (nI k))], [], M1)) (S2 := (89, [(0, .ref m0), (2, .int 3), (3, .int (nI x)), (4, .int (nI (by2 f p1))), (5, .int (nI p)), (6, .int (nI s3)), (7, .int (nI i)), (8, .int (nI (by4 f (p + 2)))), (9, .int (nI t)), (10, .int (gI (kb mj 3 (tX f n E (by2 f p)) k))), (11, .int (nI k))], [], M1)) rfl rfl rfl (fun c_86 => ?_) (fun c_86 => ?_)
        · have c_86 : (nI 10) ≤ (nI k) := of_decide_eq_true c_86
          have n_86 : 10 ≤ k := (le_nI (p := 10) (n := k) (by decide) (by omega)).mp c_86
          have ek : k = 10 := by omega
          have hkk := kb_3 (mj := mj) (l := tX f n E (by2 f p))
          refine ps_st (S' := (142, [(0, .ref m0), (2, .int 3), (3, .int (nI x)), (4, .int (nI (by2 f p1))), (5, .int (nI p)), (6, .int (nI s3)), (7, .int (nI i)), (8, .int (nI (by4 f (p + 2)))), (9, .int (nI t)), (10, .int (gI (kb mj 3 (tX f n E (by2 f p)) k))), (11, .int (nI k))], [.int (gI (kb mj 3 (tX f n E (by2 f p)) k))], M1)) rfl rfl rfl ?_
          refine ps_if (S1 := (268, [(0, .ref m0), (2, .int 3), (3, .int (nI x)), (4, .int (nI (by2 f p1))), (5, .int (nI p)), (6, .int (nI s3)), (7, .int (nI i)), (8, .int (nI (by4 f (p + 2))))], [], M1)) (S2 := (145, [(0, .ref m0), (2, .int 3), (3, .int (nI x)), (4, .int (nI (by2 f p1))), (5, .int (nI p)), (6, .int (nI s3)), (7, .int (nI i)), (8, .int (nI (by4 f (p + 2)))), (9, .int (nI t)), (10, .int (gI (kb mj 3 (tX f n E (by2 f p)) k))), (11, .int (nI k))], [], M1)) rfl rfl rfl (fun c_142 => ?_) (fun c_142 => ?_)
          · have c_142 : (gI (kb mj 3 (tX f n E (by2 f p)) k)) < 0 := of_decide_eq_true c_142
            have hc3 : ¬ (50 ≤ mj ∧ ¬ eqN (tX f n E (by2 f p)) (ltx 18) = 0) := fun h9 => by
              rw [ek, hkk, if_pos h9] at c_142
              exact absurd c_142 (by decide)
            have hsm : smN4 f n E mj (by2 f p) = 0 := by
              unfold smN4
              rw [← lt_eq3, if_neg hc3]
            refine ps_st (S' := (270, [(0, .ref m0), (2, .int 3), (3, .int (nI x)), (4, .int (nI (by2 f p1))), (5, .int (nI p)), (6, .int (nI s3)), (7, .int (nI i)), (8, .int (nI (by4 f (p + 2))))], [.int (nI p)], M1)) rfl rfl rfl ?_
            refine ps_st (S' := (272, [(0, .ref m0), (2, .int 3), (3, .int (nI x)), (4, .int (nI (by2 f p1))), (5, .int (nI p)), (6, .int (nI s3)), (7, .int (nI i)), (8, .int (nI (by4 f (p + 2))))], [.int 6, .int (nI p)], M1)) rfl rfl rfl ?_
            refine ps_st (S' := (274, [(0, .ref m0), (2, .int 3), (3, .int (nI x)), (4, .int (nI (by2 f p1))), (5, .int (nI p)), (6, .int (nI s3)), (7, .int (nI i)), (8, .int (nI (by4 f (p + 2))))], [.int (nI (by4 f (p + 2))), .int 6, .int (nI p)], M1)) rfl rfl rfl ?_
            refine ps_st (S' := (275, [(0, .ref m0), (2, .int 3), (3, .int (nI x)), (4, .int (nI (by2 f p1))), (5, .int (nI p)), (6, .int (nI s3)), (7, .int (nI i)), (8, .int (nI (by4 f (p + 2))))], [.int (6 + (nI (by4 f (p + 2)))), .int (nI p)], M1)) rfl rfl rfl ?_
            rw [nI_add2 (p := 6) (k := by4 f (p + 2)) (x := 6) (y := (nI (by4 f (p + 2)))) rfl rfl (by omega)]
            show pl _ _ _ (_, [(0, .ref m0), (2, .int 3), (3, .int (nI x)), (4, .int (nI (by2 f p1))), (5, .int (nI p)), (6, .int (nI s3)), (7, .int (nI i)), (8, .int (nI (by4 f (p + 2))))], [.int (nI (6 + by4 f (p + 2))), .int (nI p)], M1) _
            refine ps_st (S' := (276, [(0, .ref m0), (2, .int 3), (3, .int (nI x)), (4, .int (nI (by2 f p1))), (5, .int (nI p)), (6, .int (nI s3)), (7, .int (nI i)), (8, .int (nI (by4 f (p + 2))))], [.int ((nI p) + (nI (6 + by4 f (p + 2))))], M1)) rfl rfl rfl ?_
            rw [nI_add1 (p := p) (k := 6 + by4 f (p + 2)) (x := (nI (6 + by4 f (p + 2)))) rfl (by omega)]
            rw [show nI (p + (6 + by4 f (p + 2))) = nI (p + 6 + by4 f (p + 2)) from congrArg nI (by omega)]
            show pl _ _ _ (_, [(0, .ref m0), (2, .int 3), (3, .int (nI x)), (4, .int (nI (by2 f p1))), (5, .int (nI p)), (6, .int (nI s3)), (7, .int (nI i)), (8, .int (nI (by4 f (p + 2))))], [.int (nI (p + 6 + by4 f (p + 2)))], M1) _
            refine ps_st (S' := (278, [(5, .int (nI (p + 6 + by4 f (p + 2)))), (0, .ref m0), (2, .int 3), (3, .int (nI x)), (4, .int (nI (by2 f p1))), (6, .int (nI s3)), (7, .int (nI i)), (8, .int (nI (by4 f (p + 2))))], [], M1)) rfl rfl rfl ?_
            refine ps_st (S' := (281, [(7, .int ((nI i) + 1)), (5, .int (nI (p + 6 + by4 f (p + 2)))), (0, .ref m0), (2, .int 3), (3, .int (nI x)), (4, .int (nI (by2 f p1))), (6, .int (nI s3)), (8, .int (nI (by4 f (p + 2))))], [], M1)) rfl rfl rfl ?_
            rw [nI_add1 (p := i) (k := 1) (x := 1) rfl (by omega)]
            show pl _ _ _ (_, [(7, .int (nI (i + 1))), (5, .int (nI (p + 6 + by4 f (p + 2)))), (0, .ref m0), (2, .int 3), (3, .int (nI x)), (4, .int (nI (by2 f p1))), (6, .int (nI s3)), (8, .int (nI (by4 f (p + 2))))], [], M1) _
            refine ps_st (S' := (18, [(0, .ref m0), (2, .int 3), (3, .int (nI x)), (4, .int (nI (by2 f p1))), (5, .int (nI (p + 6 + by4 f (p + 2)))), (6, .int (nI s3)), (7, .int (nI (i + 1)))], [], M1)) rfl rfl rfl ?_
            exact ih.1 (i + 1) (p + 6 + by4 f (p + 2)) (s2) (s3) M1 I1 R1 hR1 hEI1 hER1 hl51 hl52 hl53 hF1 hY1 hP1 hK1 (by omega) (hl) (hb) (hq7) (by
                rw [← hs9, caS_st (i := i) (p := p) (s := s2) (by omega), hsm, show nwS f E s2 0 p = .inr s2 by unfold nwS; rw [if_neg (by omega), if_pos rfl]])
          · have c_142 : ¬ ((gI (kb mj 3 (tX f n E (by2 f p)) k)) < 0) := of_decide_eq_false c_142
            have hc3 : 50 ≤ mj ∧ ¬ eqN (tX f n E (by2 f p)) (ltx 18) = 0 := by
              by_cases h9 : 50 ≤ mj ∧ ¬ eqN (tX f n E (by2 f p)) (ltx 18) = 0
              · exact h9
              · rw [ek, hkk, if_neg h9] at c_142; exact absurd (by decide) c_142
            have hsm : smN4 f n E mj (by2 f p) = 4 := by
              unfold smN4
              rw [← lt_eq3, if_pos hc3]
            rw [show gI (kb mj 3 (tX f n E (by2 f p)) k) = nI 3 by rw [ek, hkk, if_pos hc3]; rfl]
            show pl _ _ _ (145, [(0, .ref m0), (2, .int 3), (3, .int (nI x)), (4, .int (nI (by2 f p1))), (5, .int (nI p)), (6, .int (nI s3)), (7, .int (nI i)), (8, .int (nI (by4 f (p + 2)))), (9, .int (nI t)), (10, .int (nI 3)), (11, .int (nI k))], [], M1) _
            refine ps_st (S' := (146, [(0, .ref m0), (2, .int 3), (3, .int (nI x)), (4, .int (nI (by2 f p1))), (5, .int (nI p)), (6, .int (nI s3)), (7, .int (nI i)), (8, .int (nI (by4 f (p + 2)))), (9, .int (nI t)), (10, .int (nI 3)), (11, .int (nI k))], [.int 3], M1)) rfl rfl rfl ?_
            refine ps_st (S' := (147, [(0, .ref m0), (2, .int 3), (3, .int (nI x)), (4, .int (nI (by2 f p1))), (5, .int (nI p)), (6, .int (nI s3)), (7, .int (nI i)), (8, .int (nI (by4 f (p + 2)))), (9, .int (nI t)), (10, .int (nI 3)), (11, .int (nI k))], [.int 1, .int 3], M1)) rfl rfl rfl ?_
            refine ps_if2 (S1 := (160, [(0, .ref m0), (2, .int 3), (3, .int (nI x)), (4, .int (nI (by2 f p1))), (5, .int (nI p)), (6, .int (nI s3)), (7, .int (nI i)), (8, .int (nI (by4 f (p + 2)))), (10, .int (nI 3))], [], M1)) (S2 := (150, [(0, .ref m0), (2, .int 3), (3, .int (nI x)), (4, .int (nI (by2 f p1))), (5, .int (nI p)), (6, .int (nI s3)), (7, .int (nI i)), (8, .int (nI (by4 f (p + 2)))), (9, .int (nI t)), (10, .int (nI 3)), (11, .int (nI k))], [], M1)) rfl rfl rfl (fun c_147 => ?_) (fun c_147 => ?_)
            rotate_left
            · exact absurd (by decide) (of_decide_eq_false c_147)
            refine ps_st (S' := (161, [(0, .ref m0), (2, .int 3), (3, .int (nI x)), (4, .int (nI (by2 f p1))), (5, .int (nI p)), (6, .int (nI s3)), (7, .int (nI i)), (8, .int (nI (by4 f (p + 2)))), (10, .int (nI 3))], [.int 3], M1)) rfl rfl rfl ?_
            refine ps_st (S' := (162, [(0, .ref m0), (2, .int 3), (3, .int (nI x)), (4, .int (nI (by2 f p1))), (5, .int (nI p)), (6, .int (nI s3)), (7, .int (nI i)), (8, .int (nI (by4 f (p + 2)))), (10, .int (nI 3))], [.int 2, .int 3], M1)) rfl rfl rfl ?_
            refine ps_if2 (S1 := (175, [(0, .ref m0), (2, .int 3), (3, .int (nI x)), (4, .int (nI (by2 f p1))), (5, .int (nI p)), (6, .int (nI s3)), (7, .int (nI i)), (8, .int (nI (by4 f (p + 2)))), (10, .int (nI 3))], [], M1)) (S2 := (165, [(0, .ref m0), (2, .int 3), (3, .int (nI x)), (4, .int (nI (by2 f p1))), (5, .int (nI p)), (6, .int (nI s3)), (7, .int (nI i)), (8, .int (nI (by4 f (p + 2)))), (10, .int (nI 3))], [], M1)) rfl rfl rfl (fun c_162 => ?_) (fun c_162 => ?_)
            rotate_left
            · exact absurd (by decide) (of_decide_eq_false c_162)
            refine ps_st (S' := (176, [(0, .ref m0), (2, .int 3), (3, .int (nI x)), (4, .int (nI (by2 f p1))), (5, .int (nI p)), (6, .int (nI s3)), (7, .int (nI i)), (8, .int (nI (by4 f (p + 2)))), (10, .int (nI 3))], [.int 3], M1)) rfl rfl rfl ?_
            refine ps_st (S' := (177, [(0, .ref m0), (2, .int 3), (3, .int (nI x)), (4, .int (nI (by2 f p1))), (5, .int (nI p)), (6, .int (nI s3)), (7, .int (nI i)), (8, .int (nI (by4 f (p + 2)))), (10, .int (nI 3))], [.int 4, .int 3], M1)) rfl rfl rfl ?_
            refine ps_if2 (S1 := (190, [(0, .ref m0), (2, .int 3), (3, .int (nI x)), (4, .int (nI (by2 f p1))), (5, .int (nI p)), (6, .int (nI s3)), (7, .int (nI i)), (8, .int (nI (by4 f (p + 2)))), (10, .int (nI 3))], [], M1)) (S2 := (180, [(0, .ref m0), (2, .int 3), (3, .int (nI x)), (4, .int (nI (by2 f p1))), (5, .int (nI p)), (6, .int (nI s3)), (7, .int (nI i)), (8, .int (nI (by4 f (p + 2)))), (10, .int (nI 3))], [], M1)) rfl rfl rfl (fun c_177 => ?_) (fun c_177 => ?_)
            rotate_left
            · exact absurd (by decide) (of_decide_eq_false c_177)
            refine ps_st (S' := (192, [(0, .ref m0), (2, .int 3), (3, .int (nI x)), (4, .int (nI (by2 f p1))), (5, .int (nI p)), (6, .int (nI s3)), (7, .int (nI i)), (8, .int (nI (by4 f (p + 2)))), (10, .int (nI 3))], [.int (nI s3)], M1)) rfl rfl rfl ?_
            refine ps_st (S' := (194, [(0, .ref m0), (2, .int 3), (3, .int (nI x)), (4, .int (nI (by2 f p1))), (5, .int (nI p)), (6, .int (nI s3)), (7, .int (nI i)), (8, .int (nI (by4 f (p + 2)))), (10, .int (nI 3))], [.int (nI 3), .int (nI s3)], M1)) rfl rfl rfl ?_
            refine ps_st (S' := (195, [(0, .ref m0), (2, .int 3), (3, .int (nI x)), (4, .int (nI (by2 f p1))), (5, .int (nI p)), (6, .int (nI s3)), (7, .int (nI i)), (8, .int (nI (by4 f (p + 2)))), (10, .int (nI 3))], [.int ((nI s3) >>> ((nI 3) &&& 31))], M1)) rfl rfl rfl ?_
            refine ps_st (S' := (196, [(0, .ref m0), (2, .int 3), (3, .int (nI x)), (4, .int (nI (by2 f p1))), (5, .int (nI p)), (6, .int (nI s3)), (7, .int (nI i)), (8, .int (nI (by4 f (p + 2)))), (10, .int (nI 3))], [.int 1, .int ((nI s3) >>> ((nI 3) &&& 31))], M1)) rfl rfl rfl ?_
            refine ps_st (S' := (197, [(0, .ref m0), (2, .int 3), (3, .int (nI x)), (4, .int (nI (by2 f p1))), (5, .int (nI p)), (6, .int (nI s3)), (7, .int (nI i)), (8, .int (nI (by4 f (p + 2)))), (10, .int (nI 3))], [.int (((nI s3) >>> ((nI 3) &&& 31)) &&& 1)], M1)) rfl rfl rfl ?_
            rw [shr_k s3 (by omega) 3 (by omega)]
            show pl _ _ _ (_, [(0, .ref m0), (2, .int 3), (3, .int (nI x)), (4, .int (nI (by2 f p1))), (5, .int (nI p)), (6, .int (nI s3)), (7, .int (nI i)), (8, .int (nI (by4 f (p + 2)))), (10, .int (nI 3))], [.int (nI (sb s3 3))], M1) _
            refine ps_st (S' := (198, [(0, .ref m0), (2, .int 3), (3, .int (nI x)), (4, .int (nI (by2 f p1))), (5, .int (nI p)), (6, .int (nI s3)), (7, .int (nI i)), (8, .int (nI (by4 f (p + 2)))), (10, .int (nI 3))], [.int 1, .int (nI (sb s3 3))], M1)) rfl rfl rfl ?_
            refine ps_if2 (S1 := (212, [(0, .ref m0), (2, .int 3), (3, .int (nI x)), (4, .int (nI (by2 f p1))), (5, .int (nI p)), (6, .int (nI s3)), (7, .int (nI i)), (8, .int (nI (by4 f (p + 2)))), (10, .int (nI 3))], [], M1)) (S2 := (201, [(0, .ref m0), (2, .int 3), (3, .int (nI x)), (4, .int (nI (by2 f p1))), (5, .int (nI p)), (6, .int (nI s3)), (7, .int (nI i)), (8, .int (nI (by4 f (p + 2)))), (10, .int (nI 3))], [], M1)) rfl rfl rfl (fun c_198 => ?_) (fun c_198 => ?_)
            · have c_198 : ¬ (nI (sb s3 3)) = 1 := of_decide_eq_true c_198
              have n_198 : ¬ (sb s3 3 = 1) := fun h9 => c_198 ((eq_nI (p := sb s3 3) (n := 1) (Nat.lt_trans (sb_lt _ _) (by decide)) (by decide)).mpr h9)
              refine ps_st (S' := (213, [(0, .ref m0), (2, .int 3), (3, .int (nI x)), (4, .int (nI (by2 f p1))), (5, .int (nI p)), (6, .int (nI s3)), (7, .int (nI i)), (8, .int (nI (by4 f (p + 2)))), (10, .int (nI 3))], [.ref m0], M1)) rfl rfl rfl ?_
              refine ps_st (S' := (215, [(0, .ref m0), (2, .int 3), (3, .int (nI x)), (4, .int (nI (by2 f p1))), (5, .int (nI p)), (6, .int (nI s3)), (7, .int (nI i)), (8, .int (nI (by4 f (p + 2)))), (10, .int (nI 3))], [.int (nI 3), .ref m0], M1)) rfl rfl rfl ?_
              refine ps_st (S' := (217, [(0, .ref m0), (2, .int 3), (3, .int (nI x)), (4, .int (nI (by2 f p1))), (5, .int (nI p)), (6, .int (nI s3)), (7, .int (nI i)), (8, .int (nI (by4 f (p + 2)))), (10, .int (nI 3))], [.int (nI p), .int (nI 3), .ref m0], M1)) rfl rfl rfl ?_
              refine ps_st (S' := (219, [(0, .ref m0), (2, .int 3), (3, .int (nI x)), (4, .int (nI (by2 f p1))), (5, .int (nI p)), (6, .int (nI s3)), (7, .int (nI i)), (8, .int (nI (by4 f (p + 2)))), (10, .int (nI 3))], [.int (nI p), .int (nI p), .int (nI 3), .ref m0], M1)) rfl rfl rfl ?_
              refine ps_st (S' := (221, [(0, .ref m0), (2, .int 3), (3, .int (nI x)), (4, .int (nI (by2 f p1))), (5, .int (nI p)), (6, .int (nI s3)), (7, .int (nI i)), (8, .int (nI (by4 f (p + 2)))), (10, .int (nI 3))], [.int 6, .int (nI p), .int (nI p), .int (nI 3), .ref m0], M1)) rfl rfl rfl ?_
              refine ps_st (S' := (222, [(0, .ref m0), (2, .int 3), (3, .int (nI x)), (4, .int (nI (by2 f p1))), (5, .int (nI p)), (6, .int (nI s3)), (7, .int (nI i)), (8, .int (nI (by4 f (p + 2)))), (10, .int (nI 3))], [.int ((nI p) + 6), .int (nI p), .int (nI 3), .ref m0], M1)) rfl rfl rfl ?_
              rw [nI_add1 (p := p) (k := 6) (x := 6) rfl (by omega)]
              show pl _ _ _ (_, [(0, .ref m0), (2, .int 3), (3, .int (nI x)), (4, .int (nI (by2 f p1))), (5, .int (nI p)), (6, .int (nI s3)), (7, .int (nI i)), (8, .int (nI (by4 f (p + 2)))), (10, .int (nI 3))], [.int (nI (p + 6)), .int (nI p), .int (nI 3), .ref m0], M1) _
              refine ps_st (S' := (224, [(0, .ref m0), (2, .int 3), (3, .int (nI x)), (4, .int (nI (by2 f p1))), (5, .int (nI p)), (6, .int (nI s3)), (7, .int (nI i)), (8, .int (nI (by4 f (p + 2)))), (10, .int (nI 3))], [.int (nI p), .int (nI (p + 6)), .int (nI p), .int (nI 3), .ref m0], M1)) rfl rfl rfl ?_
              refine ps_st (S' := (226, [(0, .ref m0), (2, .int 3), (3, .int (nI x)), (4, .int (nI (by2 f p1))), (5, .int (nI p)), (6, .int (nI s3)), (7, .int (nI i)), (8, .int (nI (by4 f (p + 2)))), (10, .int (nI 3))], [.int 6, .int (nI p), .int (nI (p + 6)), .int (nI p), .int (nI 3), .ref m0], M1)) rfl rfl rfl ?_
              refine ps_st (S' := (227, [(0, .ref m0), (2, .int 3), (3, .int (nI x)), (4, .int (nI (by2 f p1))), (5, .int (nI p)), (6, .int (nI s3)), (7, .int (nI i)), (8, .int (nI (by4 f (p + 2)))), (10, .int (nI 3))], [.int ((nI p) + 6), .int (nI (p + 6)), .int (nI p), .int (nI 3), .ref m0], M1)) rfl rfl rfl ?_
              rw [nI_add1 (p := p) (k := 6) (x := 6) rfl (by omega)]
              show pl _ _ _ (_, [(0, .ref m0), (2, .int 3), (3, .int (nI x)), (4, .int (nI (by2 f p1))), (5, .int (nI p)), (6, .int (nI s3)), (7, .int (nI i)), (8, .int (nI (by4 f (p + 2)))), (10, .int (nI 3))], [.int (nI (p + 6)), .int (nI (p + 6)), .int (nI p), .int (nI 3), .ref m0], M1) _
              refine ps_st (S' := (229, [(0, .ref m0), (2, .int 3), (3, .int (nI x)), (4, .int (nI (by2 f p1))), (5, .int (nI p)), (6, .int (nI s3)), (7, .int (nI i)), (8, .int (nI (by4 f (p + 2)))), (10, .int (nI 3))], [.int (nI (by4 f (p + 2))), .int (nI (p + 6)), .int (nI (p + 6)), .int (nI p), .int (nI 3), .ref m0], M1)) rfl rfl rfl ?_
              refine ps_st (S' := (230, [(0, .ref m0), (2, .int 3), (3, .int (nI x)), (4, .int (nI (by2 f p1))), (5, .int (nI p)), (6, .int (nI s3)), (7, .int (nI i)), (8, .int (nI (by4 f (p + 2)))), (10, .int (nI 3))], [.int ((nI (p + 6)) + (nI (by4 f (p + 2)))), .int (nI (p + 6)), .int (nI p), .int (nI 3), .ref m0], M1)) rfl rfl rfl ?_
              rw [nI_add1 (p := p + 6) (k := by4 f (p + 2)) (x := (nI (by4 f (p + 2)))) rfl (by omega)]
              show pl _ _ _ (_, [(0, .ref m0), (2, .int 3), (3, .int (nI x)), (4, .int (nI (by2 f p1))), (5, .int (nI p)), (6, .int (nI s3)), (7, .int (nI i)), (8, .int (nI (by4 f (p + 2)))), (10, .int (nI 3))], [.int (nI (p + 6 + by4 f (p + 2))), .int (nI (p + 6)), .int (nI p), .int (nI 3), .ref m0], M1) _
              refine ps_st (S' := (231, [(0, .ref m0), (2, .int 3), (3, .int (nI x)), (4, .int (nI (by2 f p1))), (5, .int (nI p)), (6, .int (nI s3)), (7, .int (nI i)), (8, .int (nI (by4 f (p + 2)))), (10, .int (nI 3))], [.int (nI x), .int (nI (p + 6 + by4 f (p + 2))), .int (nI (p + 6)), .int (nI p), .int (nI 3), .ref m0], M1)) rfl rfl rfl ?_
              refine ps_st (S' := (233, [(0, .ref m0), (2, .int 3), (3, .int (nI x)), (4, .int (nI (by2 f p1))), (5, .int (nI p)), (6, .int (nI s3)), (7, .int (nI i)), (8, .int (nI (by4 f (p + 2)))), (10, .int (nI 3))], [.int (nI s3), .int (nI x), .int (nI (p + 6 + by4 f (p + 2))), .int (nI (p + 6)), .int (nI p), .int (nI 3), .ref m0], M1)) rfl rfl rfl ?_
              refine pl_call (a := [.ref m0, .int (nI 3), .int (nI p), .int (nI (p + 6)), .int (nI (p + 6 + by4 f (p + 2))), .int (nI x), .int (nI s3)]) (rest := []) rfl rfl rfl (rd_attr3 (x2 := (nI p)) (x3 := (nI (p + 6))) (x4 := (nI (p + 6 + by4 f (p + 2)))) (x5 := (nI x)) (x6 := (nI s3)) hR1) (fun v36 M37 q38 => ?_)
              obtain ⟨rfl, rfl⟩ := q38
              show pl _ _ _ (236, [(0, .ref m0), (2, .int 3), (3, .int (nI x)), (4, .int (nI (by2 f p1))), (5, .int (nI p)), (6, .int (nI s3)), (7, .int (nI i)), (8, .int (nI (by4 f (p + 2)))), (10, .int (nI 3))], [.int 0], M1) _
              refine ps_st (S' := (238, [(11, .int 0), (0, .ref m0), (2, .int 3), (3, .int (nI x)), (4, .int (nI (by2 f p1))), (5, .int (nI p)), (6, .int (nI s3)), (7, .int (nI i)), (8, .int (nI (by4 f (p + 2)))), (10, .int (nI 3))], [], M1)) rfl rfl rfl ?_
              refine ps_st (S' := (240, [(11, .int 0), (0, .ref m0), (2, .int 3), (3, .int (nI x)), (4, .int (nI (by2 f p1))), (5, .int (nI p)), (6, .int (nI s3)), (7, .int (nI i)), (8, .int (nI (by4 f (p + 2)))), (10, .int (nI 3))], [.int (nI s3)], M1)) rfl rfl rfl ?_
              refine ps_st (S' := (241, [(11, .int 0), (0, .ref m0), (2, .int 3), (3, .int (nI x)), (4, .int (nI (by2 f p1))), (5, .int (nI p)), (6, .int (nI s3)), (7, .int (nI i)), (8, .int (nI (by4 f (p + 2)))), (10, .int (nI 3))], [.int 1, .int (nI s3)], M1)) rfl rfl rfl ?_
              refine ps_st (S' := (243, [(11, .int 0), (0, .ref m0), (2, .int 3), (3, .int (nI x)), (4, .int (nI (by2 f p1))), (5, .int (nI p)), (6, .int (nI s3)), (7, .int (nI i)), (8, .int (nI (by4 f (p + 2)))), (10, .int (nI 3))], [.int (nI 3), .int 1, .int (nI s3)], M1)) rfl rfl rfl ?_
              refine ps_st (S' := (244, [(11, .int 0), (0, .ref m0), (2, .int 3), (3, .int (nI x)), (4, .int (nI (by2 f p1))), (5, .int (nI p)), (6, .int (nI s3)), (7, .int (nI i)), (8, .int (nI (by4 f (p + 2)))), (10, .int (nI 3))], [.int (1 <<< ((nI 3) &&& 31)), .int (nI s3)], M1)) rfl rfl rfl ?_
              refine ps_st (S' := (245, [(11, .int 0), (0, .ref m0), (2, .int 3), (3, .int (nI x)), (4, .int (nI (by2 f p1))), (5, .int (nI p)), (6, .int (nI s3)), (7, .int (nI i)), (8, .int (nI (by4 f (p + 2)))), (10, .int (nI 3))], [.int ((nI s3) ||| (1 <<< ((nI 3) &&& 31)))], M1)) rfl rfl rfl ?_
              rw [or_k s3 3 (by omega)]
              show pl _ _ _ (_, [(11, .int 0), (0, .ref m0), (2, .int 3), (3, .int (nI x)), (4, .int (nI (by2 f p1))), (5, .int (nI p)), (6, .int (nI s3)), (7, .int (nI i)), (8, .int (nI (by4 f (p + 2)))), (10, .int (nI 3))], [.int (nI (so s3 3))], M1) _
              refine ps_st (S' := (247, [(6, .int (nI (so s3 3))), (11, .int 0), (0, .ref m0), (2, .int 3), (3, .int (nI x)), (4, .int (nI (by2 f p1))), (5, .int (nI p)), (7, .int (nI i)), (8, .int (nI (by4 f (p + 2)))), (10, .int (nI 3))], [], M1)) rfl rfl rfl ?_
              refine ps_st (S' := (249, [(6, .int (nI (so s3 3))), (11, .int 0), (0, .ref m0), (2, .int 3), (3, .int (nI x)), (4, .int (nI (by2 f p1))), (5, .int (nI p)), (7, .int (nI i)), (8, .int (nI (by4 f (p + 2)))), (10, .int (nI 3))], [.int 0], M1)) rfl rfl rfl ?_
              refine ps_if (S1 := (261, [(0, .ref m0), (2, .int 3), (3, .int (nI x)), (4, .int (nI (by2 f p1))), (5, .int (nI p)), (6, .int (nI (so s3 3))), (7, .int (nI i)), (8, .int (nI (by4 f (p + 2)))), (11, .int 0)], [], M1)) (S2 := (252, [(6, .int (nI (so s3 3))), (11, .int 0), (0, .ref m0), (2, .int 3), (3, .int (nI x)), (4, .int (nI (by2 f p1))), (5, .int (nI p)), (7, .int (nI i)), (8, .int (nI (by4 f (p + 2)))), (10, .int (nI 3))], [], M1)) rfl rfl rfl (fun c_249 => ?_) (fun c_249 => ?_)
              rotate_left
              · exact absurd (by decide) (of_decide_eq_false c_249)
              refine ps_st (S' := (263, [(0, .ref m0), (2, .int 3), (3, .int (nI x)), (4, .int (nI (by2 f p1))), (5, .int (nI p)), (6, .int (nI (so s3 3))), (7, .int (nI i)), (8, .int (nI (by4 f (p + 2)))), (11, .int 0)], [.int 0], M1)) rfl rfl rfl ?_
              refine ps_if (S1 := (268, [(0, .ref m0), (2, .int 3), (3, .int (nI x)), (4, .int (nI (by2 f p1))), (5, .int (nI p)), (6, .int (nI (so s3 3))), (7, .int (nI i)), (8, .int (nI (by4 f (p + 2))))], [], M1)) (S2 := (266, [(0, .ref m0), (2, .int 3), (3, .int (nI x)), (4, .int (nI (by2 f p1))), (5, .int (nI p)), (6, .int (nI (so s3 3))), (7, .int (nI i)), (8, .int (nI (by4 f (p + 2)))), (11, .int 0)], [], M1)) rfl rfl rfl (fun c_263 => ?_) (fun c_263 => ?_)
              rotate_left
              · exact absurd (by decide) (of_decide_eq_false c_263)
              refine ps_st (S' := (270, [(0, .ref m0), (2, .int 3), (3, .int (nI x)), (4, .int (nI (by2 f p1))), (5, .int (nI p)), (6, .int (nI (so s3 3))), (7, .int (nI i)), (8, .int (nI (by4 f (p + 2))))], [.int (nI p)], M1)) rfl rfl rfl ?_
              refine ps_st (S' := (272, [(0, .ref m0), (2, .int 3), (3, .int (nI x)), (4, .int (nI (by2 f p1))), (5, .int (nI p)), (6, .int (nI (so s3 3))), (7, .int (nI i)), (8, .int (nI (by4 f (p + 2))))], [.int 6, .int (nI p)], M1)) rfl rfl rfl ?_
              refine ps_st (S' := (274, [(0, .ref m0), (2, .int 3), (3, .int (nI x)), (4, .int (nI (by2 f p1))), (5, .int (nI p)), (6, .int (nI (so s3 3))), (7, .int (nI i)), (8, .int (nI (by4 f (p + 2))))], [.int (nI (by4 f (p + 2))), .int 6, .int (nI p)], M1)) rfl rfl rfl ?_
              refine ps_st (S' := (275, [(0, .ref m0), (2, .int 3), (3, .int (nI x)), (4, .int (nI (by2 f p1))), (5, .int (nI p)), (6, .int (nI (so s3 3))), (7, .int (nI i)), (8, .int (nI (by4 f (p + 2))))], [.int (6 + (nI (by4 f (p + 2)))), .int (nI p)], M1)) rfl rfl rfl ?_
              rw [nI_add2 (p := 6) (k := by4 f (p + 2)) (x := 6) (y := (nI (by4 f (p + 2)))) rfl rfl (by omega)]
              show pl _ _ _ (_, [(0, .ref m0), (2, .int 3), (3, .int (nI x)), (4, .int (nI (by2 f p1))), (5, .int (nI p)), (6, .int (nI (so s3 3))), (7, .int (nI i)), (8, .int (nI (by4 f (p + 2))))], [.int (nI (6 + by4 f (p + 2))), .int (nI p)], M1) _
              refine ps_st (S' := (276, [(0, .ref m0), (2, .int 3), (3, .int (nI x)), (4, .int (nI (by2 f p1))), (5, .int (nI p)), (6, .int (nI (so s3 3))), (7, .int (nI i)), (8, .int (nI (by4 f (p + 2))))], [.int ((nI p) + (nI (6 + by4 f (p + 2))))], M1)) rfl rfl rfl ?_
              rw [nI_add1 (p := p) (k := 6 + by4 f (p + 2)) (x := (nI (6 + by4 f (p + 2)))) rfl (by omega)]
              rw [show nI (p + (6 + by4 f (p + 2))) = nI (p + 6 + by4 f (p + 2)) from congrArg nI (by omega)]
              show pl _ _ _ (_, [(0, .ref m0), (2, .int 3), (3, .int (nI x)), (4, .int (nI (by2 f p1))), (5, .int (nI p)), (6, .int (nI (so s3 3))), (7, .int (nI i)), (8, .int (nI (by4 f (p + 2))))], [.int (nI (p + 6 + by4 f (p + 2)))], M1) _
              refine ps_st (S' := (278, [(5, .int (nI (p + 6 + by4 f (p + 2)))), (0, .ref m0), (2, .int 3), (3, .int (nI x)), (4, .int (nI (by2 f p1))), (6, .int (nI (so s3 3))), (7, .int (nI i)), (8, .int (nI (by4 f (p + 2))))], [], M1)) rfl rfl rfl ?_
              refine ps_st (S' := (281, [(7, .int ((nI i) + 1)), (5, .int (nI (p + 6 + by4 f (p + 2)))), (0, .ref m0), (2, .int 3), (3, .int (nI x)), (4, .int (nI (by2 f p1))), (6, .int (nI (so s3 3))), (8, .int (nI (by4 f (p + 2))))], [], M1)) rfl rfl rfl ?_
              rw [nI_add1 (p := i) (k := 1) (x := 1) rfl (by omega)]
              show pl _ _ _ (_, [(7, .int (nI (i + 1))), (5, .int (nI (p + 6 + by4 f (p + 2)))), (0, .ref m0), (2, .int 3), (3, .int (nI x)), (4, .int (nI (by2 f p1))), (6, .int (nI (so s3 3))), (8, .int (nI (by4 f (p + 2))))], [], M1) _
              refine ps_st (S' := (18, [(0, .ref m0), (2, .int 3), (3, .int (nI x)), (4, .int (nI (by2 f p1))), (5, .int (nI (p + 6 + by4 f (p + 2)))), (6, .int (nI (so s3 3))), (7, .int (nI (i + 1)))], [], M1)) rfl rfl rfl ?_
              have hsb9 := sb_lt s3 3
              exact ih.1 (i + 1) (p + 6 + by4 f (p + 2)) (so s2 4) (so s3 3) M1 I1 R1 hR1 hEI1 hER1 hl51 hl52 hl53 hF1 hY1 hP1 hK1 (by omega) (⟨so_lt hl.1 (by decide), so_lt hl.2 (by decide)⟩) (by rw [sb_so, sb_so]; rfl) (hq7) (by
                  rw [← hs9, caS_st (i := i) (p := p) (s := s2) (by omega), hsm, show nwS f E s2 4 p = .inr (so s2 4) by unfold nwS; rw [if_neg (by omega), if_neg (by decide), if_neg (by omega)]])
            · have c_198 : ¬ (¬ (nI (sb s3 3)) = 1) := of_decide_eq_false c_198
              have n_198 : sb s3 3 = 1 := (eq_nI (p := sb s3 3) (n := 1) (Nat.lt_trans (sb_lt _ _) (by decide)) (by decide)).mp (Decidable.not_not.mp c_198)
              refine ps_st (S' := (202, [(0, .ref m0), (2, .int 3), (3, .int (nI x)), (4, .int (nI (by2 f p1))), (5, .int (nI p)), (6, .int (nI s3)), (7, .int (nI i)), (8, .int (nI (by4 f (p + 2)))), (10, .int (nI 3))], [.ref m0], M1)) rfl rfl rfl ?_
              refine ps_st (S' := (204, [(0, .ref m0), (2, .int 3), (3, .int (nI x)), (4, .int (nI (by2 f p1))), (5, .int (nI p)), (6, .int (nI s3)), (7, .int (nI i)), (8, .int (nI (by4 f (p + 2)))), (10, .int (nI 3))], [.int 29, .ref m0], M1)) rfl rfl rfl ?_
              refine ps_st (S' := (206, [(0, .ref m0), (2, .int 3), (3, .int (nI x)), (4, .int (nI (by2 f p1))), (5, .int (nI p)), (6, .int (nI s3)), (7, .int (nI i)), (8, .int (nI (by4 f (p + 2)))), (10, .int (nI 3))], [.int (nI p), .int 29, .ref m0], M1)) rfl rfl rfl ?_
              refine pl_call (a := [.ref m0, .int 29, .int (nI p)]) (rest := []) rfl rfl rfl (rd_wrong (x1 := 29) (x2 := (nI p)) hR1) (fun v39 M40 q41 => ?_)
              obtain ⟨I42, R43, rfl, hR44, hI45, hX46, hi47, hi48⟩ := q41
              have hi49 := (hI45 51 (by decide)).trans hl51
              have hi50 := (hI45 52 (by decide)).trans hl52
              have hi51 := (hI45 53 (by decide)).trans hl53
              have hF_52 := hF1.mono (cIx hI45 (by decide)) (cRx hX46 (by decide))
              have hY_53 := hY1.mono (cIx hI45 (by decide)) (cRx hX46 (by decide))
              have hP_54 := hP1.mono (cIx hI45 (by decide)) (cRx hX46 (by decide))
              have hK_55 := hK1.mono (cIx hI45 (by decide)) (cRx hX46 (by decide))
              have hEI56 := hEI1.tr hI45 (by decide)
              have hER57 := hER1.tr hX46 (by decide)
              show pl _ _ _ (209, [(0, .ref m0), (2, .int 3), (3, .int (nI x)), (4, .int (nI (by2 f p1))), (5, .int (nI p)), (6, .int (nI s3)), (7, .int (nI i)), (8, .int (nI (by4 f (p + 2)))), (10, .int (nI 3))], [.int 0], M40) _
              refine ps_st (S' := (210, [(0, .ref m0), (2, .int 3), (3, .int (nI x)), (4, .int (nI (by2 f p1))), (5, .int (nI p)), (6, .int (nI s3)), (7, .int (nI i)), (8, .int (nI (by4 f (p + 2)))), (10, .int (nI 3))], [], M40)) rfl rfl rfl ?_
              refine ps_st (S' := (211, [(0, .ref m0), (2, .int 3), (3, .int (nI x)), (4, .int (nI (by2 f p1))), (5, .int (nI p)), (6, .int (nI s3)), (7, .int (nI i)), (8, .int (nI (by4 f (p + 2)))), (10, .int (nI 3))], [.int (-1)], M40)) rfl rfl rfl ?_
              exact ps_ret rfl rfl (Or.inl ⟨(29, p), I42, R43, by
                  rw [← hs9, caS_st (i := i) (p := p) (s := s2) (by omega)]
                  rw [hsm, show nwS f E s2 4 p = .inl (29, p) by unfold nwS; rw [if_neg (by omega), if_neg (by decide), if_pos (by omega)]], rfl, hR44, hEI56, hER57, hi47, hi48⟩)
        · have c_86 : ¬ ((nI 10) ≤ (nI k)) := of_decide_eq_false c_86
          have n_86 : ¬ (10 ≤ k) := fun h9 => c_86 ((le_nI (p := 10) (n := k) (by decide) (by omega)).mpr h9)
          refine ps_st (S' := (90, [(0, .ref m0), (2, .int 3), (3, .int (nI x)), (4, .int (nI (by2 f p1))), (5, .int (nI p)), (6, .int (nI s3)), (7, .int (nI i)), (8, .int (nI (by4 f (p + 2)))), (9, .int (nI t)), (10, .int (gI (kb mj 3 (tX f n E (by2 f p)) k))), (11, .int (nI k))], [.ref m0], M1)) rfl rfl rfl ?_
          refine pr_ref (j := 63) (S' := (93, [(0, .ref m0), (2, .int 3), (3, .int (nI x)), (4, .int (nI (by2 f p1))), (5, .int (nI p)), (6, .int (nI s3)), (7, .int (nI i)), (8, .int (nI (by4 f (p + 2)))), (9, .int (nI t)), (10, .int (gI (kb mj 3 (tX f n E (by2 f p)) k))), (11, .int (nI k))], [.ref (q 63)], M1)) rfl hR1 rfl rfl ?_
          refine ps_st (S' := (95, [(0, .ref m0), (2, .int 3), (3, .int (nI x)), (4, .int (nI (by2 f p1))), (5, .int (nI p)), (6, .int (nI s3)), (7, .int (nI i)), (8, .int (nI (by4 f (p + 2)))), (9, .int (nI t)), (10, .int (gI (kb mj 3 (tX f n E (by2 f p)) k))), (11, .int (nI k))], [.int (nI k), .ref (q 63)], M1)) rfl rfl rfl ?_
          have hki_95 := kiN_lt k
          refine pr_ld (a := 63) (j := k) (y := (nI (kiN k))) (S' := (96, [(0, .ref m0), (2, .int 3), (3, .int (nI x)), (4, .int (nI (by2 f p1))), (5, .int (nI p)), (6, .int (nI s3)), (7, .int (nI i)), (8, .int (nI (by4 f (p + 2)))), (9, .int (nI t)), (10, .int (gI (kb mj 3 (tX f n E (by2 f p)) k))), (11, .int (nI k))], [.int (nI (kiN k))], M1)) rfl hR1 rfl (by omega) (fun _ => (hK1 k (by omega)).1) rfl (fun i1_95 => ?_)
          refine ps_st (S' := (97, [(0, .ref m0), (2, .int 3), (3, .int (nI x)), (4, .int (nI (by2 f p1))), (5, .int (nI p)), (6, .int (nI s3)), (7, .int (nI i)), (8, .int (nI (by4 f (p + 2)))), (9, .int (nI t)), (10, .int (gI (kb mj 3 (tX f n E (by2 f p)) k))), (11, .int (nI k))], [.int 3, .int (nI (kiN k))], M1)) rfl rfl rfl ?_
          refine ps_if2 (S1 := (134, [(0, .ref m0), (2, .int 3), (3, .int (nI x)), (4, .int (nI (by2 f p1))), (5, .int (nI p)), (6, .int (nI s3)), (7, .int (nI i)), (8, .int (nI (by4 f (p + 2)))), (9, .int (nI t)), (10, .int (gI (kb mj 3 (tX f n E (by2 f p)) k))), (11, .int (nI k))], [], M1)) (S2 := (100, [(0, .ref m0), (2, .int 3), (3, .int (nI x)), (4, .int (nI (by2 f p1))), (5, .int (nI p)), (6, .int (nI s3)), (7, .int (nI i)), (8, .int (nI (by4 f (p + 2)))), (9, .int (nI t)), (10, .int (gI (kb mj 3 (tX f n E (by2 f p)) k))), (11, .int (nI k))], [], M1)) rfl rfl rfl (fun c_97 => ?_) (fun c_97 => ?_)
          · have c_97 : ¬ (nI (kiN k)) = 3 := of_decide_eq_true c_97
            have n_97 : ¬ (kiN k = 3) := fun h9 => c_97 ((eq_nI (p := kiN k) (n := 3) (Nat.lt_trans (kiN_lt _) (by decide)) (by decide)).mpr h9)
            refine ps_st (S' := (137, [(11, .int ((nI k) + 1)), (0, .ref m0), (2, .int 3), (3, .int (nI x)), (4, .int (nI (by2 f p1))), (5, .int (nI p)), (6, .int (nI s3)), (7, .int (nI i)), (8, .int (nI (by4 f (p + 2)))), (9, .int (nI t)), (10, .int (gI (kb mj 3 (tX f n E (by2 f p)) k)))], [], M1)) rfl rfl rfl ?_
            rw [nI_add1 (p := k) (k := 1) (x := 1) rfl (by omega)]
            show pl _ _ _ (_, [(11, .int (nI (k + 1))), (0, .ref m0), (2, .int 3), (3, .int (nI x)), (4, .int (nI (by2 f p1))), (5, .int (nI p)), (6, .int (nI s3)), (7, .int (nI i)), (8, .int (nI (by4 f (p + 2)))), (9, .int (nI t)), (10, .int (gI (kb mj 3 (tX f n E (by2 f p)) k)))], [], M1) _
            refine ps_st (S' := (79, [(0, .ref m0), (2, .int 3), (3, .int (nI x)), (4, .int (nI (by2 f p1))), (5, .int (nI p)), (6, .int (nI s3)), (7, .int (nI i)), (8, .int (nI (by4 f (p + 2)))), (9, .int (nI t)), (10, .int (gI (kb mj 3 (tX f n E (by2 f p)) k))), (11, .int (nI (k + 1)))], [], M1)) rfl rfl rfl ?_
            have hkb : (gI (kb mj 3 (tX f n E (by2 f p)) k)) = gI (kb mj 3 (tX f n E (by2 f p)) (k + 1)) := by
              conv => rhs; unfold kb
              rw [if_neg (by omega)]
            rw [hkb]
            exact ih.2 (i) (p) (s2) (s3) (k + 1) (t) M1 I1 R1 hR1 hEI1 hER1 hl51 hl52 hl53 hF1 hY1 hP1 hK1 (hi0) (hl) (hb) (ha) (hs9) (by omega) (h1) (hsy)
          · have c_97 : ¬ (¬ (nI (kiN k)) = 3) := of_decide_eq_false c_97
            have n_97 : kiN k = 3 := (eq_nI (p := kiN k) (n := 3) (Nat.lt_trans (kiN_lt _) (by decide)) (by decide)).mp (Decidable.not_not.mp c_97)
            refine ps_st (S' := (101, [(0, .ref m0), (2, .int 3), (3, .int (nI x)), (4, .int (nI (by2 f p1))), (5, .int (nI p)), (6, .int (nI s3)), (7, .int (nI i)), (8, .int (nI (by4 f (p + 2)))), (9, .int (nI t)), (10, .int (gI (kb mj 3 (tX f n E (by2 f p)) k))), (11, .int (nI k))], [.ref m0], M1)) rfl rfl rfl ?_
            refine pr_int (j := 53) (S' := (104, [(0, .ref m0), (2, .int 3), (3, .int (nI x)), (4, .int (nI (by2 f p1))), (5, .int (nI p)), (6, .int (nI s3)), (7, .int (nI i)), (8, .int (nI (by4 f (p + 2)))), (9, .int (nI t)), (10, .int (gI (kb mj 3 (tX f n E (by2 f p)) k))), (11, .int (nI k))], [.int (nI mj)], M1)) rfl hR1 rfl hl53 rfl ?_
            refine ps_st (S' := (105, [(0, .ref m0), (2, .int 3), (3, .int (nI x)), (4, .int (nI (by2 f p1))), (5, .int (nI p)), (6, .int (nI s3)), (7, .int (nI i)), (8, .int (nI (by4 f (p + 2)))), (9, .int (nI t)), (10, .int (gI (kb mj 3 (tX f n E (by2 f p)) k))), (11, .int (nI k))], [.ref m0, .int (nI mj)], M1)) rfl rfl rfl ?_
            refine pr_ref (j := 64) (S' := (108, [(0, .ref m0), (2, .int 3), (3, .int (nI x)), (4, .int (nI (by2 f p1))), (5, .int (nI p)), (6, .int (nI s3)), (7, .int (nI i)), (8, .int (nI (by4 f (p + 2)))), (9, .int (nI t)), (10, .int (gI (kb mj 3 (tX f n E (by2 f p)) k))), (11, .int (nI k))], [.ref (q 64), .int (nI mj)], M1)) rfl hR1 rfl rfl ?_
            refine ps_st (S' := (110, [(0, .ref m0), (2, .int 3), (3, .int (nI x)), (4, .int (nI (by2 f p1))), (5, .int (nI p)), (6, .int (nI s3)), (7, .int (nI i)), (8, .int (nI (by4 f (p + 2)))), (9, .int (nI t)), (10, .int (gI (kb mj 3 (tX f n E (by2 f p)) k))), (11, .int (nI k))], [.int (nI k), .ref (q 64), .int (nI mj)], M1)) rfl rfl rfl ?_
            have hkf_110 := kfN_lt k
            refine pr_ld (a := 64) (j := k) (y := (nI (kfN k))) (S' := (111, [(0, .ref m0), (2, .int 3), (3, .int (nI x)), (4, .int (nI (by2 f p1))), (5, .int (nI p)), (6, .int (nI s3)), (7, .int (nI i)), (8, .int (nI (by4 f (p + 2)))), (9, .int (nI t)), (10, .int (gI (kb mj 3 (tX f n E (by2 f p)) k))), (11, .int (nI k))], [.int (nI (kfN k)), .int (nI mj)], M1)) rfl hR1 rfl (by omega) (fun _ => (hK1 k (by omega)).2) rfl (fun i1_110 => ?_)
            refine ps_if2 (S1 := (134, [(0, .ref m0), (2, .int 3), (3, .int (nI x)), (4, .int (nI (by2 f p1))), (5, .int (nI p)), (6, .int (nI s3)), (7, .int (nI i)), (8, .int (nI (by4 f (p + 2)))), (9, .int (nI t)), (10, .int (gI (kb mj 3 (tX f n E (by2 f p)) k))), (11, .int (nI k))], [], M1)) (S2 := (114, [(0, .ref m0), (2, .int 3), (3, .int (nI x)), (4, .int (nI (by2 f p1))), (5, .int (nI p)), (6, .int (nI s3)), (7, .int (nI i)), (8, .int (nI (by4 f (p + 2)))), (9, .int (nI t)), (10, .int (gI (kb mj 3 (tX f n E (by2 f p)) k))), (11, .int (nI k))], [], M1)) rfl rfl rfl (fun c_111 => ?_) (fun c_111 => ?_)
            · have c_111 : (nI mj) < (nI (kfN k)) := of_decide_eq_true c_111
              have n_111 : mj < kfN k := (lt_nI (p := mj) (n := kfN k) (by omega) (Nat.lt_trans (kfN_lt _) (by decide))).mp c_111
              refine ps_st (S' := (137, [(11, .int ((nI k) + 1)), (0, .ref m0), (2, .int 3), (3, .int (nI x)), (4, .int (nI (by2 f p1))), (5, .int (nI p)), (6, .int (nI s3)), (7, .int (nI i)), (8, .int (nI (by4 f (p + 2)))), (9, .int (nI t)), (10, .int (gI (kb mj 3 (tX f n E (by2 f p)) k)))], [], M1)) rfl rfl rfl ?_
              rw [nI_add1 (p := k) (k := 1) (x := 1) rfl (by omega)]
              show pl _ _ _ (_, [(11, .int (nI (k + 1))), (0, .ref m0), (2, .int 3), (3, .int (nI x)), (4, .int (nI (by2 f p1))), (5, .int (nI p)), (6, .int (nI s3)), (7, .int (nI i)), (8, .int (nI (by4 f (p + 2)))), (9, .int (nI t)), (10, .int (gI (kb mj 3 (tX f n E (by2 f p)) k)))], [], M1) _
              refine ps_st (S' := (79, [(0, .ref m0), (2, .int 3), (3, .int (nI x)), (4, .int (nI (by2 f p1))), (5, .int (nI p)), (6, .int (nI s3)), (7, .int (nI i)), (8, .int (nI (by4 f (p + 2)))), (9, .int (nI t)), (10, .int (gI (kb mj 3 (tX f n E (by2 f p)) k))), (11, .int (nI (k + 1)))], [], M1)) rfl rfl rfl ?_
              have hkb : (gI (kb mj 3 (tX f n E (by2 f p)) k)) = gI (kb mj 3 (tX f n E (by2 f p)) (k + 1)) := by
                conv => rhs; unfold kb
                rw [if_neg (by omega)]
              rw [hkb]
              exact ih.2 (i) (p) (s2) (s3) (k + 1) (t) M1 I1 R1 hR1 hEI1 hER1 hl51 hl52 hl53 hF1 hY1 hP1 hK1 (hi0) (hl) (hb) (ha) (hs9) (by omega) (h1) (hsy)
            · have c_111 : ¬ ((nI mj) < (nI (kfN k))) := of_decide_eq_false c_111
              have n_111 : ¬ (mj < kfN k) := fun h9 => c_111 ((lt_nI (p := mj) (n := kfN k) (by omega) (Nat.lt_trans (kfN_lt _) (by decide))).mpr h9)
              refine ps_st (S' := (115, [(0, .ref m0), (2, .int 3), (3, .int (nI x)), (4, .int (nI (by2 f p1))), (5, .int (nI p)), (6, .int (nI s3)), (7, .int (nI i)), (8, .int (nI (by4 f (p + 2)))), (9, .int (nI t)), (10, .int (gI (kb mj 3 (tX f n E (by2 f p)) k))), (11, .int (nI k))], [.ref m0], M1)) rfl rfl rfl ?_
              refine ps_st (S' := (117, [(0, .ref m0), (2, .int 3), (3, .int (nI x)), (4, .int (nI (by2 f p1))), (5, .int (nI p)), (6, .int (nI s3)), (7, .int (nI i)), (8, .int (nI (by4 f (p + 2)))), (9, .int (nI t)), (10, .int (gI (kb mj 3 (tX f n E (by2 f p)) k))), (11, .int (nI k))], [.int (nI t), .ref m0], M1)) rfl rfl rfl ?_
              refine ps_st (S' := (118, [(0, .ref m0), (2, .int 3), (3, .int (nI x)), (4, .int (nI (by2 f p1))), (5, .int (nI p)), (6, .int (nI s3)), (7, .int (nI i)), (8, .int (nI (by4 f (p + 2)))), (9, .int (nI t)), (10, .int (gI (kb mj 3 (tX f n E (by2 f p)) k))), (11, .int (nI k))], [.ref m0, .int (nI t), .ref m0], M1)) rfl rfl rfl ?_
              refine pr_ref (j := 62) (S' := (121, [(0, .ref m0), (2, .int 3), (3, .int (nI x)), (4, .int (nI (by2 f p1))), (5, .int (nI p)), (6, .int (nI s3)), (7, .int (nI i)), (8, .int (nI (by4 f (p + 2)))), (9, .int (nI t)), (10, .int (gI (kb mj 3 (tX f n E (by2 f p)) k))), (11, .int (nI k))], [.ref (q 62), .int (nI t), .ref m0], M1)) rfl hR1 rfl rfl ?_
              refine ps_st (S' := (123, [(0, .ref m0), (2, .int 3), (3, .int (nI x)), (4, .int (nI (by2 f p1))), (5, .int (nI p)), (6, .int (nI s3)), (7, .int (nI i)), (8, .int (nI (by4 f (p + 2)))), (9, .int (nI t)), (10, .int (gI (kb mj 3 (tX f n E (by2 f p)) k))), (11, .int (nI k))], [.int (nI k), .ref (q 62), .int (nI t), .ref m0], M1)) rfl rfl rfl ?_
              refine pr_kn (j := k) (S' := (124, [(0, .ref m0), (2, .int 3), (3, .int (nI x)), (4, .int (nI (by2 f p1))), (5, .int (nI p)), (6, .int (nI s3)), (7, .int (nI i)), (8, .int (nI (by4 f (p + 2)))), (9, .int (nI t)), (10, .int (gI (kb mj 3 (tX f n E (by2 f p)) k))), (11, .int (nI k))], [.ref (g.2.1 (15 + k)), .int (nI t), .ref m0], M1)) rfl hR1 (by omega) rfl ?_
              refine pl_call (a := [.ref m0, .int (nI t), .ref (g.2.1 (15 + k))]) (rest := []) rfl rfl rfl (rd_is (tx := tx) (cN := cN) (A := A) (s := t) (l := (tX f n E (by2 f p))) (lk := (15 + k)) hR1 hY1 (hsy) (⟨by omega, by omega⟩)) (fun v58 M59 q60 => ?_)
              obtain ⟨rfl, rfl⟩ := q60
              show pl _ _ _ (127, [(0, .ref m0), (2, .int 3), (3, .int (nI x)), (4, .int (nI (by2 f p1))), (5, .int (nI p)), (6, .int (nI s3)), (7, .int (nI i)), (8, .int (nI (by4 f (p + 2)))), (9, .int (nI t)), (10, .int (gI (kb mj 3 (tX f n E (by2 f p)) k))), (11, .int (nI k))], [.int (nI (eqN (tX f n E (by2 f p)) (ltx (15 + k))))], M1) _
              refine ps_if (S1 := (134, [(0, .ref m0), (2, .int 3), (3, .int (nI x)), (4, .int (nI (by2 f p1))), (5, .int (nI p)), (6, .int (nI s3)), (7, .int (nI i)), (8, .int (nI (by4 f (p + 2)))), (9, .int (nI t)), (10, .int (gI (kb mj 3 (tX f n E (by2 f p)) k))), (11, .int (nI k))], [], M1)) (S2 := (130, [(0, .ref m0), (2, .int 3), (3, .int (nI x)), (4, .int (nI (by2 f p1))), (5, .int (nI p)), (6, .int (nI s3)), (7, .int (nI i)), (8, .int (nI (by4 f (p + 2)))), (9, .int (nI t)), (10, .int (gI (kb mj 3 (tX f n E (by2 f p)) k))), (11, .int (nI k))], [], M1)) rfl rfl rfl (fun c_127 => ?_) (fun c_127 => ?_)
              · have c_127 : (nI (eqN (tX f n E (by2 f p)) (ltx (15 + k)))) = 0 := of_decide_eq_true c_127
                have n_127 : eqN (tX f n E (by2 f p)) (ltx (15 + k)) = 0 := (eq_nI (p := eqN (tX f n E (by2 f p)) (ltx (15 + k))) (n := 0) (Nat.lt_trans (le1_eq _ _) (by decide)) (by decide)).mp c_127
                refine ps_st (S' := (137, [(11, .int ((nI k) + 1)), (0, .ref m0), (2, .int 3), (3, .int (nI x)), (4, .int (nI (by2 f p1))), (5, .int (nI p)), (6, .int (nI s3)), (7, .int (nI i)), (8, .int (nI (by4 f (p + 2)))), (9, .int (nI t)), (10, .int (gI (kb mj 3 (tX f n E (by2 f p)) k)))], [], M1)) rfl rfl rfl ?_
                rw [nI_add1 (p := k) (k := 1) (x := 1) rfl (by omega)]
                show pl _ _ _ (_, [(11, .int (nI (k + 1))), (0, .ref m0), (2, .int 3), (3, .int (nI x)), (4, .int (nI (by2 f p1))), (5, .int (nI p)), (6, .int (nI s3)), (7, .int (nI i)), (8, .int (nI (by4 f (p + 2)))), (9, .int (nI t)), (10, .int (gI (kb mj 3 (tX f n E (by2 f p)) k)))], [], M1) _
                refine ps_st (S' := (79, [(0, .ref m0), (2, .int 3), (3, .int (nI x)), (4, .int (nI (by2 f p1))), (5, .int (nI p)), (6, .int (nI s3)), (7, .int (nI i)), (8, .int (nI (by4 f (p + 2)))), (9, .int (nI t)), (10, .int (gI (kb mj 3 (tX f n E (by2 f p)) k))), (11, .int (nI (k + 1)))], [], M1)) rfl rfl rfl ?_
                have hkb : (gI (kb mj 3 (tX f n E (by2 f p)) k)) = gI (kb mj 3 (tX f n E (by2 f p)) (k + 1)) := by
                  conv => rhs; unfold kb
                  rw [if_neg (by omega)]
                rw [hkb]
                exact ih.2 (i) (p) (s2) (s3) (k + 1) (t) M1 I1 R1 hR1 hEI1 hER1 hl51 hl52 hl53 hF1 hY1 hP1 hK1 (hi0) (hl) (hb) (ha) (hs9) (by omega) (h1) (hsy)
              · have c_127 : ¬ ((nI (eqN (tX f n E (by2 f p)) (ltx (15 + k)))) = 0) := of_decide_eq_false c_127
                have n_127 : ¬ (eqN (tX f n E (by2 f p)) (ltx (15 + k)) = 0) := fun h9 => c_127 ((eq_nI (p := eqN (tX f n E (by2 f p)) (ltx (15 + k))) (n := 0) (Nat.lt_trans (le1_eq _ _) (by decide)) (by decide)).mpr h9)
                refine ps_st (S' := (132, [(0, .ref m0), (2, .int 3), (3, .int (nI x)), (4, .int (nI (by2 f p1))), (5, .int (nI p)), (6, .int (nI s3)), (7, .int (nI i)), (8, .int (nI (by4 f (p + 2)))), (9, .int (nI t)), (10, .int (gI (kb mj 3 (tX f n E (by2 f p)) k))), (11, .int (nI k))], [.int (nI k)], M1)) rfl rfl rfl ?_
                refine ps_st (S' := (134, [(0, .ref m0), (2, .int 3), (3, .int (nI x)), (4, .int (nI (by2 f p1))), (5, .int (nI p)), (6, .int (nI s3)), (7, .int (nI i)), (8, .int (nI (by4 f (p + 2)))), (9, .int (nI t)), (10, .int (nI k)), (11, .int (nI k))], [], M1)) rfl rfl rfl ?_
                refine ps_st (S' := (137, [(11, .int ((nI k) + 1)), (0, .ref m0), (2, .int 3), (3, .int (nI x)), (4, .int (nI (by2 f p1))), (5, .int (nI p)), (6, .int (nI s3)), (7, .int (nI i)), (8, .int (nI (by4 f (p + 2)))), (9, .int (nI t)), (10, .int (nI k))], [], M1)) rfl rfl rfl ?_
                rw [nI_add1 (p := k) (k := 1) (x := 1) rfl (by omega)]
                show pl _ _ _ (_, [(11, .int (nI (k + 1))), (0, .ref m0), (2, .int 3), (3, .int (nI x)), (4, .int (nI (by2 f p1))), (5, .int (nI p)), (6, .int (nI s3)), (7, .int (nI i)), (8, .int (nI (by4 f (p + 2)))), (9, .int (nI t)), (10, .int (nI k))], [], M1) _
                refine ps_st (S' := (79, [(0, .ref m0), (2, .int 3), (3, .int (nI x)), (4, .int (nI (by2 f p1))), (5, .int (nI p)), (6, .int (nI s3)), (7, .int (nI i)), (8, .int (nI (by4 f (p + 2)))), (9, .int (nI t)), (10, .int (nI k)), (11, .int (nI (k + 1)))], [], M1)) rfl rfl rfl ?_
                have hkb : (nI k) = gI (kb mj 3 (tX f n E (by2 f p)) (k + 1)) := by
                  conv => rhs; unfold kb
                  rw [if_pos ⟨by omega, by omega, by omega⟩]
                  rfl
                rw [hkb]
                exact ih.2 (i) (p) (s2) (s3) (k + 1) (t) M1 I1 R1 hR1 hEI1 hER1 hl51 hl52 hl53 hF1 hY1 hP1 hK1 (hi0) (hl) (hb) (ha) (hs9) (by omega) (h1) (hsy)
  refine ps_st (S' := (1, [(0, .ref m0), (1, .int (nI p1)), (2, .int 3), (3, .int (nI x))], [.ref m0], M)) rfl rfl rfl ?_
  refine ps_st (S' := (2, [(0, .ref m0), (1, .int (nI p1)), (2, .int 3), (3, .int (nI x))], [.int (nI p1), .ref m0], M)) rfl rfl rfl ?_
  refine pl_call (a := [.ref m0, .int (nI p1)]) (rest := []) rfl rfl rfl (rd_u2 (n := n) (f := f) (p := p1) hR hF (by omega)) (fun v61 M62 q63 => ?_)
  obtain ⟨rfl, rfl⟩ := q63
  show pl _ _ _ (5, [(0, .ref m0), (1, .int (nI p1)), (2, .int 3), (3, .int (nI x))], [.int (nI (by2 f p1))], M) _
  have hu_2 := by2_lt f p1
  refine ps_st (S' := (7, [(4, .int (nI (by2 f p1))), (0, .ref m0), (1, .int (nI p1)), (2, .int 3), (3, .int (nI x))], [], M)) rfl rfl rfl ?_
  refine ps_st (S' := (8, [(4, .int (nI (by2 f p1))), (0, .ref m0), (1, .int (nI p1)), (2, .int 3), (3, .int (nI x))], [.int (nI p1)], M)) rfl rfl rfl ?_
  refine ps_st (S' := (9, [(4, .int (nI (by2 f p1))), (0, .ref m0), (1, .int (nI p1)), (2, .int 3), (3, .int (nI x))], [.int 2, .int (nI p1)], M)) rfl rfl rfl ?_
  refine ps_st (S' := (10, [(4, .int (nI (by2 f p1))), (0, .ref m0), (1, .int (nI p1)), (2, .int 3), (3, .int (nI x))], [.int ((nI p1) + 2)], M)) rfl rfl rfl ?_
  rw [nI_add1 (p := p1) (k := 2) (x := 2) rfl (by omega)]
  show pl _ _ _ (_, [(4, .int (nI (by2 f p1))), (0, .ref m0), (1, .int (nI p1)), (2, .int 3), (3, .int (nI x))], [.int (nI (p1 + 2))], M) _
  refine ps_st (S' := (12, [(5, .int (nI (p1 + 2))), (4, .int (nI (by2 f p1))), (0, .ref m0), (1, .int (nI p1)), (2, .int 3), (3, .int (nI x))], [], M)) rfl rfl rfl ?_
  refine ps_st (S' := (13, [(5, .int (nI (p1 + 2))), (4, .int (nI (by2 f p1))), (0, .ref m0), (1, .int (nI p1)), (2, .int 3), (3, .int (nI x))], [.int 0], M)) rfl rfl rfl ?_
  refine ps_st (S' := (15, [(6, .int 0), (5, .int (nI (p1 + 2))), (4, .int (nI (by2 f p1))), (0, .ref m0), (1, .int (nI p1)), (2, .int 3), (3, .int (nI x))], [], M)) rfl rfl rfl ?_
  refine ps_st (S' := (16, [(6, .int 0), (5, .int (nI (p1 + 2))), (4, .int (nI (by2 f p1))), (0, .ref m0), (1, .int (nI p1)), (2, .int 3), (3, .int (nI x))], [.int 0], M)) rfl rfl rfl ?_
  refine ps_st (S' := (18, [(0, .ref m0), (2, .int 3), (3, .int (nI x)), (4, .int (nI (by2 f p1))), (5, .int (nI (p1 + 2))), (6, .int 0), (7, .int 0)], [], M)) rfl rfl rfl ?_
  exact (LL kf).1 (0) (p1 + 2) (0) (0) M I R hR hEI hER hi51 hi52 hi53 hF hY hP hK (by omega) (by decide) (rfl) (hat) (rfl)
end
